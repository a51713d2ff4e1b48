/-! ===== told ===== -/
def anw (N cnt : Nat) : Nat := Nat.add (Nat.succ N) (Nat.mul (Nat.succ cnt) (Nat.pow 2 40))
theorem anw_0 {N cnt : Nat} (h5 : N ≤ 5) : pk 40 (anw N cnt) 0 = N + 1 := by
  show ((N + 1 + (cnt + 1) * 1099511627776) >>> 0) % 1099511627776 = N + 1
  rw [Nat.shiftRight_zero]
  omega
theorem anw_1 {N cnt : Nat} (h5 : N ≤ 5) (h3 : cnt ≤ 3) : pk 40 (anw N cnt) 1 = cnt + 1 := by
  show ((N + 1 + (cnt + 1) * 1099511627776) >>> 40) % 1099511627776 = cnt + 1
  rw [Nat.shiftRight_eq_div_pow]
  show (N + 1 + (cnt + 1) * 1099511627776) / 1099511627776 % 1099511627776 = cnt + 1
  omega
theorem anw_2 {N cnt i : Nat} (h5 : N ≤ 5) (h3 : cnt ≤ 3) (hi : 2 ≤ i) : pk 40 (anw N cnt) i = 0 := by
  apply pk_zero
  intro b hb
  apply Nat.testBit_lt_two_pow
  have h1 : anw N cnt < 2 ^ 80 := by
    show N + 1 + (cnt + 1) * 1099511627776 < 1208925819614629174706176
    omega
  exact Nat.lt_of_lt_of_le h1 (Nat.pow_le_pow_right (by omega) (by omega))
theorem mx_gen {A : Nat} {nw : Nat → Nat} (h : ∀ i, pk 40 A i = 0 ∨ pk 40 A i = nw i) : mx 40 A nw = nw := by
  funext i
  unfold mx
  rcases h i with e | e
  · rw [e]
    rfl
  · rw [e]
    cases nw i <;> rfl
theorem mx_now {N cnt : Nat} {nw : Nat → Nat} (h5 : N ≤ 5) (h3 : cnt ≤ 3) (h0 : nw 0 = N + 1) (h1 : nw 1 = cnt + 1) : ∃ A, pk 40 A 0 = N + 1 ∧ pk 40 A 1 = cnt + 1 ∧ mx 40 A nw = nw := by
  refine ⟨anw N cnt, anw_0 h5, anw_1 h5 h3, mx_gen (fun i => ?_)⟩
  by_cases e : i = 0
  · rw [e, anw_0 h5, h0]
    exact Or.inr rfl
  · by_cases e2 : i = 1
    · rw [e2, anw_1 h5 h3, h1]
      exact Or.inr rfl
    · exact Or.inl (anw_2 h5 h3 (by omega))
theorem kget_out {α : Type} {d : α} {l : List α} {n : Nat} (h : l.length ≤ n) : kget d l n = d := by
  rw [kget_eq, List.getD_eq_getElem?_getD, List.getElem?_eq_none h]
  rfl
theorem told_both {N cnt c len b n f x A : Nat} (hA0 : pk 40 A 0 = N + 1) (hA1 : pk 40 A 1 = cnt + 1) (hx : x < 4294967296) : ∃ r R, P_CXr_X8_told N cnt c len (rcf 0 b n f) x = some (r, R) ∧ P_CMt_X9_told c len A (rcf 0 b n f) x = some (r, R) ∧ (R = rcf 0 b n f ∨ R = rcf 1 b n f) := by
  by_cases h7 : 7 ≤ x
  · refine ⟨4294967294, rcf 1 b n f, ?_, ?_, Or.inr rfl⟩
    · unfold P_CXr_X8_told p_CXr_X8_told_0
      rw [kget_out h7]
      unfold p_CXr_X8_told_83
      rw [po2_s (refX_ok b n f (Or.inl ⟨rfl, rfl⟩))]
    · unfold P_CMt_X9_told p_CMt_X9_told_0
      have e : P_CMt_X9_in x 0 6 = some 0 := by
        have e := in_ok (c := x) (m := 6) hx (by omega)
        rw [if_neg (by omega)] at e
        exact e
      rw [po1_s e, pgeq_0 rfl]
      unfold p_CMt_X9_told_18
      have e2 : P_CMt_X9_refuses (rcf 0 b n f) 4294967294 = some (4294967294, rcf 1 b n f) := refM_ok b n f (Or.inl ⟨rfl, rfl⟩)
      rw [po2_s e2]
      rfl
  · have e : P_CMt_X9_in x 0 6 = some 1 := by
      have e := in_ok (c := x) (m := 6) hx (by omega)
      rw [if_pos (by omega)] at e
      exact e
    have hT : ∀ r, P_CMt_X9_toldOf c len A (rcf 0 b n f) x = some r → P_CMt_X9_told c len A (rcf 0 b n f) x = some (r, rcf 0 b n f) := fun r hr => by
      unfold P_CMt_X9_told p_CMt_X9_told_0
      rw [po1_s e, pgeq_s (by omega)]
      unfold p_CMt_X9_told_10
      rw [po1_s hr]
      rfl
    have hc : x = 0 ∨ x = 1 ∨ x = 2 ∨ x = 3 ∨ x = 4 ∨ x = 5 ∨ x = 6 := by omega
    rcases hc with rfl | rfl | rfl | rfl | rfl | rfl | rfl
    · exact ⟨b, _, rfl, hT b rfl, Or.inl rfl⟩
    · exact ⟨n, _, rfl, hT n rfl, Or.inl rfl⟩
    · exact ⟨f, _, rfl, hT f rfl, Or.inl rfl⟩
    · exact ⟨len, _, rfl, hT len rfl, Or.inl rfl⟩
    · refine ⟨N, _, rfl, hT N ?_, Or.inl rfl⟩
      show pn (pk 40 A 0) (fun x2 => p_CMt_X9_toldOf_47 A (rcf 0 b n f) x2) = _
      rw [hA0]
      rfl
    · refine ⟨cnt, _, rfl, hT cnt ?_, Or.inl rfl⟩
      show pn (pk 40 A 1) (fun x2 => p_CMt_X9_toldOf_47 A (rcf 0 b n f) x2) = _
      rw [hA1]
      rfl
    · exact ⟨c, _, rfl, hT c rfl, Or.inl rfl⟩
set_option maxRecDepth 100000 in
theorem step_told {x : Nat} {kx km : KH} (hx32 : x < 4294967296) (h : INV kx km) : STEP f_X8_told f_X9_told [k_i x] kx km := by
  obtain ⟨N, cnt, nowc, nw, c, pp, pc, pcd, past, len, t, b, n, f, hs, hv, hc, hp, hl, ht, hx, hm⟩ := h
  have hg : gL N (lst cnt nowc) < 195 := (gset hv).1.2.2.2.1
  obtain ⟨d0, k0⟩ := hv.2.2.2.1 0 (by omega)
  obtain ⟨d1, k1⟩ := hv.2.2.2.1 1 (by omega)
  obtain ⟨d2, k2⟩ := hv.2.2.2.1 2 (by omega)
  obtain ⟨v3_points, v3_count, a_trialc, v17_orders, v17_kind, v17_number, v17_figuresDue, v17_figuresSeen, v17_pointsThen, a_kinds, a_numbers, v0_sortsKnown, v0_rowsKnown, v21_count, v22_count, v22_exponent, v23_order, v23_points, a_codes, a_einv, a_figures, a_generators, a_codeAtKey, a_placeAtKey, a_made, a_sortOf, a_sizes, a_turns, a_leasts, a_sinv, a_pointsLeft, a_pairs, a_powers, v39_p, v39_root, a_over, a_rootPowers, a_degrees, a_multiplied, v44_lines, v44_nextLines, v44_starts, v44_nextStarts, v44_spaces, v44_nextSpaces, v44_nextCount, v44_width, a_pivots, a_mix, a_RS, a_RF, b21_count, b44_spaces, b44_nextSpaces, b44_nextCount, b44_width, hk, rfl⟩ := hx
  obtain ⟨mv_at, mv_fault, mv_orders, mv_pointsThen, mv_h, ma_held, ma_letters, ma_numbers, mv_isLaid, mv_order, mv_sorts, mv_exponent, mv_prime, mv_root, mv_spaces, mv_splits, ma_elements, ma_products, ma_sortOf, ma_inverse, ma_turns, ma_size, ma_least, ma_timesOf, ma_wide, ma_bases, ma_newWide, ma_newBases, ma_grid, ma_lead, ma_spreads, ma_degrees, ma_values, ma_one, mb_spaces, mb_splits, hmk, hmeq⟩ := hm
  obtain ⟨A, hA0, hA1, hmx⟩ := mx_now hv.2.1 hv.2.2.1 hs.1 hs.2.1
  have eM : ∀ R : Nat → Nat, HQ_CMt c mv_isLaid mv_order mv_sorts mv_exponent mv_prime mv_root mv_spaces mb_spaces mv_splits mb_splits len mv_at mv_fault mv_orders mv_pointsThen mv_h A nw ma_held past R ma_elements ma_products ma_sortOf ma_inverse ma_turns ma_size ma_least ma_timesOf ma_wide ma_bases ma_newWide ma_newBases ma_grid ma_lead ma_spreads ma_degrees ma_values ma_one t ma_letters ma_numbers = H_CM c mv_isLaid mv_order mv_sorts mv_exponent mv_prime mv_root mv_spaces mb_spaces mv_splits mb_splits len mv_at mv_fault mv_orders mv_pointsThen mv_h nw ma_held past R (pk 17 ma_elements) (pk 8 ma_products) (pk 40 ma_sortOf) (pk 8 ma_inverse) (pk 8 ma_turns) (pk 8 ma_size) (pk 8 ma_least) (pk 8 ma_timesOf) (pk 8 ma_wide) (pk 8 ma_bases) (pk 8 ma_newWide) (pk 8 ma_newBases) (pk 8 ma_grid) (pk 40 ma_lead) (pk 8 ma_spreads) (pk 8 ma_degrees) (pk 8 ma_values) (pk 8 ma_one) t ma_letters ma_numbers := fun R => by
    unfold HQ_CMt
    rw [hmx]
  obtain ⟨r, R, q1, q2, q3⟩ := told_both (c := c) (len := len) (b := b) (n := n) (f := f) (x := x) hA0 hA1 hx32
  have a1 := sn_CXr_X8_told v0_sortsKnown v0_rowsKnown N cnt nowc v3_points v3_count a_trialc c ((pp 0)) ((pc 0)) ((pcd 0)) ((pp 1)) ((pc 1)) ((pcd 1)) ((pp 2)) ((pc 2)) ((pcd 2)) ((pp 3)) ((pc 3)) ((pcd 3)) ((pp 4)) ((pc 4)) ((pcd 4)) len v17_orders v17_kind v17_number v17_figuresDue v17_figuresSeen v17_pointsThen t a_kinds a_numbers v21_count b21_count v22_count v22_exponent v23_order v23_points a_codes a_einv a_figures a_generators a_codeAtKey a_placeAtKey a_made a_sortOf a_sizes a_turns a_leasts a_sinv a_pointsLeft a_pairs a_powers v39_p v39_root a_over a_rootPowers a_degrees a_multiplied v44_lines v44_nextLines v44_starts v44_nextStarts v44_spaces b44_spaces v44_nextSpaces b44_nextSpaces v44_nextCount b44_nextCount v44_width b44_width a_pivots a_mix ((rcf 0 b n f)) a_RS a_RF x q1
  have a2 := sn_CMt_X9_told c mv_isLaid mv_order mv_sorts mv_exponent mv_prime mv_root mv_spaces mb_spaces mv_splits mb_splits len mv_at mv_fault mv_orders mv_pointsThen mv_h A nw ma_held past ((rcf 0 b n f)) ma_elements ma_products ma_sortOf ma_inverse ma_turns ma_size ma_least ma_timesOf ma_wide ma_bases ma_newWide ma_newBases ma_grid ma_lead ma_spreads ma_degrees ma_values ma_one t ma_letters ma_numbers x q2
  rw [eM, eM] at a2
  rcases q3 with rfl | rfl
  · refine ⟨r, _, _, a1, by rw [hmeq]; exact a2, ?_⟩
    exact ⟨_, _, Or.inl (kleH_refl _), kleH_refl _, N, cnt, nowc, nw, c, pp, pc, pcd, past, len, t, b, n, f, hs, hv, hc, hp, hl, ht, ⟨v3_points, v3_count, a_trialc, v17_orders, v17_kind, v17_number, v17_figuresDue, v17_figuresSeen, v17_pointsThen, a_kinds, a_numbers, v0_sortsKnown, v0_rowsKnown, v21_count, v22_count, v22_exponent, v23_order, v23_points, a_codes, a_einv, a_figures, a_generators, a_codeAtKey, a_placeAtKey, a_made, a_sortOf, a_sizes, a_turns, a_leasts, a_sinv, a_pointsLeft, a_pairs, a_powers, v39_p, v39_root, a_over, a_rootPowers, a_degrees, a_multiplied, v44_lines, v44_nextLines, v44_starts, v44_nextStarts, v44_spaces, v44_nextSpaces, v44_nextCount, v44_width, a_pivots, a_mix, a_RS, a_RF, b21_count, b44_spaces, b44_nextSpaces, b44_nextCount, b44_width, hk, rfl⟩, ⟨mv_at, mv_fault, mv_orders, mv_pointsThen, mv_h, ma_held, ma_letters, ma_numbers, mv_isLaid, mv_order, mv_sorts, mv_exponent, mv_prime, mv_root, mv_spaces, mv_splits, ma_elements, ma_products, ma_sortOf, ma_inverse, ma_turns, ma_size, ma_least, ma_timesOf, ma_wide, ma_bases, ma_newWide, ma_newBases, ma_grid, ma_lead, ma_spreads, ma_degrees, ma_values, ma_one, mb_spaces, mb_splits, hmk, rfl⟩⟩
  · refine ⟨r, _, _, a1, by rw [hmeq]; exact a2, ?_⟩
    exact ⟨_, _, Or.inl (kleH_refl _), kleH_refl _, N, cnt, nowc, nw, c, pp, pc, pcd, past, len, t, (n_add b 1), n, f, hs, hv, hc, hp, hl, ht, ⟨v3_points, v3_count, a_trialc, v17_orders, v17_kind, v17_number, v17_figuresDue, v17_figuresSeen, v17_pointsThen, a_kinds, a_numbers, v0_sortsKnown, v0_rowsKnown, v21_count, v22_count, v22_exponent, v23_order, v23_points, a_codes, a_einv, a_figures, a_generators, a_codeAtKey, a_placeAtKey, a_made, a_sortOf, a_sizes, a_turns, a_leasts, a_sinv, a_pointsLeft, a_pairs, a_powers, v39_p, v39_root, a_over, a_rootPowers, a_degrees, a_multiplied, v44_lines, v44_nextLines, v44_starts, v44_nextStarts, v44_spaces, v44_nextSpaces, v44_nextCount, v44_width, a_pivots, a_mix, a_RS, a_RF, b21_count, b44_spaces, b44_nextSpaces, b44_nextCount, b44_width, hk, rfl⟩, ⟨mv_at, mv_fault, mv_orders, mv_pointsThen, mv_h, ma_held, ma_letters, ma_numbers, mv_isLaid, mv_order, mv_sorts, mv_exponent, mv_prime, mv_root, mv_spaces, mv_splits, ma_elements, ma_products, ma_sortOf, ma_inverse, ma_turns, ma_size, ma_least, ma_timesOf, ma_wide, ma_bases, ma_newWide, ma_newBases, ma_grid, ma_lead, ma_spreads, ma_degrees, ma_values, ma_one, mb_spaces, mb_splits, hmk, rfl⟩⟩
