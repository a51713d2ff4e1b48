/-! ===== type, clear, back, reads ===== -/
set_option maxRecDepth 100000 in
theorem step_type {x : Nat} {kx km : KH} (hx32 : x < 4294967296) (h : INV kx km) : STEP f_X8_type f_X9_type [k_i x] kx km := by
  obtain ⟨N, cnt, nowc, nw, c, pp, pc, pcd, past, len, t, b, n, f, hs, hv, hc, hp, hl, ht, hx, hm⟩ := h
  have hg : gL N (lst cnt nowc) < 195 := (gset hv).1.2.2.2.1
  obtain ⟨d0, k0⟩ := hv.2.2.2.1 0 (by omega)
  obtain ⟨d1, k1⟩ := hv.2.2.2.1 1 (by omega)
  obtain ⟨d2, k2⟩ := hv.2.2.2.1 2 (by omega)
  obtain ⟨v3_points, v3_count, a_trialc, v17_orders, v17_kind, v17_number, v17_figuresDue, v17_figuresSeen, v17_pointsThen, a_kinds, a_numbers, v0_sortsKnown, v0_rowsKnown, v21_count, v22_count, v22_exponent, v23_order, v23_points, a_codes, a_einv, a_figures, a_generators, a_codeAtKey, a_placeAtKey, a_made, a_sortOf, a_sizes, a_turns, a_leasts, a_sinv, a_pointsLeft, a_pairs, a_powers, v39_p, v39_root, a_over, a_rootPowers, a_degrees, a_multiplied, v44_lines, v44_nextLines, v44_starts, v44_nextStarts, v44_spaces, v44_nextSpaces, v44_nextCount, v44_width, a_pivots, a_mix, a_RS, a_RF, b21_count, b44_spaces, b44_nextSpaces, b44_nextCount, b44_width, hk, rfl⟩ := hx
  obtain ⟨mv_at, mv_fault, mv_orders, mv_pointsThen, mv_h, ma_held, ma_letters, ma_numbers, mv_isLaid, mv_order, mv_sorts, mv_exponent, mv_prime, mv_root, mv_spaces, mv_splits, ma_elements, ma_products, ma_sortOf, ma_inverse, ma_turns, ma_size, ma_least, ma_timesOf, ma_wide, ma_bases, ma_newWide, ma_newBases, ma_grid, ma_lead, ma_spreads, ma_degrees, ma_values, ma_one, mb_spaces, mb_splits, hmk, rfl⟩ := hm
  by_cases hx : x < 128
  · by_cases h80 : len = 80
    · subst h80
      have a1 : P_CX_X8_type 80 t 0 x = some (4294967292, 80, t, 3) := by
        unfold P_CX_X8_type p_CX_X8_type_0 P_CX_X4_append_17 p_CX_X4_append_17_0
        rw [po1_s (blw_t hx (by omega)), pgeq_s (by omega)]
        unfold p_CX_X4_append_17_13
        rw [pb_f (slt_f (by omega) (by omega))]
        unfold p_CX_X4_append_17_22
        rw [po3_s rfl, pglt_p (by omega)]
        rfl
      have a2 : P_CMf_X9_type 80 0 t x = some (4294967292, 80, 3, t) := by
        unfold P_CMf_X9_type p_CMf_X9_type_0
        rw [po1_s (in_ok hx32 (by omega)), if_pos (by omega), pgeq_s (by omega)]
        rfl
      refine ⟨4294967292, _, _, sn_CX_X8_type v0_sortsKnown v0_rowsKnown N cnt nowc v3_points v3_count a_trialc c ((pp 0)) ((pc 0)) ((pcd 0)) ((pp 1)) ((pc 1)) ((pcd 1)) ((pp 2)) ((pc 2)) ((pcd 2)) ((pp 3)) ((pc 3)) ((pcd 3)) ((pp 4)) ((pc 4)) ((pcd 4)) 80 v17_orders v17_kind v17_number v17_figuresDue v17_figuresSeen v17_pointsThen t a_kinds a_numbers v21_count b21_count v22_count v22_exponent v23_order v23_points a_codes a_einv a_figures a_generators a_codeAtKey a_placeAtKey a_made a_sortOf a_sizes a_turns a_leasts a_sinv a_pointsLeft a_pairs a_powers v39_p v39_root a_over a_rootPowers a_degrees a_multiplied v44_lines v44_nextLines v44_starts v44_nextStarts v44_spaces b44_spaces v44_nextSpaces b44_nextSpaces v44_nextCount b44_nextCount v44_width b44_width a_pivots a_mix 0 b n f a_RS a_RF x a1, sn_CMf_X9_type c mv_isLaid mv_order mv_sorts mv_exponent mv_prime mv_root mv_spaces mb_spaces mv_splits mb_splits 80 mv_at mv_fault mv_orders mv_pointsThen mv_h nw ma_held past 0 b n f ((pk 17 ma_elements)) ((pk 8 ma_products)) ma_sortOf ma_inverse ma_turns ma_size ma_least ma_timesOf ma_wide ma_bases ma_newWide ma_newBases ma_grid ma_lead ma_spreads ma_degrees ma_values ma_one t ma_letters ma_numbers x a2, ?_⟩
      exact ⟨_, _, Or.inl (kleH_refl _), kleH_refl _, N, cnt, nowc, nw, c, pp, pc, pcd, past, 80, t, b, n, (n_add f 1), hs, hv, hc, hp, hl, ht, ⟨v3_points, v3_count, a_trialc, v17_orders, v17_kind, v17_number, v17_figuresDue, v17_figuresSeen, v17_pointsThen, a_kinds, a_numbers, v0_sortsKnown, v0_rowsKnown, v21_count, v22_count, v22_exponent, v23_order, v23_points, a_codes, a_einv, a_figures, a_generators, a_codeAtKey, a_placeAtKey, a_made, a_sortOf, a_sizes, a_turns, a_leasts, a_sinv, a_pointsLeft, a_pairs, a_powers, v39_p, v39_root, a_over, a_rootPowers, a_degrees, a_multiplied, v44_lines, v44_nextLines, v44_starts, v44_nextStarts, v44_spaces, v44_nextSpaces, v44_nextCount, v44_width, a_pivots, a_mix, a_RS, a_RF, b21_count, b44_spaces, b44_nextSpaces, b44_nextCount, b44_width, hk, rfl⟩, ⟨mv_at, mv_fault, mv_orders, mv_pointsThen, mv_h, ma_held, ma_letters, ma_numbers, mv_isLaid, mv_order, mv_sorts, mv_exponent, mv_prime, mv_root, mv_spaces, mv_splits, ma_elements, ma_products, ma_sortOf, ma_inverse, ma_turns, ma_size, ma_least, ma_timesOf, ma_wide, ma_bases, ma_newWide, ma_newBases, ma_grid, ma_lead, ma_spreads, ma_degrees, ma_values, ma_one, mb_spaces, mb_splits, hmk, rfl⟩⟩
    · have hl2 : len < 80 := by omega
      have a1 : P_CX_X8_type len t 0 x = some (len + 1, len + 1, uf t len (Nat.succ x), 0) := by
        unfold P_CX_X8_type p_CX_X8_type_0 P_CX_X4_append_17 p_CX_X4_append_17_0
        rw [po1_s (blw_t hx (by omega)), pgeq_s (by omega)]
        unfold p_CX_X4_append_17_13
        rw [pb_t (slt_t (by omega) (by omega))]
        unfold p_CX_X4_append_17_25
        rw [pq_t (bl_t hl2), ks (na (a := len) (b := 1) (by omega)), po3_s rfl, pglt_n (by omega)]
        rfl
      have a2 : P_CMf_X9_type len 0 t x = some (len + 1, len + 1, 0, uf t len (Nat.succ x)) := by
        unfold P_CMf_X9_type p_CMf_X9_type_0
        rw [po1_s (in_ok hx32 (by omega)), if_pos (by omega), pgeq_s (by omega)]
        unfold p_CMf_X9_type_17
        rw [pb_f (be_f h80)]
        unfold p_CMf_X9_type_33
        rw [pq_t (bl_t hl2), ks (na (a := len) (b := 1) (by omega))]
      refine ⟨len + 1, _, _, sn_CX_X8_type v0_sortsKnown v0_rowsKnown N cnt nowc v3_points v3_count a_trialc c ((pp 0)) ((pc 0)) ((pcd 0)) ((pp 1)) ((pc 1)) ((pcd 1)) ((pp 2)) ((pc 2)) ((pcd 2)) ((pp 3)) ((pc 3)) ((pcd 3)) ((pp 4)) ((pc 4)) ((pcd 4)) len v17_orders v17_kind v17_number v17_figuresDue v17_figuresSeen v17_pointsThen t a_kinds a_numbers v21_count b21_count v22_count v22_exponent v23_order v23_points a_codes a_einv a_figures a_generators a_codeAtKey a_placeAtKey a_made a_sortOf a_sizes a_turns a_leasts a_sinv a_pointsLeft a_pairs a_powers v39_p v39_root a_over a_rootPowers a_degrees a_multiplied v44_lines v44_nextLines v44_starts v44_nextStarts v44_spaces b44_spaces v44_nextSpaces b44_nextSpaces v44_nextCount b44_nextCount v44_width b44_width a_pivots a_mix 0 b n f a_RS a_RF x a1, sn_CMf_X9_type c mv_isLaid mv_order mv_sorts mv_exponent mv_prime mv_root mv_spaces mb_spaces mv_splits mb_splits len mv_at mv_fault mv_orders mv_pointsThen mv_h nw ma_held past 0 b n f ((pk 17 ma_elements)) ((pk 8 ma_products)) ma_sortOf ma_inverse ma_turns ma_size ma_least ma_timesOf ma_wide ma_bases ma_newWide ma_newBases ma_grid ma_lead ma_spreads ma_degrees ma_values ma_one t ma_letters ma_numbers x a2, ?_⟩
      have ht2 : ∀ k, k < len + 1 → ∃ z, uf t len (Nat.succ x) k = z + 1 ∧ z < 128 := fun k hk2 => by
        by_cases e : k = len
        · exact ⟨x, uf_same e, hx⟩
        · rw [uf_ne e]
          exact ht k (by omega)
      exact ⟨_, _, Or.inl (kleH_refl _), kleH_refl _, N, cnt, nowc, nw, c, pp, pc, pcd, past, len + 1, uf t len (Nat.succ x), b, n, f, hs, hv, hc, hp, hl2, ht2, ⟨v3_points, v3_count, a_trialc, v17_orders, v17_kind, v17_number, v17_figuresDue, v17_figuresSeen, v17_pointsThen, a_kinds, a_numbers, v0_sortsKnown, v0_rowsKnown, v21_count, v22_count, v22_exponent, v23_order, v23_points, a_codes, a_einv, a_figures, a_generators, a_codeAtKey, a_placeAtKey, a_made, a_sortOf, a_sizes, a_turns, a_leasts, a_sinv, a_pointsLeft, a_pairs, a_powers, v39_p, v39_root, a_over, a_rootPowers, a_degrees, a_multiplied, v44_lines, v44_nextLines, v44_starts, v44_nextStarts, v44_spaces, v44_nextSpaces, v44_nextCount, v44_width, a_pivots, a_mix, a_RS, a_RF, b21_count, b44_spaces, b44_nextSpaces, b44_nextCount, b44_width, hk, rfl⟩, ⟨mv_at, mv_fault, mv_orders, mv_pointsThen, mv_h, ma_held, ma_letters, ma_numbers, mv_isLaid, mv_order, mv_sorts, mv_exponent, mv_prime, mv_root, mv_spaces, mv_splits, ma_elements, ma_products, ma_sortOf, ma_inverse, ma_turns, ma_size, ma_least, ma_timesOf, ma_wide, ma_bases, ma_newWide, ma_newBases, ma_grid, ma_lead, ma_spreads, ma_degrees, ma_values, ma_one, mb_spaces, mb_splits, hmk, rfl⟩⟩
  · have a1 : P_CX_X8_type len t 0 x = some (4294967294, len, t, 1) := by
      unfold P_CX_X8_type p_CX_X8_type_0 P_CX_X4_append_17 p_CX_X4_append_17_0
      rw [po1_s (blw_f (by omega) (by omega) hx32), pgeq_0 rfl]
      unfold p_CX_X4_append_17_10
      rw [po3_s rfl, pglt_p (by omega)]
      rfl
    have a2 : P_CMf_X9_type len 0 t x = some (4294967294, len, 1, t) := by
      unfold P_CMf_X9_type p_CMf_X9_type_0
      rw [po1_s (in_ok hx32 (by omega)), if_neg (by omega), pgeq_0 rfl]
      rfl
    refine ⟨4294967294, _, _, sn_CX_X8_type v0_sortsKnown v0_rowsKnown N cnt nowc v3_points v3_count a_trialc c ((pp 0)) ((pc 0)) ((pcd 0)) ((pp 1)) ((pc 1)) ((pcd 1)) ((pp 2)) ((pc 2)) ((pcd 2)) ((pp 3)) ((pc 3)) ((pcd 3)) ((pp 4)) ((pc 4)) ((pcd 4)) len v17_orders v17_kind v17_number v17_figuresDue v17_figuresSeen v17_pointsThen t a_kinds a_numbers v21_count b21_count v22_count v22_exponent v23_order v23_points a_codes a_einv a_figures a_generators a_codeAtKey a_placeAtKey a_made a_sortOf a_sizes a_turns a_leasts a_sinv a_pointsLeft a_pairs a_powers v39_p v39_root a_over a_rootPowers a_degrees a_multiplied v44_lines v44_nextLines v44_starts v44_nextStarts v44_spaces b44_spaces v44_nextSpaces b44_nextSpaces v44_nextCount b44_nextCount v44_width b44_width a_pivots a_mix 0 b n f a_RS a_RF x a1, sn_CMf_X9_type c mv_isLaid mv_order mv_sorts mv_exponent mv_prime mv_root mv_spaces mb_spaces mv_splits mb_splits len mv_at mv_fault mv_orders mv_pointsThen mv_h nw ma_held past 0 b n f ((pk 17 ma_elements)) ((pk 8 ma_products)) ma_sortOf ma_inverse ma_turns ma_size ma_least ma_timesOf ma_wide ma_bases ma_newWide ma_newBases ma_grid ma_lead ma_spreads ma_degrees ma_values ma_one t ma_letters ma_numbers x a2, ?_⟩
    exact ⟨_, _, Or.inl (kleH_refl _), kleH_refl _, N, cnt, nowc, nw, c, pp, pc, pcd, past, len, t, (n_add b 1), n, f, hs, hv, hc, hp, hl, ht, ⟨v3_points, v3_count, a_trialc, v17_orders, v17_kind, v17_number, v17_figuresDue, v17_figuresSeen, v17_pointsThen, a_kinds, a_numbers, v0_sortsKnown, v0_rowsKnown, v21_count, v22_count, v22_exponent, v23_order, v23_points, a_codes, a_einv, a_figures, a_generators, a_codeAtKey, a_placeAtKey, a_made, a_sortOf, a_sizes, a_turns, a_leasts, a_sinv, a_pointsLeft, a_pairs, a_powers, v39_p, v39_root, a_over, a_rootPowers, a_degrees, a_multiplied, v44_lines, v44_nextLines, v44_starts, v44_nextStarts, v44_spaces, v44_nextSpaces, v44_nextCount, v44_width, a_pivots, a_mix, a_RS, a_RF, b21_count, b44_spaces, b44_nextSpaces, b44_nextCount, b44_width, hk, rfl⟩, ⟨mv_at, mv_fault, mv_orders, mv_pointsThen, mv_h, ma_held, ma_letters, ma_numbers, mv_isLaid, mv_order, mv_sorts, mv_exponent, mv_prime, mv_root, mv_spaces, mv_splits, ma_elements, ma_products, ma_sortOf, ma_inverse, ma_turns, ma_size, ma_least, ma_timesOf, ma_wide, ma_bases, ma_newWide, ma_newBases, ma_grid, ma_lead, ma_spreads, ma_degrees, ma_values, ma_one, mb_spaces, mb_splits, hmk, rfl⟩⟩
set_option maxRecDepth 100000 in
theorem step_clear {kx km : KH} (h : INV kx km) : STEP f_X8_clear f_X9_clear [] kx km := by
  obtain ⟨N, cnt, nowc, nw, c, pp, pc, pcd, past, len, t, b, n, f, hs, hv, hc, hp, hl, ht, hx, hm⟩ := h
  have hg : gL N (lst cnt nowc) < 195 := (gset hv).1.2.2.2.1
  obtain ⟨d0, k0⟩ := hv.2.2.2.1 0 (by omega)
  obtain ⟨d1, k1⟩ := hv.2.2.2.1 1 (by omega)
  obtain ⟨d2, k2⟩ := hv.2.2.2.1 2 (by omega)
  obtain ⟨v3_points, v3_count, a_trialc, v17_orders, v17_kind, v17_number, v17_figuresDue, v17_figuresSeen, v17_pointsThen, a_kinds, a_numbers, v0_sortsKnown, v0_rowsKnown, v21_count, v22_count, v22_exponent, v23_order, v23_points, a_codes, a_einv, a_figures, a_generators, a_codeAtKey, a_placeAtKey, a_made, a_sortOf, a_sizes, a_turns, a_leasts, a_sinv, a_pointsLeft, a_pairs, a_powers, v39_p, v39_root, a_over, a_rootPowers, a_degrees, a_multiplied, v44_lines, v44_nextLines, v44_starts, v44_nextStarts, v44_spaces, v44_nextSpaces, v44_nextCount, v44_width, a_pivots, a_mix, a_RS, a_RF, b21_count, b44_spaces, b44_nextSpaces, b44_nextCount, b44_width, hk, rfl⟩ := hx
  obtain ⟨mv_at, mv_fault, mv_orders, mv_pointsThen, mv_h, ma_held, ma_letters, ma_numbers, mv_isLaid, mv_order, mv_sorts, mv_exponent, mv_prime, mv_root, mv_spaces, mv_splits, ma_elements, ma_products, ma_sortOf, ma_inverse, ma_turns, ma_size, ma_least, ma_timesOf, ma_wide, ma_bases, ma_newWide, ma_newBases, ma_grid, ma_lead, ma_spreads, ma_degrees, ma_values, ma_one, mb_spaces, mb_splits, hmk, rfl⟩ := hm
  refine ⟨len, _, _, sn_CX_X8_clear v0_sortsKnown v0_rowsKnown N cnt nowc v3_points v3_count a_trialc c ((pp 0)) ((pc 0)) ((pcd 0)) ((pp 1)) ((pc 1)) ((pcd 1)) ((pp 2)) ((pc 2)) ((pcd 2)) ((pp 3)) ((pc 3)) ((pcd 3)) ((pp 4)) ((pc 4)) ((pcd 4)) len v17_orders v17_kind v17_number v17_figuresDue v17_figuresSeen v17_pointsThen t a_kinds a_numbers v21_count b21_count v22_count v22_exponent v23_order v23_points a_codes a_einv a_figures a_generators a_codeAtKey a_placeAtKey a_made a_sortOf a_sizes a_turns a_leasts a_sinv a_pointsLeft a_pairs a_powers v39_p v39_root a_over a_rootPowers a_degrees a_multiplied v44_lines v44_nextLines v44_starts v44_nextStarts v44_spaces b44_spaces v44_nextSpaces b44_nextSpaces v44_nextCount b44_nextCount v44_width b44_width a_pivots a_mix 0 b n f a_RS a_RF rfl, sn_CMf_X9_clear c mv_isLaid mv_order mv_sorts mv_exponent mv_prime mv_root mv_spaces mb_spaces mv_splits mb_splits len mv_at mv_fault mv_orders mv_pointsThen mv_h nw ma_held past 0 b n f ((pk 17 ma_elements)) ((pk 8 ma_products)) ma_sortOf ma_inverse ma_turns ma_size ma_least ma_timesOf ma_wide ma_bases ma_newWide ma_newBases ma_grid ma_lead ma_spreads ma_degrees ma_values ma_one t ma_letters ma_numbers rfl, ?_⟩
  exact ⟨_, _, Or.inl (kleH_refl _), kleH_refl _, N, cnt, nowc, nw, c, pp, pc, pcd, past, 0, t, b, n, f, hs, hv, hc, hp, (by omega), (fun k hk2 => by omega), ⟨v3_points, v3_count, a_trialc, v17_orders, v17_kind, v17_number, v17_figuresDue, v17_figuresSeen, v17_pointsThen, a_kinds, a_numbers, v0_sortsKnown, v0_rowsKnown, v21_count, v22_count, v22_exponent, v23_order, v23_points, a_codes, a_einv, a_figures, a_generators, a_codeAtKey, a_placeAtKey, a_made, a_sortOf, a_sizes, a_turns, a_leasts, a_sinv, a_pointsLeft, a_pairs, a_powers, v39_p, v39_root, a_over, a_rootPowers, a_degrees, a_multiplied, v44_lines, v44_nextLines, v44_starts, v44_nextStarts, v44_spaces, v44_nextSpaces, v44_nextCount, v44_width, a_pivots, a_mix, a_RS, a_RF, b21_count, b44_spaces, b44_nextSpaces, b44_nextCount, b44_width, hk, rfl⟩, ⟨mv_at, mv_fault, mv_orders, mv_pointsThen, mv_h, ma_held, ma_letters, ma_numbers, mv_isLaid, mv_order, mv_sorts, mv_exponent, mv_prime, mv_root, mv_spaces, mv_splits, ma_elements, ma_products, ma_sortOf, ma_inverse, ma_turns, ma_size, ma_least, ma_timesOf, ma_wide, ma_bases, ma_newWide, ma_newBases, ma_grid, ma_lead, ma_spreads, ma_degrees, ma_values, ma_one, mb_spaces, mb_splits, hmk, rfl⟩⟩
set_option maxRecDepth 100000 in
theorem step_back {kx km : KH} (h : INV kx km) : STEP f_X8_back f_X9_back [] kx km := by
  obtain ⟨N, cnt, nowc, nw, c, pp, pc, pcd, past, len, t, b, n, f, hs, hv, hc, hp, hl, ht, hx, hm⟩ := h
  have hg : gL N (lst cnt nowc) < 195 := (gset hv).1.2.2.2.1
  obtain ⟨d0, k0⟩ := hv.2.2.2.1 0 (by omega)
  obtain ⟨d1, k1⟩ := hv.2.2.2.1 1 (by omega)
  obtain ⟨d2, k2⟩ := hv.2.2.2.1 2 (by omega)
  obtain ⟨v3_points, v3_count, a_trialc, v17_orders, v17_kind, v17_number, v17_figuresDue, v17_figuresSeen, v17_pointsThen, a_kinds, a_numbers, v0_sortsKnown, v0_rowsKnown, v21_count, v22_count, v22_exponent, v23_order, v23_points, a_codes, a_einv, a_figures, a_generators, a_codeAtKey, a_placeAtKey, a_made, a_sortOf, a_sizes, a_turns, a_leasts, a_sinv, a_pointsLeft, a_pairs, a_powers, v39_p, v39_root, a_over, a_rootPowers, a_degrees, a_multiplied, v44_lines, v44_nextLines, v44_starts, v44_nextStarts, v44_spaces, v44_nextSpaces, v44_nextCount, v44_width, a_pivots, a_mix, a_RS, a_RF, b21_count, b44_spaces, b44_nextSpaces, b44_nextCount, b44_width, hk, rfl⟩ := hx
  obtain ⟨mv_at, mv_fault, mv_orders, mv_pointsThen, mv_h, ma_held, ma_letters, ma_numbers, mv_isLaid, mv_order, mv_sorts, mv_exponent, mv_prime, mv_root, mv_spaces, mv_splits, ma_elements, ma_products, ma_sortOf, ma_inverse, ma_turns, ma_size, ma_least, ma_timesOf, ma_wide, ma_bases, ma_newWide, ma_newBases, ma_grid, ma_lead, ma_spreads, ma_degrees, ma_values, ma_one, mb_spaces, mb_splits, hmk, rfl⟩ := hm
  have hcc : c = 0 ∨ c = 1 ∨ c = 2 ∨ c = 3 ∨ c = 4 ∨ c = 5 := by omega
  rcases hcc with rfl | rfl | rfl | rfl | rfl | rfl
  · refine ⟨4294967293, _, _, cls_back_0 (c := 2) rfl, sn_CMf_X9_back 0 mv_isLaid mv_order mv_sorts mv_exponent mv_prime mv_root mv_spaces mb_spaces mv_splits mb_splits len mv_at mv_fault mv_orders mv_pointsThen mv_h nw ma_held past 0 b n f ((pk 17 ma_elements)) ((pk 8 ma_products)) ma_sortOf ma_inverse ma_turns ma_size ma_least ma_timesOf ma_wide ma_bases ma_newWide ma_newBases ma_grid ma_lead ma_spreads ma_degrees ma_values ma_one t ma_letters ma_numbers (c_r := 4294967293) (c_pasts := 0) (c_isLaid := mv_isLaid) (ca_now := nw) (ca_ref := 2) rfl, ?_⟩
    exact ⟨_, _, Or.inl (kleH_refl _), kleH_refl _, N, cnt, nowc, nw, 0, pp, pc, pcd, past, len, t, b, (n_add n 1), f, hs, hv, hc, hp, hl, ht, ⟨v3_points, v3_count, a_trialc, v17_orders, v17_kind, v17_number, v17_figuresDue, v17_figuresSeen, v17_pointsThen, a_kinds, a_numbers, v0_sortsKnown, v0_rowsKnown, v21_count, v22_count, v22_exponent, v23_order, v23_points, a_codes, a_einv, a_figures, a_generators, a_codeAtKey, a_placeAtKey, a_made, a_sortOf, a_sizes, a_turns, a_leasts, a_sinv, a_pointsLeft, a_pairs, a_powers, v39_p, v39_root, a_over, a_rootPowers, a_degrees, a_multiplied, v44_lines, v44_nextLines, v44_starts, v44_nextStarts, v44_spaces, v44_nextSpaces, v44_nextCount, v44_width, a_pivots, a_mix, a_RS, a_RF, b21_count, b44_spaces, b44_nextSpaces, b44_nextCount, b44_width, hk, rfl⟩, ⟨mv_at, mv_fault, mv_orders, mv_pointsThen, mv_h, ma_held, ma_letters, ma_numbers, mv_isLaid, mv_order, mv_sorts, mv_exponent, mv_prime, mv_root, mv_spaces, mv_splits, ma_elements, ma_products, ma_sortOf, ma_inverse, ma_turns, ma_size, ma_least, ma_timesOf, ma_wide, ma_bases, ma_newWide, ma_newBases, ma_grid, ma_lead, ma_spreads, ma_degrees, ma_values, ma_one, mb_spaces, mb_splits, hmk, rfl⟩⟩
  · obtain ⟨z1, z2⟩ := hp 0 (by omega)
    obtain ⟨c0, g0⟩ := z2.2.2.2.1 0 (by omega)
    obtain ⟨c1, g1⟩ := z2.2.2.2.1 1 (by omega)
    obtain ⟨c2, g2⟩ := z2.2.2.2.1 2 (by omega)
    obtain ⟨s1, s2, l1, l2, rows, e1, e2, e3, e4, ox, -⟩ := RK_okP hg hk
    subst e1
    subst e2
    subst e3
    subst e4
    obtain ⟨nw', p1, p2⟩ := back_ok (lai := mv_isLaid) (ref := 0) (nw := nw) (n := 1) (by omega) (by omega) (PR_known hp)
    have hcq : ∀ j, j < 3 → cpv nowc c0 c1 c2 j = pcd 0 j := fun j hj => cpv_at _ _ _ _ j _ g0 g1 g2 hj
    have z1 := stR_cp (stR_nw (nw' := nw') z1 (fun j hj => p2 j hj)) hcq
    refine ⟨0, _, _, cls_back_1 g0 g1 g2, sn_CMf_X9_back 1 mv_isLaid mv_order mv_sorts mv_exponent mv_prime mv_root mv_spaces mb_spaces mv_splits mb_splits len mv_at mv_fault mv_orders mv_pointsThen mv_h nw ma_held past 0 b n f ((pk 17 ma_elements)) ((pk 8 ma_products)) ma_sortOf ma_inverse ma_turns ma_size ma_least ma_timesOf ma_wide ma_bases ma_newWide ma_newBases ma_grid ma_lead ma_spreads ma_degrees ma_values ma_one t ma_letters ma_numbers p1, ?_⟩
    refine ⟨_, _, Or.inr ⟨_, forget_c ox, rfl⟩, forgetM, pp 0, pc 0, cpv nowc c0 c1 c2, nw', 0, pp, pc, pcd, past, len, t, b, n, f, z1, vS_cp z2 hcq, by omega, fun q hq => hp q (by omega), hl, ht, ⟨_, _, _, _, _, _, _, _, _, _, _, _, _, _, _, _, _, _, _, _, _, _, _, _, _, _, _, _, _, _, _, _, _, _, _, _, _, _, _, _, _, _, _, _, _, _, _, _, _, _, _, _, _, _, _, _, Or.inl ?_, rfl⟩, ⟨_, _, _, _, _, _, _, _, _, _, _, _, _, _, _, _, _, _, _, _, _, _, _, _, _, _, _, _, _, _, _, _, _, _, _, _, Or.inl ?_, rfl⟩⟩
    · unfold RK0
      exact ⟨rfl, rfl, rfl, rfl, rfl, rfl, rfl, rfl, rfl, rfl, rfl, rfl, rfl, rfl, rfl, rfl, rfl, rfl, rfl, rfl, rfl, rfl, rfl, rfl, rfl, rfl, rfl, rfl, rfl, rfl, rfl, rfl, rfl, rfl⟩
    · unfold RM0
      exact ⟨rfl, rfl, rfl, rfl, rfl, rfl, rfl, rfl, rfl, rfl, rfl, rfl, rfl, rfl, rfl, rfl, rfl, rfl, rfl, rfl, rfl⟩
  · obtain ⟨z1, z2⟩ := hp 1 (by omega)
    obtain ⟨c0, g0⟩ := z2.2.2.2.1 0 (by omega)
    obtain ⟨c1, g1⟩ := z2.2.2.2.1 1 (by omega)
    obtain ⟨c2, g2⟩ := z2.2.2.2.1 2 (by omega)
    obtain ⟨s1, s2, l1, l2, rows, e1, e2, e3, e4, ox, -⟩ := RK_okP hg hk
    subst e1
    subst e2
    subst e3
    subst e4
    obtain ⟨nw', p1, p2⟩ := back_ok (lai := mv_isLaid) (ref := 0) (nw := nw) (n := 2) (by omega) (by omega) (PR_known hp)
    have hcq : ∀ j, j < 3 → cpv nowc c0 c1 c2 j = pcd 1 j := fun j hj => cpv_at _ _ _ _ j _ g0 g1 g2 hj
    have z1 := stR_cp (stR_nw (nw' := nw') z1 (fun j hj => p2 j hj)) hcq
    refine ⟨1, _, _, cls_back_2 g0 g1 g2, sn_CMf_X9_back 2 mv_isLaid mv_order mv_sorts mv_exponent mv_prime mv_root mv_spaces mb_spaces mv_splits mb_splits len mv_at mv_fault mv_orders mv_pointsThen mv_h nw ma_held past 0 b n f ((pk 17 ma_elements)) ((pk 8 ma_products)) ma_sortOf ma_inverse ma_turns ma_size ma_least ma_timesOf ma_wide ma_bases ma_newWide ma_newBases ma_grid ma_lead ma_spreads ma_degrees ma_values ma_one t ma_letters ma_numbers p1, ?_⟩
    refine ⟨_, _, Or.inr ⟨_, forget_c ox, rfl⟩, forgetM, pp 1, pc 1, cpv nowc c0 c1 c2, nw', 1, pp, pc, pcd, past, len, t, b, n, f, z1, vS_cp z2 hcq, by omega, fun q hq => hp q (by omega), hl, ht, ⟨_, _, _, _, _, _, _, _, _, _, _, _, _, _, _, _, _, _, _, _, _, _, _, _, _, _, _, _, _, _, _, _, _, _, _, _, _, _, _, _, _, _, _, _, _, _, _, _, _, _, _, _, _, _, _, _, Or.inl ?_, rfl⟩, ⟨_, _, _, _, _, _, _, _, _, _, _, _, _, _, _, _, _, _, _, _, _, _, _, _, _, _, _, _, _, _, _, _, _, _, _, _, Or.inl ?_, rfl⟩⟩
    · unfold RK0
      exact ⟨rfl, rfl, rfl, rfl, rfl, rfl, rfl, rfl, rfl, rfl, rfl, rfl, rfl, rfl, rfl, rfl, rfl, rfl, rfl, rfl, rfl, rfl, rfl, rfl, rfl, rfl, rfl, rfl, rfl, rfl, rfl, rfl, rfl, rfl⟩
    · unfold RM0
      exact ⟨rfl, rfl, rfl, rfl, rfl, rfl, rfl, rfl, rfl, rfl, rfl, rfl, rfl, rfl, rfl, rfl, rfl, rfl, rfl, rfl, rfl⟩
  · obtain ⟨z1, z2⟩ := hp 2 (by omega)
    obtain ⟨c0, g0⟩ := z2.2.2.2.1 0 (by omega)
    obtain ⟨c1, g1⟩ := z2.2.2.2.1 1 (by omega)
    obtain ⟨c2, g2⟩ := z2.2.2.2.1 2 (by omega)
    obtain ⟨s1, s2, l1, l2, rows, e1, e2, e3, e4, ox, -⟩ := RK_okP hg hk
    subst e1
    subst e2
    subst e3
    subst e4
    obtain ⟨nw', p1, p2⟩ := back_ok (lai := mv_isLaid) (ref := 0) (nw := nw) (n := 3) (by omega) (by omega) (PR_known hp)
    have hcq : ∀ j, j < 3 → cpv nowc c0 c1 c2 j = pcd 2 j := fun j hj => cpv_at _ _ _ _ j _ g0 g1 g2 hj
    have z1 := stR_cp (stR_nw (nw' := nw') z1 (fun j hj => p2 j hj)) hcq
    refine ⟨2, _, _, cls_back_3 g0 g1 g2, sn_CMf_X9_back 3 mv_isLaid mv_order mv_sorts mv_exponent mv_prime mv_root mv_spaces mb_spaces mv_splits mb_splits len mv_at mv_fault mv_orders mv_pointsThen mv_h nw ma_held past 0 b n f ((pk 17 ma_elements)) ((pk 8 ma_products)) ma_sortOf ma_inverse ma_turns ma_size ma_least ma_timesOf ma_wide ma_bases ma_newWide ma_newBases ma_grid ma_lead ma_spreads ma_degrees ma_values ma_one t ma_letters ma_numbers p1, ?_⟩
    refine ⟨_, _, Or.inr ⟨_, forget_c ox, rfl⟩, forgetM, pp 2, pc 2, cpv nowc c0 c1 c2, nw', 2, pp, pc, pcd, past, len, t, b, n, f, z1, vS_cp z2 hcq, by omega, fun q hq => hp q (by omega), hl, ht, ⟨_, _, _, _, _, _, _, _, _, _, _, _, _, _, _, _, _, _, _, _, _, _, _, _, _, _, _, _, _, _, _, _, _, _, _, _, _, _, _, _, _, _, _, _, _, _, _, _, _, _, _, _, _, _, _, _, Or.inl ?_, rfl⟩, ⟨_, _, _, _, _, _, _, _, _, _, _, _, _, _, _, _, _, _, _, _, _, _, _, _, _, _, _, _, _, _, _, _, _, _, _, _, Or.inl ?_, rfl⟩⟩
    · unfold RK0
      exact ⟨rfl, rfl, rfl, rfl, rfl, rfl, rfl, rfl, rfl, rfl, rfl, rfl, rfl, rfl, rfl, rfl, rfl, rfl, rfl, rfl, rfl, rfl, rfl, rfl, rfl, rfl, rfl, rfl, rfl, rfl, rfl, rfl, rfl, rfl⟩
    · unfold RM0
      exact ⟨rfl, rfl, rfl, rfl, rfl, rfl, rfl, rfl, rfl, rfl, rfl, rfl, rfl, rfl, rfl, rfl, rfl, rfl, rfl, rfl, rfl⟩
  · obtain ⟨z1, z2⟩ := hp 3 (by omega)
    obtain ⟨c0, g0⟩ := z2.2.2.2.1 0 (by omega)
    obtain ⟨c1, g1⟩ := z2.2.2.2.1 1 (by omega)
    obtain ⟨c2, g2⟩ := z2.2.2.2.1 2 (by omega)
    obtain ⟨s1, s2, l1, l2, rows, e1, e2, e3, e4, ox, -⟩ := RK_okP hg hk
    subst e1
    subst e2
    subst e3
    subst e4
    obtain ⟨nw', p1, p2⟩ := back_ok (lai := mv_isLaid) (ref := 0) (nw := nw) (n := 4) (by omega) (by omega) (PR_known hp)
    have hcq : ∀ j, j < 3 → cpv nowc c0 c1 c2 j = pcd 3 j := fun j hj => cpv_at _ _ _ _ j _ g0 g1 g2 hj
    have z1 := stR_cp (stR_nw (nw' := nw') z1 (fun j hj => p2 j hj)) hcq
    refine ⟨3, _, _, cls_back_4 g0 g1 g2, sn_CMf_X9_back 4 mv_isLaid mv_order mv_sorts mv_exponent mv_prime mv_root mv_spaces mb_spaces mv_splits mb_splits len mv_at mv_fault mv_orders mv_pointsThen mv_h nw ma_held past 0 b n f ((pk 17 ma_elements)) ((pk 8 ma_products)) ma_sortOf ma_inverse ma_turns ma_size ma_least ma_timesOf ma_wide ma_bases ma_newWide ma_newBases ma_grid ma_lead ma_spreads ma_degrees ma_values ma_one t ma_letters ma_numbers p1, ?_⟩
    refine ⟨_, _, Or.inr ⟨_, forget_c ox, rfl⟩, forgetM, pp 3, pc 3, cpv nowc c0 c1 c2, nw', 3, pp, pc, pcd, past, len, t, b, n, f, z1, vS_cp z2 hcq, by omega, fun q hq => hp q (by omega), hl, ht, ⟨_, _, _, _, _, _, _, _, _, _, _, _, _, _, _, _, _, _, _, _, _, _, _, _, _, _, _, _, _, _, _, _, _, _, _, _, _, _, _, _, _, _, _, _, _, _, _, _, _, _, _, _, _, _, _, _, Or.inl ?_, rfl⟩, ⟨_, _, _, _, _, _, _, _, _, _, _, _, _, _, _, _, _, _, _, _, _, _, _, _, _, _, _, _, _, _, _, _, _, _, _, _, Or.inl ?_, rfl⟩⟩
    · unfold RK0
      exact ⟨rfl, rfl, rfl, rfl, rfl, rfl, rfl, rfl, rfl, rfl, rfl, rfl, rfl, rfl, rfl, rfl, rfl, rfl, rfl, rfl, rfl, rfl, rfl, rfl, rfl, rfl, rfl, rfl, rfl, rfl, rfl, rfl, rfl, rfl⟩
    · unfold RM0
      exact ⟨rfl, rfl, rfl, rfl, rfl, rfl, rfl, rfl, rfl, rfl, rfl, rfl, rfl, rfl, rfl, rfl, rfl, rfl, rfl, rfl, rfl⟩
  · obtain ⟨z1, z2⟩ := hp 4 (by omega)
    obtain ⟨c0, g0⟩ := z2.2.2.2.1 0 (by omega)
    obtain ⟨c1, g1⟩ := z2.2.2.2.1 1 (by omega)
    obtain ⟨c2, g2⟩ := z2.2.2.2.1 2 (by omega)
    obtain ⟨s1, s2, l1, l2, rows, e1, e2, e3, e4, ox, -⟩ := RK_okP hg hk
    subst e1
    subst e2
    subst e3
    subst e4
    obtain ⟨nw', p1, p2⟩ := back_ok (lai := mv_isLaid) (ref := 0) (nw := nw) (n := 5) (by omega) (by omega) (PR_known hp)
    have hcq : ∀ j, j < 3 → cpv nowc c0 c1 c2 j = pcd 4 j := fun j hj => cpv_at _ _ _ _ j _ g0 g1 g2 hj
    have z1 := stR_cp (stR_nw (nw' := nw') z1 (fun j hj => p2 j hj)) hcq
    refine ⟨4, _, _, cls_back_5 g0 g1 g2, sn_CMf_X9_back 5 mv_isLaid mv_order mv_sorts mv_exponent mv_prime mv_root mv_spaces mb_spaces mv_splits mb_splits len mv_at mv_fault mv_orders mv_pointsThen mv_h nw ma_held past 0 b n f ((pk 17 ma_elements)) ((pk 8 ma_products)) ma_sortOf ma_inverse ma_turns ma_size ma_least ma_timesOf ma_wide ma_bases ma_newWide ma_newBases ma_grid ma_lead ma_spreads ma_degrees ma_values ma_one t ma_letters ma_numbers p1, ?_⟩
    refine ⟨_, _, Or.inr ⟨_, forget_c ox, rfl⟩, forgetM, pp 4, pc 4, cpv nowc c0 c1 c2, nw', 4, pp, pc, pcd, past, len, t, b, n, f, z1, vS_cp z2 hcq, by omega, fun q hq => hp q (by omega), hl, ht, ⟨_, _, _, _, _, _, _, _, _, _, _, _, _, _, _, _, _, _, _, _, _, _, _, _, _, _, _, _, _, _, _, _, _, _, _, _, _, _, _, _, _, _, _, _, _, _, _, _, _, _, _, _, _, _, _, _, Or.inl ?_, rfl⟩, ⟨_, _, _, _, _, _, _, _, _, _, _, _, _, _, _, _, _, _, _, _, _, _, _, _, _, _, _, _, _, _, _, _, _, _, _, _, Or.inl ?_, rfl⟩⟩
    · unfold RK0
      exact ⟨rfl, rfl, rfl, rfl, rfl, rfl, rfl, rfl, rfl, rfl, rfl, rfl, rfl, rfl, rfl, rfl, rfl, rfl, rfl, rfl, rfl, rfl, rfl, rfl, rfl, rfl, rfl, rfl, rfl, rfl, rfl, rfl, rfl, rfl⟩
    · unfold RM0
      exact ⟨rfl, rfl, rfl, rfl, rfl, rfl, rfl, rfl, rfl, rfl, rfl, rfl, rfl, rfl, rfl, rfl, rfl, rfl, rfl, rfl, rfl⟩
set_option maxRecDepth 100000 in
theorem step_reads {kx km : KH} (h : INV kx km) : STEP f_X8_reads f_X9_reads [] kx km := by
  obtain ⟨N, cnt, nowc, nw, c, pp, pc, pcd, past, len, t, b, n, f, hs, hv, hc, hp, hl, ht, hx, hm⟩ := h
  have hg : gL N (lst cnt nowc) < 195 := (gset hv).1.2.2.2.1
  obtain ⟨d0, k0⟩ := hv.2.2.2.1 0 (by omega)
  obtain ⟨d1, k1⟩ := hv.2.2.2.1 1 (by omega)
  obtain ⟨d2, k2⟩ := hv.2.2.2.1 2 (by omega)
  obtain ⟨v3_points, v3_count, a_trialc, v17_orders, v17_kind, v17_number, v17_figuresDue, v17_figuresSeen, v17_pointsThen, a_kinds, a_numbers, v0_sortsKnown, v0_rowsKnown, v21_count, v22_count, v22_exponent, v23_order, v23_points, a_codes, a_einv, a_figures, a_generators, a_codeAtKey, a_placeAtKey, a_made, a_sortOf, a_sizes, a_turns, a_leasts, a_sinv, a_pointsLeft, a_pairs, a_powers, v39_p, v39_root, a_over, a_rootPowers, a_degrees, a_multiplied, v44_lines, v44_nextLines, v44_starts, v44_nextStarts, v44_spaces, v44_nextSpaces, v44_nextCount, v44_width, a_pivots, a_mix, a_RS, a_RF, b21_count, b44_spaces, b44_nextSpaces, b44_nextCount, b44_width, hk, rfl⟩ := hx
  obtain ⟨mv_at, mv_fault, mv_orders, mv_pointsThen, mv_h, ma_held, ma_letters, ma_numbers, mv_isLaid, mv_order, mv_sorts, mv_exponent, mv_prime, mv_root, mv_spaces, mv_splits, ma_elements, ma_products, ma_sortOf, ma_inverse, ma_turns, ma_size, ma_least, ma_timesOf, ma_wide, ma_bases, ma_newWide, ma_newBases, ma_grid, ma_lead, ma_spreads, ma_degrees, ma_values, ma_one, mb_spaces, mb_splits, hmk, rfl⟩ := hm
  have hcp : ∀ j, j < 3 → cpv a_trialc d0 d1 d2 j = nowc j := fun j hj => cpv_at _ _ _ _ j nowc k0 k1 k2 hj
  obtain ⟨ret, pts', cnt', tc', o2, y1, y2, y3, y4, y5, ka', na', pasts', lai', a1, a2, a3, a4, nw', held', past', la', nb', r1, r2, r3, r4⟩ := reads_both (lai := mv_isLaid) (num := v17_number) (du := v17_figuresDue) (sn := v17_figuresSeen) (held := ma_held) (ka := a_kinds) (na := a_numbers) (la := ma_letters) (nb := ma_numbers) hl ht (stR_cp hs hcp) (vS_cp hv hcp) hc (PR_known hp)
  rcases r4 with ⟨q1, u1, u2, q2, q3⟩ | ⟨q1, rfl, s1, v1, rfl, p2, p3⟩
  · have u1 := u1.symm
    have u2 := u2.symm
    subst u1
    subst u2
    refine ⟨ret, _, _, cls_reads_n k0 k1 k2 r1 q1, sn_CMf_X9_reads c mv_isLaid mv_order mv_sorts mv_exponent mv_prime mv_root mv_spaces mb_spaces mv_splits mb_splits len mv_at mv_fault mv_orders mv_pointsThen mv_h nw ma_held past 0 b n f ((pk 17 ma_elements)) ((pk 8 ma_products)) ma_sortOf ma_inverse ma_turns ma_size ma_least ma_timesOf ma_wide ma_bases ma_newWide ma_newBases ma_grid ma_lead ma_spreads ma_degrees ma_values ma_one t ma_letters ma_numbers r2, ?_⟩
    rcases q2 with u | u
    · have u := u.symm
      subst u
      exact ⟨_, _, Or.inl (kleH_refl _), kleH_refl _, N, cnt, nowc, nw', c, pp, pc, pcd, past, len, t, b, n, f, stR_nw hs q3, hv, hc, hp, hl, ht, ⟨pts', cnt', tc', o2, y1, y2, y3, y4, y5, ka', na', v0_sortsKnown, v0_rowsKnown, v21_count, v22_count, v22_exponent, v23_order, v23_points, a_codes, a_einv, a_figures, a_generators, a_codeAtKey, a_placeAtKey, a_made, a_sortOf, a_sizes, a_turns, a_leasts, a_sinv, a_pointsLeft, a_pairs, a_powers, v39_p, v39_root, a_over, a_rootPowers, a_degrees, a_multiplied, v44_lines, v44_nextLines, v44_starts, v44_nextStarts, v44_spaces, v44_nextSpaces, v44_nextCount, v44_width, a_pivots, a_mix, a_RS, a_RF, b21_count, b44_spaces, b44_nextSpaces, b44_nextCount, b44_width, hk, rfl⟩, ⟨a1, a2, a3, a4, mv_h, held', la', nb', mv_isLaid, mv_order, mv_sorts, mv_exponent, mv_prime, mv_root, mv_spaces, mv_splits, ma_elements, ma_products, ma_sortOf, ma_inverse, ma_turns, ma_size, ma_least, ma_timesOf, ma_wide, ma_bases, ma_newWide, ma_newBases, ma_grid, ma_lead, ma_spreads, ma_degrees, ma_values, ma_one, mb_spaces, mb_splits, hmk, rfl⟩⟩
    · subst u
      refine ⟨_, _, Or.inl (kleH_refl _), forgetM, N, cnt, nowc, nw', c, pp, pc, pcd, past, len, t, b, n, f, stR_nw hs q3, hv, hc, hp, hl, ht, ⟨pts', cnt', tc', o2, y1, y2, y3, y4, y5, ka', na', v0_sortsKnown, v0_rowsKnown, v21_count, v22_count, v22_exponent, v23_order, v23_points, a_codes, a_einv, a_figures, a_generators, a_codeAtKey, a_placeAtKey, a_made, a_sortOf, a_sizes, a_turns, a_leasts, a_sinv, a_pointsLeft, a_pairs, a_powers, v39_p, v39_root, a_over, a_rootPowers, a_degrees, a_multiplied, v44_lines, v44_nextLines, v44_starts, v44_nextStarts, v44_spaces, v44_nextSpaces, v44_nextCount, v44_width, a_pivots, a_mix, a_RS, a_RF, b21_count, b44_spaces, b44_nextSpaces, b44_nextCount, b44_width, hk, rfl⟩, ⟨_, _, _, _, _, _, _, _, _, _, _, _, _, _, _, _, _, _, _, _, _, _, _, _, _, _, _, _, _, _, _, _, _, _, _, _, Or.inl ?_, rfl⟩⟩
      unfold RM0
      exact ⟨rfl, rfl, rfl, rfl, rfl, rfl, rfl, rfl, rfl, rfl, rfl, rfl, rfl, rfl, rfl, rfl, rfl, rfl, rfl, rfl, rfl⟩
  · obtain ⟨c0, g0⟩ := v1.2.2.2.1 0 (by omega)
    obtain ⟨c1, g1⟩ := v1.2.2.2.1 1 (by omega)
    obtain ⟨c2, g2⟩ := v1.2.2.2.1 2 (by omega)
    have hcq : ∀ j, j < 3 → cpv nowc c0 c1 c2 j = tc' j := fun j hj => cpv_at _ _ _ _ j _ g0 g1 g2 hj
    obtain ⟨kx, kx2, pp2, pc2, pcd2, w1, w2, w3, w4⟩ := set_any (v3_points := pts') (v3_count := cnt') (a_trialc := tc') (v17_orders := o2) (v17_kind := y1) (v17_number := y2) (v17_figuresDue := y3) (v17_figuresSeen := y4) (v17_pointsThen := y5) (a_kinds := ka') (a_numbers := na') (v0_sortsKnown := v0_sortsKnown) (v0_rowsKnown := v0_rowsKnown) (v21_count := v21_count) (v22_count := v22_count) (v22_exponent := v22_exponent) (v23_order := v23_order) (v23_points := v23_points) (a_codes := a_codes) (a_einv := a_einv) (a_figures := a_figures) (a_generators := a_generators) (a_codeAtKey := a_codeAtKey) (a_placeAtKey := a_placeAtKey) (a_made := a_made) (a_sortOf := a_sortOf) (a_sizes := a_sizes) (a_turns := a_turns) (a_leasts := a_leasts) (a_sinv := a_sinv) (a_pointsLeft := a_pointsLeft) (a_pairs := a_pairs) (a_powers := a_powers) (v39_p := v39_p) (v39_root := v39_root) (a_over := a_over) (a_rootPowers := a_rootPowers) (a_degrees := a_degrees) (a_multiplied := a_multiplied) (v44_lines := v44_lines) (v44_nextLines := v44_nextLines) (v44_starts := v44_starts) (v44_nextStarts := v44_nextStarts) (v44_spaces := v44_spaces) (v44_nextSpaces := v44_nextSpaces) (v44_nextCount := v44_nextCount) (v44_width := v44_width) (a_pivots := a_pivots) (a_mix := a_mix) (a_RS := a_RS) (a_RF := a_RF) (b21_count := b21_count) (b44_spaces := b44_spaces) (b44_nextSpaces := b44_nextSpaces) (b44_nextCount := b44_nextCount) (b44_width := b44_width) (pp := pp) (pc := pc) (pcd := pcd) (cnt := cnt) (len := len) (t := t) (b := b) (n := n) (f := f) hc hg q1 hk g0 g1 g2 k0 k1 k2 (gL pts' (lst cnt' (cpv nowc c0 c1 c2)))
    refine ⟨ret, _, _, cls_reads_p k0 k1 k2 r1 q1 w1, sn_CMf_X9_reads c mv_isLaid mv_order mv_sorts mv_exponent mv_prime mv_root mv_spaces mb_spaces mv_splits mb_splits len mv_at mv_fault mv_orders mv_pointsThen mv_h nw ma_held past 0 b n f ((pk 17 ma_elements)) ((pk 8 ma_products)) ma_sortOf ma_inverse ma_turns ma_size ma_least ma_timesOf ma_wide ma_bases ma_newWide ma_newBases ma_grid ma_lead ma_spreads ma_degrees ma_values ma_one t ma_letters ma_numbers r2, ?_⟩
    refine ⟨kx2, _, w2, forgetM, pts', cnt', cpv nowc c0 c1 c2, nw', (if c = 5 then 4 else c) + 1, pp2, pc2, pcd2, past', len, t, b, n, f, stR_cp s1 hcq, vS_cp v1 hcq, by split <;> omega, w4 past past' nw nw hp hs hv (fun _ _ => rfl) p2 p3, hl, ht, w3, ⟨_, _, _, _, _, _, _, _, _, _, _, _, _, _, _, _, _, _, _, _, _, _, _, _, _, _, _, _, _, _, _, _, _, _, _, _, Or.inl ?_, rfl⟩⟩
    unfold RM0
    exact ⟨rfl, rfl, rfl, rfl, rfl, rfl, rfl, rfl, rfl, rfl, rfl, rfl, rfl, rfl, rfl, rfl, rfl, rfl, rfl, rfl, rfl⟩
