/-! ===== of ===== -/
theorem un8_k {F : KF} {rest : KC} {ls : List KV} {h h1 : KH} {fs : List KV} (hc : k_cell h 0 = k_ob 8 fs) (hF : F [k_r 1] h = some ([], h1)) : (o_aload 0 <| o_cV0 1 8 F rest) (k_r 1 :: ls) [] h = rest (k_r 1 :: ls) [] h1 := by
  show k_obj (k_cell h 0) (fun o => Bool.rec none (k_res (F [k_r 1] h) fun r h => k_app0 r (rest (k_r 1 :: ls) [] h)) (Nat.beq o.1 8)) = _
  rw [hc, hF]
  rfl
theorem of_16 {F1 F2 F3 F4 F5 : KF} {x : Nat} {h : KH} (hb : F1 [k_i x, k_i 8] h = some ([k_i 1], h)) : m_X8_of F1 F2 F3 F4 F5 [k_r 1, k_i x] h = b_X8_of_16 F1 F2 F3 F4 F5 [k_r 1, k_i x] [] h := by
  unfold m_X8_of b_X8_of_0
  show k_res (F1 [k_i x, k_i 8] h) (fun r h => k_app1 r fun v => o_c1 g_eq (b_X8_of_9 F1 F2 F3 F4 F5) (b_X8_of_16 F1 F2 F3 F4 F5) [k_r 1, k_i x] (v :: []) h) = _
  rw [hb]
  rfl
theorem of_lt {F1 F2 F3 F4 F5 : KF} {x : Nat} {h h1 : KH} {fs : List KV} (hb : F1 [k_i x, k_i 8] h = some ([k_i 1], h)) (hc : k_cell h 0 = k_ob 8 fs) (hx : x ≠ 7) (hF : F4 [k_r 1] h = some ([], h1)) : m_X8_of F1 F2 F3 F4 F5 [k_r 1, k_i x] h = b_X8_of_33 F1 F2 F3 F4 F5 [k_r 1, k_i x] [] h1 := by
  rw [of_16 hb]
  unfold b_X8_of_16
  show (Bool.rec (b_X8_of_29 F1 F2 F3 F4 F5 [k_r 1, k_i x] [] h) (b_X8_of_22 F1 F2 F3 F4 F5 [k_r 1, k_i x] [] h) (Nat.beq x 7) : KR) = _
  rw [be_f hx]
  show b_X8_of_29 F1 F2 F3 F4 F5 [k_r 1, k_i x] [] h = _
  unfold b_X8_of_29
  exact un8_k hc hF
theorem of_eq {F1 F2 F3 F4 F5 : KF} {h h1 : KH} {fs : List KV} (hb : F1 [k_i 7, k_i 8] h = some ([k_i 1], h)) (hc : k_cell h 0 = k_ob 8 fs) (hF : F3 [k_r 1] h = some ([], h1)) : m_X8_of F1 F2 F3 F4 F5 [k_r 1, k_i 7] h = b_X8_of_33 F1 F2 F3 F4 F5 [k_r 1, k_i 7] [] h1 := by
  rw [of_16 hb]
  unfold b_X8_of_16
  show b_X8_of_22 F1 F2 F3 F4 F5 [k_r 1, k_i 7] [] h = _
  unfold b_X8_of_22
  exact un8_k hc hF
theorem of_9 {F1 F2 F3 : KF} {x : Nat} {h0 h1 : KH} {fs0 fs1 : List KV} (hb0 : F1 [k_i x, k_i 0, k_i 7] h0 = some ([k_i 1], h0)) (hb1 : F1 [k_i x, k_i 0, k_i 7] h1 = some ([k_i 1], h1)) (c0 : k_cell h0 0 = k_ob 9 fs0) (c1 : k_cell h1 0 = k_ob 9 fs1) (hF : F2 [k_r 1, k_i x] h0 = F2 [k_r 1, k_i x] h1) : m_X9_of F1 F2 F3 [k_r 1, k_i x] h0 = m_X9_of F1 F2 F3 [k_r 1, k_i x] h1 := by
  have key : ∀ h, F1 [k_i x, k_i 0, k_i 7] h = some ([k_i 1], h) → m_X9_of F1 F2 F3 [k_r 1, k_i x] h = b_X9_of_10 F1 F2 F3 [k_r 1, k_i x] [] h := fun h hb => by
    unfold m_X9_of b_X9_of_0
    show k_res (F1 [k_i x, k_i 0, k_i 7] h) (fun r h => k_app1 r fun v => o_c1 g_eq (b_X9_of_18 F1 F2 F3) (b_X9_of_10 F1 F2 F3) [k_r 1, k_i x] (v :: []) h) = _
    rw [hb]
    rfl
  rw [key h0 hb0, key h1 hb1]
  unfold b_X9_of_10
  exact un_9b (us := []) (as := []) c0 c1 hF
theorem belowX {N cnt : Nat} {nowc : Nat → Nat} {c : Nat} {pp pc : Nat → Nat} {pcd : Nat → Nat → Nat} {len : Nat} {t : Nat → Nat} {b n f g : Nat} {kx : KH} (hx : INVX N cnt nowc c pp pc pcd len t b n f g kx) {x : Nat} (h8 : x < 8) : f_X8_isBelow [k_i x, k_i 8] kx = some ([k_i 1], kx) := by
  obtain ⟨v3_points, v3_count, a_trialc, v17_orders, v17_kind, v17_number, v17_figuresDue, v17_figuresSeen, v17_pointsThen, a_kinds, a_numbers, v0_sortsKnown, v0_rowsKnown, v21_count, v22_count, v22_exponent, v23_order, v23_points, a_codes, a_einv, a_figures, a_generators, a_codeAtKey, a_placeAtKey, a_made, a_sortOf, a_sizes, a_turns, a_leasts, a_sinv, a_pointsLeft, a_pairs, a_powers, v39_p, v39_root, a_over, a_rootPowers, a_degrees, a_multiplied, v44_lines, v44_nextLines, v44_starts, v44_nextStarts, v44_spaces, v44_nextSpaces, v44_nextCount, v44_width, a_pivots, a_mix, a_RS, a_RF, b21_count, b44_spaces, b44_nextSpaces, b44_nextCount, b44_width, hk, rfl⟩ := hx
  exact sn_CX_X8_isBelow v0_sortsKnown v0_rowsKnown N cnt nowc v3_points v3_count a_trialc c ((pp 0)) ((pc 0)) ((pcd 0)) ((pp 1)) ((pc 1)) ((pcd 1)) ((pp 2)) ((pc 2)) ((pcd 2)) ((pp 3)) ((pc 3)) ((pcd 3)) ((pp 4)) ((pc 4)) ((pcd 4)) len v17_orders v17_kind v17_number v17_figuresDue v17_figuresSeen v17_pointsThen t a_kinds a_numbers v21_count b21_count v22_count v22_exponent v23_order v23_points a_codes a_einv a_figures a_generators a_codeAtKey a_placeAtKey a_made a_sortOf a_sizes a_turns a_leasts a_sinv a_pointsLeft a_pairs a_powers v39_p v39_root a_over a_rootPowers a_degrees a_multiplied v44_lines v44_nextLines v44_starts v44_nextStarts v44_spaces b44_spaces v44_nextSpaces b44_nextSpaces v44_nextCount b44_nextCount v44_width b44_width a_pivots a_mix 0 b n f a_RS a_RF x 8 (blw_t h8 (by omega))
theorem inM_7 {nw : Nat → Nat} {c : Nat} {past : Nat → Nat} {len : Nat} {t : Nat → Nat} {b n f g : Nat} {km : KH} (hm : INVM nw c past len t b n f g km) {x : Nat} (h8 : x < 8) : f_X9_in [k_i x, k_i 0, k_i 7] km = some ([k_i 1], km) := by
  obtain ⟨v_at, v_fault, v_orders, v_pointsThen, v_h, a_held, a_letters, a_numbers, v_isLaid, v_order, v_sorts, v_exponent, v_prime, v_root, v_spaces, v_splits, a_elements, a_products, a_sortOf, a_inverse, a_turns, a_size, a_least, a_timesOf, a_wide, a_bases, a_newWide, a_newBases, a_grid, a_lead, a_spreads, a_degrees, a_values, a_one, b_spaces, b_splits, hk, rfl⟩ := hm
  have r := sn_CM_X9_in c v_isLaid v_order v_sorts v_exponent v_prime v_root v_spaces b_spaces v_splits b_splits len v_at v_fault v_orders v_pointsThen v_h 0 nw a_held past 0 b n f a_elements a_products a_sortOf a_inverse a_turns a_size a_least a_timesOf a_wide a_bases a_newWide a_newBases a_grid a_lead a_spreads a_degrees a_values a_one t a_letters a_numbers x 0 7 (inM_t (by omega) (by omega))
  rw [eqM mx_0] at r
  exact r
set_option maxHeartbeats 1000000 in
set_option maxRecDepth 100000 in
theorem step_of {x : Nat} {kx km : KH} (qx : x < 4294967296) (h : INV kx km) : STEP f_X8_of f_X9_of [k_i x] kx km := by
  obtain ⟨N, cnt, nowc, nw, c, pp, pc, pcd, past, len, t, b, n, f, hs, hv, hc, hp, hl, ht, hx, hm⟩ := h
  obtain ⟨hg, hlen, hn⟩ := gset hv
  generalize hgg : gL N (lst cnt nowc) = g at hg hx hm
  obtain ⟨fsx, cx0⟩ := cellX hx
  obtain ⟨fsm, cm0⟩ := cellM hm
  have hN : rg g 0 = N := hg.2.2.2.2.1
  by_cases h8 : x < 8
  rotate_left
  · subst hgg
    obtain ⟨v3_points, v3_count, a_trialc, v17_orders, v17_kind, v17_number, v17_figuresDue, v17_figuresSeen, v17_pointsThen, a_kinds, a_numbers, v0_sortsKnown, v0_rowsKnown, v21_count, v22_count, v22_exponent, v23_order, v23_points, a_codes, a_einv, a_figures, a_generators, a_codeAtKey, a_placeAtKey, a_made, a_sortOf, a_sizes, a_turns, a_leasts, a_sinv, a_pointsLeft, a_pairs, a_powers, v39_p, v39_root, a_over, a_rootPowers, a_degrees, a_multiplied, v44_lines, v44_nextLines, v44_starts, v44_nextStarts, v44_spaces, v44_nextSpaces, v44_nextCount, v44_width, a_pivots, a_mix, a_RS, a_RF, b21_count, b44_spaces, b44_nextSpaces, b44_nextCount, b44_width, hk, rfl⟩ := hx
    obtain ⟨mv_at, mv_fault, mv_orders, mv_pointsThen, mv_h, ma_held, ma_letters, ma_numbers, mv_isLaid, mv_order, mv_sorts, mv_exponent, mv_prime, mv_root, mv_spaces, mv_splits, ma_elements, ma_products, ma_sortOf, ma_inverse, ma_turns, ma_size, ma_least, ma_timesOf, ma_wide, ma_bases, ma_newWide, ma_newBases, ma_grid, ma_lead, ma_spreads, ma_degrees, ma_values, ma_one, mb_spaces, mb_splits, hmk, rfl⟩ := hm
    have a1 : P_CX_X8_of v0_sortsKnown v0_rowsKnown cnt v21_count v22_count v22_exponent v23_order a_sizes v39_p v39_root a_degrees 0 x = some (4294967294, 1) := by
      unfold P_CX_X8_of p_CX_X8_of_0
      rw [po1_s (blw_f (by omega) (by omega) qx), pgeq_0 rfl]
      rfl
    have a2 : P_CM_X9_of mv_isLaid mv_order mv_sorts mv_exponent mv_prime mv_root 0 0 ma_size ma_degrees x = some (4294967294, 1) := by
      unfold P_CM_X9_of p_CM_X9_of_0
      rw [po1_s (inM_f (by omega) (by omega) qx), pgeq_0 rfl]
      rfl
    have e1 := sn_CX_X8_of v0_sortsKnown v0_rowsKnown N cnt nowc v3_points v3_count a_trialc c ((pp 0)) ((pc 0)) ((pcd 0)) ((pp 1)) ((pc 1)) ((pcd 1)) ((pp 2)) ((pc 2)) ((pcd 2)) ((pp 3)) ((pc 3)) ((pcd 3)) ((pp 4)) ((pc 4)) ((pcd 4)) len v17_orders v17_kind v17_number v17_figuresDue v17_figuresSeen v17_pointsThen t a_kinds a_numbers v21_count b21_count v22_count v22_exponent v23_order v23_points a_codes a_einv a_figures a_generators a_codeAtKey a_placeAtKey a_made a_sortOf a_sizes a_turns a_leasts a_sinv a_pointsLeft a_pairs a_powers v39_p v39_root a_over a_rootPowers a_degrees a_multiplied v44_lines v44_nextLines v44_starts v44_nextStarts v44_spaces b44_spaces v44_nextSpaces b44_nextSpaces v44_nextCount b44_nextCount v44_width b44_width a_pivots a_mix 0 b n f a_RS a_RF x a1
    have e2 := sn_CM_X9_of c mv_isLaid mv_order mv_sorts mv_exponent mv_prime mv_root mv_spaces mb_spaces mv_splits mb_splits len mv_at mv_fault mv_orders mv_pointsThen mv_h 0 nw ma_held past 0 b n f ma_elements ma_products ma_sortOf ma_inverse ma_turns ma_size ma_least ma_timesOf ma_wide ma_bases ma_newWide ma_newBases ma_grid ma_lead ma_spreads ma_degrees ma_values ma_one t ma_letters ma_numbers x a2
    rw [eqM mx_0, eqM mx_0] at e2
    refine ⟨4294967294, _, _, e1, e2, ?_⟩
    exact ⟨_, _, Or.inl (kleH_refl _), kleH_refl _, N, cnt, nowc, nw, c, pp, pc, pcd, past, len, t, (n_add b 1), n, f, hs, hv, hc, hp, hl, ht, ⟨v3_points, v3_count, a_trialc, v17_orders, v17_kind, v17_number, v17_figuresDue, v17_figuresSeen, v17_pointsThen, a_kinds, a_numbers, v0_sortsKnown, v0_rowsKnown, v21_count, v22_count, v22_exponent, v23_order, v23_points, a_codes, a_einv, a_figures, a_generators, a_codeAtKey, a_placeAtKey, a_made, a_sortOf, a_sizes, a_turns, a_leasts, a_sinv, a_pointsLeft, a_pairs, a_powers, v39_p, v39_root, a_over, a_rootPowers, a_degrees, a_multiplied, v44_lines, v44_nextLines, v44_starts, v44_nextStarts, v44_spaces, v44_nextSpaces, v44_nextCount, v44_width, a_pivots, a_mix, a_RS, a_RF, b21_count, b44_spaces, b44_nextSpaces, b44_nextCount, b44_width, hk, rfl⟩, ⟨mv_at, mv_fault, mv_orders, mv_pointsThen, mv_h, ma_held, ma_letters, ma_numbers, mv_isLaid, mv_order, mv_sorts, mv_exponent, mv_prime, mv_root, mv_spaces, mv_splits, ma_elements, ma_products, ma_sortOf, ma_inverse, ma_turns, ma_size, ma_least, ma_timesOf, ma_wide, ma_bases, ma_newWide, ma_newBases, ma_grid, ma_lead, ma_spreads, ma_degrees, ma_values, ma_one, mb_spaces, mb_splits, hmk, rfl⟩⟩
  have hA : mx 40 (anw (rg g 0) cnt) nw = nw := by
    rw [hN]
    exact mx_anw hv.2.1 hv.2.2.1 hs.1 hs.2.1
  have hdB := fun A => (dataB hg.2.2.2.1).2.2.2.2 cnt A (Nat.lt_succ_of_le hv.2.2.1)
  generalize hAe : anw (rg g 0) cnt = A at hA hdB
  have hdB := hdB A rfl
  have bx := belowX hx h8
  have bm := inM_7 hm h8
  obtain ⟨mv_at, mv_fault, mv_orders, mv_pointsThen, mv_h, ma_held, ma_letters, ma_numbers, mb_spaces, mb_splits, k1, k2⟩ := layM hm hs hg hgg.symm hn hlen
  have bm1 := sn_CM_X9_in c 1 ((rg g 1)) ((rg g 6)) ((rg g 10)) ((rg g 16)) ((rg g 17)) ((tg g 22)) mb_spaces ((tg g 23)) mb_splits len mv_at mv_fault mv_orders mv_pointsThen mv_h 0 nw ma_held past 0 b n f ((rg g 2)) ((rg g 20)) ((rg g 22)) ((rg g 5)) ((rg g 21)) ((rg g 8)) ((rg g 9)) ((rg g 23)) ((tg g 24)) ((tg g 25)) ((tg g 26)) ((tg g 27)) ((tg g 28)) ((tg g 29)) ((rg g 25)) ((rg g 26)) ((rg g 27)) 0 t ma_letters ma_numbers x 0 7 (inM_t (by omega) (by omega))
  rw [eqM mx_0] at bm1
  have u2 : f_X9_of [k_r 1, k_i x] km = _ := of_9 (F3 := f_X9_refuses) bm bm1 cm0 rfl (un_X9_ofAll (x0 := x) cm0 rfl k1 k2)
  by_cases h7 : x = 7
  · subst h7
    obtain ⟨v3_points, v3_count, a_trialc, v17_orders, v17_kind, v17_number, v17_figuresDue, v17_figuresSeen, v17_pointsThen, a_kinds, a_numbers, b21_count, b44_spaces, b44_nextSpaces, b44_nextCount, b44_width, cak, made, l1, l2⟩ := learnR hx hg hgg.symm hn hlen
    have b1 := sn_CX_X8_isBelow 1 1 N cnt nowc v3_points v3_count a_trialc c ((pp 0)) ((pc 0)) ((pcd 0)) ((pp 1)) ((pc 1)) ((pcd 1)) ((pp 2)) ((pc 2)) ((pcd 2)) ((pp 3)) ((pc 3)) ((pcd 3)) ((pp 4)) ((pc 4)) ((pcd 4)) len v17_orders v17_kind v17_number v17_figuresDue v17_figuresSeen v17_pointsThen t a_kinds a_numbers ((Nat.succ (rg g 6))) b21_count ((rg g 6)) ((rg g 10)) ((rg g 1)) N ((rg g 2)) ((rg g 5)) ((rg g 3)) 0 cak ((rg g 4)) made ((rg g 7)) ((rg g 8)) ((rg g 11)) ((rg g 9)) ((rg g 12)) ((rg g 13)) ((rg g 14)) ((rg g 15)) ((rg g 16)) ((rg g 17)) ((rg g 18)) ((rg g 19)) ((tg g 8)) 0 ((tg g 9)) ((tg g 10)) ((tg g 11)) ((tg g 12)) ((tg g 13)) b44_spaces ((tg g 14)) b44_nextSpaces ((tg g 15)) b44_nextCount ((tg g 16)) b44_width ((tg g 17)) ((tg g 18)) 0 b n f ((tg g 19)) ((tg g 20)) 7 8 (blw_t h8 (by omega))
    have u1 : f_X8_of [k_r 1, k_i 7] kx = f_X8_of [k_r 1, k_i 7] _ := (of_eq (F2 := f_X8_refused) (F4 := f_X8_learnSorts) (F5 := f_X8_wholeAnswer) bx cx0 l1).trans (of_eq (F2 := f_X8_refused) (F4 := f_X8_learnSorts) (F5 := f_X8_wholeAnswer) b1 rfl l2).symm
    obtain ⟨r, p1, p2⟩ := cmp_some (alN_some _ hdB.2 7 h8)
    have e1 := sn_CX_X8_of 1 1 N cnt nowc v3_points v3_count a_trialc c ((pp 0)) ((pc 0)) ((pcd 0)) ((pp 1)) ((pc 1)) ((pcd 1)) ((pp 2)) ((pc 2)) ((pcd 2)) ((pp 3)) ((pc 3)) ((pcd 3)) ((pp 4)) ((pc 4)) ((pcd 4)) len v17_orders v17_kind v17_number v17_figuresDue v17_figuresSeen v17_pointsThen t a_kinds a_numbers ((Nat.succ (rg g 6))) b21_count ((rg g 6)) ((rg g 10)) ((rg g 1)) N ((rg g 2)) ((rg g 5)) ((rg g 3)) 0 cak ((rg g 4)) made ((rg g 7)) ((rg g 8)) ((rg g 11)) ((rg g 9)) ((rg g 12)) ((rg g 13)) ((rg g 14)) ((rg g 15)) ((rg g 16)) ((rg g 17)) ((rg g 18)) ((rg g 19)) ((tg g 8)) 0 ((tg g 9)) ((tg g 10)) ((tg g 11)) ((tg g 12)) ((tg g 13)) b44_spaces ((tg g 14)) b44_nextSpaces ((tg g 15)) b44_nextCount ((tg g 16)) b44_width ((tg g 17)) ((tg g 18)) 0 b n f ((tg g 19)) ((tg g 20)) 7 p1
    have e2 := sn_CM_X9_of c 1 ((rg g 1)) ((rg g 6)) ((rg g 10)) ((rg g 16)) ((rg g 17)) ((tg g 22)) mb_spaces ((tg g 23)) mb_splits len mv_at mv_fault mv_orders mv_pointsThen mv_h A nw ma_held past 0 b n f ((rg g 2)) ((rg g 20)) ((rg g 22)) ((rg g 5)) ((rg g 21)) ((rg g 8)) ((rg g 9)) ((rg g 23)) ((tg g 24)) ((tg g 25)) ((tg g 26)) ((tg g 27)) ((tg g 28)) ((tg g 29)) ((rg g 25)) ((rg g 26)) ((rg g 27)) 0 t ma_letters ma_numbers 7 p2
    rw [eqM hA] at e2
    have f1 := u1.trans e1
    have f2 := u2.trans e2
    obtain ⟨kx2, w1, w2⟩ := weakS (N := N) (cnt := cnt) (nowc := nowc) (c := c) (pp := pp) (pc := pc) (pcd := pcd) (len := len) (t := t) (g := g) (b := b) (n := n) (f := f) (v3_points := v3_points) (v3_count := v3_count) (a_trialc := a_trialc) (v17_orders := v17_orders) (v17_kind := v17_kind) (v17_number := v17_number) (v17_figuresDue := v17_figuresDue) (v17_figuresSeen := v17_figuresSeen) (v17_pointsThen := v17_pointsThen) (a_kinds := a_kinds) (a_numbers := a_numbers) (b21_count := b21_count) (b44_spaces := b44_spaces) (b44_nextSpaces := b44_nextSpaces) (b44_nextCount := b44_nextCount) (b44_width := b44_width) (v0_rowsKnown := 1) (v21_count := Nat.succ (rg g 6)) (a_degrees := tg g 8) (v44_lines := tg g 9) (v44_nextLines := tg g 10) (v44_starts := tg g 11) (v44_nextStarts := tg g 12) (v44_spaces := tg g 13) (v44_nextSpaces := tg g 14) (v44_nextCount := tg g 15) (v44_width := tg g 16) (a_pivots := tg g 17) (a_mix := tg g 18) (a_RS := tg g 19) (a_RF := tg g 20) (cak := cak) (made := made) (mult := 0) (Or.inr ⟨rfl, rfl, rfl, rfl, rfl, rfl, rfl, rfl, rfl, rfl, rfl, rfl, rfl, rfl, rfl⟩)
    obtain ⟨km2, v1, v2⟩ := weakM (nw := nw) (c := c) (past := past) (len := len) (t := t) (g := g) (b := b) (n := n) (f := f) (v_at := mv_at) (v_fault := mv_fault) (v_orders := mv_orders) (v_pointsThen := mv_pointsThen) (v_h := mv_h) (a_held := ma_held) (a_letters := ma_letters) (a_numbers := ma_numbers) (b_spaces := mb_spaces) (b_splits := mb_splits) (one := 0)
    subst hgg
    exact ⟨r, _, _, f1, f2, kx2, km2, Or.inl w1, v1, N, cnt, nowc, nw, c, pp, pc, pcd, past, len, t, b, n, f, hs, hv, hc, hp, hl, ht, w2, v2⟩
  · obtain ⟨v3_points, v3_count, a_trialc, v17_orders, v17_kind, v17_number, v17_figuresDue, v17_figuresSeen, v17_pointsThen, a_kinds, a_numbers, v0_rowsKnown, v21_count, a_degrees, v44_lines, v44_nextLines, v44_starts, v44_nextStarts, v44_spaces, v44_nextSpaces, v44_nextCount, v44_width, a_pivots, a_mix, a_RS, a_RF, b21_count, b44_spaces, b44_nextSpaces, b44_nextCount, b44_width, cak, made, hmp, hrow, l1, l2⟩ := learnS hx hg hgg.symm hn hlen
    have b1 := sn_CX_X8_isBelow 1 v0_rowsKnown N cnt nowc v3_points v3_count a_trialc c ((pp 0)) ((pc 0)) ((pcd 0)) ((pp 1)) ((pc 1)) ((pcd 1)) ((pp 2)) ((pc 2)) ((pcd 2)) ((pp 3)) ((pc 3)) ((pcd 3)) ((pp 4)) ((pc 4)) ((pcd 4)) len v17_orders v17_kind v17_number v17_figuresDue v17_figuresSeen v17_pointsThen t a_kinds a_numbers v21_count b21_count ((rg g 6)) ((rg g 10)) ((rg g 1)) N ((rg g 2)) ((rg g 5)) ((rg g 3)) 0 cak ((rg g 4)) made ((rg g 7)) ((rg g 8)) ((rg g 11)) ((rg g 9)) ((rg g 12)) ((rg g 13)) ((rg g 14)) ((rg g 15)) ((rg g 16)) ((rg g 17)) ((rg g 18)) ((rg g 19)) a_degrees 0 v44_lines v44_nextLines v44_starts v44_nextStarts v44_spaces b44_spaces v44_nextSpaces b44_nextSpaces v44_nextCount b44_nextCount v44_width b44_width a_pivots a_mix 0 b n f a_RS a_RF x 8 (blw_t h8 (by omega))
    have u1 : f_X8_of [k_r 1, k_i x] kx = f_X8_of [k_r 1, k_i x] _ := (of_lt (F2 := f_X8_refused) (F3 := f_X8_learnRows) (F5 := f_X8_wholeAnswer) bx cx0 h7 l1).trans (of_lt (F2 := f_X8_refused) (F3 := f_X8_learnRows) (F5 := f_X8_wholeAnswer) b1 rfl h7 l2).symm
    have hq : ∃ r, P_CX_X8_of 1 v0_rowsKnown cnt v21_count (rg g 6) (rg g 10) (rg g 1) (rg g 8) (rg g 16) (rg g 17) a_degrees 0 x = some (r, 0) ∧ P_CM_X9_of 1 (rg g 1) (rg g 6) (rg g 10) (rg g 16) (rg g 17) A 0 (rg g 8) (rg g 26) x = some (r, 0) := by
      rcases hrow with ⟨rfl, rfl, rfl, rfl, rfl, rfl, rfl, rfl, rfl, rfl, rfl, rfl, rfl, rfl, rfl⟩ | ⟨rfl, rfl, rfl, rfl, rfl, rfl, rfl, rfl, rfl, rfl, rfl, rfl, rfl, rfl, rfl⟩
      · exact cmp_some (alN_some _ hdB.1 x (by omega))
      · exact cmp_some (alN_some _ hdB.2 x h8)
    obtain ⟨r, p1, p2⟩ := hq
    have e1 := sn_CX_X8_of 1 v0_rowsKnown N cnt nowc v3_points v3_count a_trialc c ((pp 0)) ((pc 0)) ((pcd 0)) ((pp 1)) ((pc 1)) ((pcd 1)) ((pp 2)) ((pc 2)) ((pcd 2)) ((pp 3)) ((pc 3)) ((pcd 3)) ((pp 4)) ((pc 4)) ((pcd 4)) len v17_orders v17_kind v17_number v17_figuresDue v17_figuresSeen v17_pointsThen t a_kinds a_numbers v21_count b21_count ((rg g 6)) ((rg g 10)) ((rg g 1)) N ((rg g 2)) ((rg g 5)) ((rg g 3)) 0 cak ((rg g 4)) made ((rg g 7)) ((rg g 8)) ((rg g 11)) ((rg g 9)) ((rg g 12)) ((rg g 13)) ((rg g 14)) ((rg g 15)) ((rg g 16)) ((rg g 17)) ((rg g 18)) ((rg g 19)) a_degrees 0 v44_lines v44_nextLines v44_starts v44_nextStarts v44_spaces b44_spaces v44_nextSpaces b44_nextSpaces v44_nextCount b44_nextCount v44_width b44_width a_pivots a_mix 0 b n f a_RS a_RF x p1
    have e2 := sn_CM_X9_of c 1 ((rg g 1)) ((rg g 6)) ((rg g 10)) ((rg g 16)) ((rg g 17)) ((tg g 22)) mb_spaces ((tg g 23)) mb_splits len mv_at mv_fault mv_orders mv_pointsThen mv_h A nw ma_held past 0 b n f ((rg g 2)) ((rg g 20)) ((rg g 22)) ((rg g 5)) ((rg g 21)) ((rg g 8)) ((rg g 9)) ((rg g 23)) ((tg g 24)) ((tg g 25)) ((tg g 26)) ((tg g 27)) ((tg g 28)) ((tg g 29)) ((rg g 25)) ((rg g 26)) ((rg g 27)) 0 t ma_letters ma_numbers x p2
    rw [eqM hA] at e2
    have f1 := u1.trans e1
    have f2 := u2.trans e2
    obtain ⟨kx2, w1, w2⟩ := weakS (N := N) (cnt := cnt) (nowc := nowc) (c := c) (pp := pp) (pc := pc) (pcd := pcd) (len := len) (t := t) (g := g) (b := b) (n := n) (f := f) (v3_points := v3_points) (v3_count := v3_count) (a_trialc := a_trialc) (v17_orders := v17_orders) (v17_kind := v17_kind) (v17_number := v17_number) (v17_figuresDue := v17_figuresDue) (v17_figuresSeen := v17_figuresSeen) (v17_pointsThen := v17_pointsThen) (a_kinds := a_kinds) (a_numbers := a_numbers) (b21_count := b21_count) (b44_spaces := b44_spaces) (b44_nextSpaces := b44_nextSpaces) (b44_nextCount := b44_nextCount) (b44_width := b44_width) (v0_rowsKnown := v0_rowsKnown) (v21_count := v21_count) (a_degrees := a_degrees) (v44_lines := v44_lines) (v44_nextLines := v44_nextLines) (v44_starts := v44_starts) (v44_nextStarts := v44_nextStarts) (v44_spaces := v44_spaces) (v44_nextSpaces := v44_nextSpaces) (v44_nextCount := v44_nextCount) (v44_width := v44_width) (a_pivots := a_pivots) (a_mix := a_mix) (a_RS := a_RS) (a_RF := a_RF) (cak := cak) (made := made) (mult := 0) hrow
    obtain ⟨km2, v1, v2⟩ := weakM (nw := nw) (c := c) (past := past) (len := len) (t := t) (g := g) (b := b) (n := n) (f := f) (v_at := mv_at) (v_fault := mv_fault) (v_orders := mv_orders) (v_pointsThen := mv_pointsThen) (v_h := mv_h) (a_held := ma_held) (a_letters := ma_letters) (a_numbers := ma_numbers) (b_spaces := mb_spaces) (b_splits := mb_splits) (one := 0)
    subst hgg
    exact ⟨r, _, _, f1, f2, kx2, km2, Or.inl w1, v1, N, cnt, nowc, nw, c, pp, pc, pcd, past, len, t, b, n, f, hs, hv, hc, hp, hl, ht, w2, v2⟩
