/-! ===== the invariant of both heaps ===== -/
def RK0 (v0_sortsKnown : Nat) (v0_rowsKnown : Nat) (v21_count : Nat) (v22_count : Nat) (v22_exponent : Nat) (v23_order : Nat) (v23_points : Nat) (a_codes : Nat) (a_einv : Nat) (a_figures : Nat) (a_generators : Nat) (a_codeAtKey : Nat) (a_placeAtKey : Nat) (a_made : Nat) (a_sortOf : Nat) (a_sizes : Nat) (a_turns : Nat) (a_leasts : Nat) (a_sinv : Nat) (a_pointsLeft : Nat) (a_pairs : Nat) (a_powers : Nat) (v39_p : Nat) (v39_root : Nat) (a_over : Nat) (a_rootPowers : Nat) (a_degrees : Nat) (a_multiplied : Nat) (v44_lines : Nat) (v44_nextLines : Nat) (v44_starts : Nat) (v44_nextStarts : Nat) (v44_spaces : Nat) (v44_nextSpaces : Nat) (v44_nextCount : Nat) (v44_width : Nat) (a_pivots : Nat) (a_mix : Nat) (a_RS : Nat) (a_RF : Nat) : Prop := v0_sortsKnown = 0 ∧ v0_rowsKnown = 0 ∧ v21_count = 0 ∧ a_codes = 0 ∧ a_einv = 0 ∧ a_figures = 0 ∧ a_generators = 0 ∧ a_codeAtKey = 0 ∧ a_placeAtKey = 0 ∧ a_made = 0 ∧ a_sortOf = 0 ∧ a_sizes = 0 ∧ a_turns = 0 ∧ a_leasts = 0 ∧ a_sinv = 0 ∧ a_pointsLeft = 0 ∧ a_pairs = 0 ∧ a_powers = 0 ∧ a_over = 0 ∧ a_rootPowers = 0 ∧ a_degrees = 0 ∧ a_multiplied = 0 ∧ v44_lines = 53 ∧ v44_nextLines = 54 ∧ v44_starts = 49 ∧ v44_nextStarts = 50 ∧ v44_spaces = 0 ∧ v44_nextSpaces = 0 ∧ v44_nextCount = 0 ∧ v44_width = 0 ∧ a_pivots = 0 ∧ a_mix = 0 ∧ a_RS = 0 ∧ a_RF = rf0
def RK1 (g N : Nat) (v0_sortsKnown : Nat) (v0_rowsKnown : Nat) (v21_count : Nat) (v22_count : Nat) (v22_exponent : Nat) (v23_order : Nat) (v23_points : Nat) (a_codes : Nat) (a_einv : Nat) (a_figures : Nat) (a_generators : Nat) (a_codeAtKey : Nat) (a_placeAtKey : Nat) (a_made : Nat) (a_sortOf : Nat) (a_sizes : Nat) (a_turns : Nat) (a_leasts : Nat) (a_sinv : Nat) (a_pointsLeft : Nat) (a_pairs : Nat) (a_powers : Nat) (v39_p : Nat) (v39_root : Nat) (a_over : Nat) (a_rootPowers : Nat) (a_degrees : Nat) (a_multiplied : Nat) (v44_lines : Nat) (v44_nextLines : Nat) (v44_starts : Nat) (v44_nextStarts : Nat) (v44_spaces : Nat) (v44_nextSpaces : Nat) (v44_nextCount : Nat) (v44_width : Nat) (a_pivots : Nat) (a_mix : Nat) (a_RS : Nat) (a_RF : Nat) : Prop := v0_sortsKnown = 1 ∧ v0_rowsKnown = 0 ∧ v21_count = 0 ∧ v22_count = rg g 6 ∧ v22_exponent = rg g 10 ∧ v23_order = rg g 1 ∧ v23_points = N ∧ a_codes = rg g 2 ∧ a_einv = rg g 5 ∧ a_figures = rg g 3 ∧ a_generators = 0 ∧ a_codeAtKey = 0 ∧ a_placeAtKey = rg g 4 ∧ a_made = 0 ∧ a_sortOf = rg g 7 ∧ a_sizes = rg g 8 ∧ a_turns = rg g 11 ∧ a_leasts = rg g 9 ∧ a_sinv = rg g 12 ∧ a_pointsLeft = rg g 13 ∧ a_pairs = rg g 14 ∧ a_powers = rg g 15 ∧ v39_p = rg g 16 ∧ v39_root = rg g 17 ∧ a_over = rg g 18 ∧ a_rootPowers = rg g 19 ∧ a_degrees = 0 ∧ a_multiplied = 0 ∧ v44_lines = 53 ∧ v44_nextLines = 54 ∧ v44_starts = 49 ∧ v44_nextStarts = 50 ∧ v44_spaces = 0 ∧ v44_nextSpaces = 0 ∧ v44_nextCount = 0 ∧ v44_width = 0 ∧ a_pivots = 0 ∧ a_mix = 0 ∧ a_RS = 0 ∧ a_RF = rf0
def RK2 (g N : Nat) (v0_sortsKnown : Nat) (v0_rowsKnown : Nat) (v21_count : Nat) (v22_count : Nat) (v22_exponent : Nat) (v23_order : Nat) (v23_points : Nat) (a_codes : Nat) (a_einv : Nat) (a_figures : Nat) (a_generators : Nat) (a_codeAtKey : Nat) (a_placeAtKey : Nat) (a_made : Nat) (a_sortOf : Nat) (a_sizes : Nat) (a_turns : Nat) (a_leasts : Nat) (a_sinv : Nat) (a_pointsLeft : Nat) (a_pairs : Nat) (a_powers : Nat) (v39_p : Nat) (v39_root : Nat) (a_over : Nat) (a_rootPowers : Nat) (a_degrees : Nat) (a_multiplied : Nat) (v44_lines : Nat) (v44_nextLines : Nat) (v44_starts : Nat) (v44_nextStarts : Nat) (v44_spaces : Nat) (v44_nextSpaces : Nat) (v44_nextCount : Nat) (v44_width : Nat) (a_pivots : Nat) (a_mix : Nat) (a_RS : Nat) (a_RF : Nat) : Prop := v0_sortsKnown = 1 ∧ v0_rowsKnown = 1 ∧ v21_count = Nat.succ (rg g 6) ∧ v22_count = rg g 6 ∧ v22_exponent = rg g 10 ∧ v23_order = rg g 1 ∧ v23_points = N ∧ a_codes = rg g 2 ∧ a_einv = rg g 5 ∧ a_figures = rg g 3 ∧ a_generators = 0 ∧ a_codeAtKey = 0 ∧ a_placeAtKey = rg g 4 ∧ a_made = 0 ∧ a_sortOf = rg g 7 ∧ a_sizes = rg g 8 ∧ a_turns = rg g 11 ∧ a_leasts = rg g 9 ∧ a_sinv = rg g 12 ∧ a_pointsLeft = rg g 13 ∧ a_pairs = rg g 14 ∧ a_powers = rg g 15 ∧ v39_p = rg g 16 ∧ v39_root = rg g 17 ∧ a_over = rg g 18 ∧ a_rootPowers = rg g 19 ∧ a_degrees = tg g 8 ∧ a_multiplied = 0 ∧ v44_lines = tg g 9 ∧ v44_nextLines = tg g 10 ∧ v44_starts = tg g 11 ∧ v44_nextStarts = tg g 12 ∧ v44_spaces = tg g 13 ∧ v44_nextSpaces = tg g 14 ∧ v44_nextCount = tg g 15 ∧ v44_width = tg g 16 ∧ a_pivots = tg g 17 ∧ a_mix = tg g 18 ∧ a_RS = tg g 19 ∧ a_RF = tg g 20
def RK (g N : Nat) (v0_sortsKnown : Nat) (v0_rowsKnown : Nat) (v21_count : Nat) (v22_count : Nat) (v22_exponent : Nat) (v23_order : Nat) (v23_points : Nat) (a_codes : Nat) (a_einv : Nat) (a_figures : Nat) (a_generators : Nat) (a_codeAtKey : Nat) (a_placeAtKey : Nat) (a_made : Nat) (a_sortOf : Nat) (a_sizes : Nat) (a_turns : Nat) (a_leasts : Nat) (a_sinv : Nat) (a_pointsLeft : Nat) (a_pairs : Nat) (a_powers : Nat) (v39_p : Nat) (v39_root : Nat) (a_over : Nat) (a_rootPowers : Nat) (a_degrees : Nat) (a_multiplied : Nat) (v44_lines : Nat) (v44_nextLines : Nat) (v44_starts : Nat) (v44_nextStarts : Nat) (v44_spaces : Nat) (v44_nextSpaces : Nat) (v44_nextCount : Nat) (v44_width : Nat) (a_pivots : Nat) (a_mix : Nat) (a_RS : Nat) (a_RF : Nat) : Prop := RK0 v0_sortsKnown v0_rowsKnown v21_count v22_count v22_exponent v23_order v23_points a_codes a_einv a_figures a_generators a_codeAtKey a_placeAtKey a_made a_sortOf a_sizes a_turns a_leasts a_sinv a_pointsLeft a_pairs a_powers v39_p v39_root a_over a_rootPowers a_degrees a_multiplied v44_lines v44_nextLines v44_starts v44_nextStarts v44_spaces v44_nextSpaces v44_nextCount v44_width a_pivots a_mix a_RS a_RF ∨ RK1 g N v0_sortsKnown v0_rowsKnown v21_count v22_count v22_exponent v23_order v23_points a_codes a_einv a_figures a_generators a_codeAtKey a_placeAtKey a_made a_sortOf a_sizes a_turns a_leasts a_sinv a_pointsLeft a_pairs a_powers v39_p v39_root a_over a_rootPowers a_degrees a_multiplied v44_lines v44_nextLines v44_starts v44_nextStarts v44_spaces v44_nextSpaces v44_nextCount v44_width a_pivots a_mix a_RS a_RF ∨ RK2 g N v0_sortsKnown v0_rowsKnown v21_count v22_count v22_exponent v23_order v23_points a_codes a_einv a_figures a_generators a_codeAtKey a_placeAtKey a_made a_sortOf a_sizes a_turns a_leasts a_sinv a_pointsLeft a_pairs a_powers v39_p v39_root a_over a_rootPowers a_degrees a_multiplied v44_lines v44_nextLines v44_starts v44_nextStarts v44_spaces v44_nextSpaces v44_nextCount v44_width a_pivots a_mix a_RS a_RF
def INVX (N cnt : Nat) (nowc : Nat → Nat) (c : Nat) (pp pc : Nat → Nat) (pcd : Nat → Nat → Nat) (len : Nat) (t : Nat → Nat) (b n f g : Nat) (kh : KH) : Prop := ∃ (v3_points : Nat) (v3_count : Nat) (a_trialc : Nat → Nat) (v17_orders : Nat) (v17_kind : Nat) (v17_number : Nat) (v17_figuresDue : Nat) (v17_figuresSeen : Nat) (v17_pointsThen : Nat) (a_kinds : Nat → Nat) (a_numbers : Nat → Nat) (v0_sortsKnown : Nat) (v0_rowsKnown : Nat) (v21_count : Nat) (v22_count : Nat) (v22_exponent : Nat) (v23_order : Nat) (v23_points : Nat) (a_codes : Nat) (a_einv : Nat) (a_figures : Nat) (a_generators : Nat) (a_codeAtKey : Nat) (a_placeAtKey : Nat) (a_made : Nat) (a_sortOf : Nat) (a_sizes : Nat) (a_turns : Nat) (a_leasts : Nat) (a_sinv : Nat) (a_pointsLeft : Nat) (a_pairs : Nat) (a_powers : Nat) (v39_p : Nat) (v39_root : Nat) (a_over : Nat) (a_rootPowers : Nat) (a_degrees : Nat) (a_multiplied : Nat) (v44_lines : Nat) (v44_nextLines : Nat) (v44_starts : Nat) (v44_nextStarts : Nat) (v44_spaces : Nat) (v44_nextSpaces : Nat) (v44_nextCount : Nat) (v44_width : Nat) (a_pivots : Nat) (a_mix : Nat) (a_RS : Nat) (a_RF : Nat) (b21_count : Nat) (b44_spaces : Nat) (b44_nextSpaces : Nat) (b44_nextCount : Nat) (b44_width : Nat), RK g N v0_sortsKnown v0_rowsKnown v21_count v22_count v22_exponent v23_order v23_points a_codes a_einv a_figures a_generators a_codeAtKey a_placeAtKey a_made a_sortOf a_sizes a_turns a_leasts a_sinv a_pointsLeft a_pairs a_powers v39_p v39_root a_over a_rootPowers a_degrees a_multiplied v44_lines v44_nextLines v44_starts v44_nextStarts v44_spaces v44_nextSpaces v44_nextCount v44_width a_pivots a_mix a_RS a_RF ∧ kh = HQ_CX v0_sortsKnown v0_rowsKnown N cnt nowc v3_points v3_count a_trialc c ((pp 0)) ((pc 0)) ((pcd 0)) ((pp 1)) ((pc 1)) ((pcd 1)) ((pp 2)) ((pc 2)) ((pcd 2)) ((pp 3)) ((pc 3)) ((pcd 3)) ((pp 4)) ((pc 4)) ((pcd 4)) len v17_orders v17_kind v17_number v17_figuresDue v17_figuresSeen v17_pointsThen t a_kinds a_numbers v21_count b21_count v22_count v22_exponent v23_order v23_points a_codes a_einv a_figures a_generators a_codeAtKey a_placeAtKey a_made a_sortOf a_sizes a_turns a_leasts a_sinv a_pointsLeft a_pairs a_powers v39_p v39_root a_over a_rootPowers a_degrees a_multiplied v44_lines v44_nextLines v44_starts v44_nextStarts v44_spaces b44_spaces v44_nextSpaces b44_nextSpaces v44_nextCount b44_nextCount v44_width b44_width a_pivots a_mix 0 b n f a_RS a_RF
def RM0 (v_isLaid : Nat) (v_order : Nat) (v_sorts : Nat) (v_exponent : Nat) (v_prime : Nat) (v_root : Nat) (v_spaces : Nat) (v_splits : Nat) (a_elements : Nat) (a_products : Nat) (a_sortOf : Nat) (a_inverse : Nat) (a_turns : Nat) (a_size : Nat) (a_least : Nat) (a_timesOf : Nat) (a_wide : Nat) (a_bases : Nat) (a_newWide : Nat) (a_newBases : Nat) (a_grid : Nat) (a_lead : Nat) (a_spreads : Nat) (a_degrees : Nat) (a_values : Nat) (a_one : Nat) : Prop := v_isLaid = 0 ∧ v_spaces = 0 ∧ v_splits = 0 ∧ a_elements = 0 ∧ a_products = 0 ∧ a_sortOf = 0 ∧ a_inverse = 0 ∧ a_turns = 0 ∧ a_size = 0 ∧ a_least = 0 ∧ a_timesOf = 0 ∧ a_wide = 0 ∧ a_bases = 0 ∧ a_newWide = 0 ∧ a_newBases = 0 ∧ a_grid = 0 ∧ a_lead = 0 ∧ a_spreads = 0 ∧ a_degrees = 0 ∧ a_values = 0 ∧ a_one = 0
def RM1 (g : Nat) (v_isLaid : Nat) (v_order : Nat) (v_sorts : Nat) (v_exponent : Nat) (v_prime : Nat) (v_root : Nat) (v_spaces : Nat) (v_splits : Nat) (a_elements : Nat) (a_products : Nat) (a_sortOf : Nat) (a_inverse : Nat) (a_turns : Nat) (a_size : Nat) (a_least : Nat) (a_timesOf : Nat) (a_wide : Nat) (a_bases : Nat) (a_newWide : Nat) (a_newBases : Nat) (a_grid : Nat) (a_lead : Nat) (a_spreads : Nat) (a_degrees : Nat) (a_values : Nat) (a_one : Nat) : Prop := v_isLaid = 1 ∧ v_order = rg g 1 ∧ v_sorts = rg g 6 ∧ v_exponent = rg g 10 ∧ v_prime = rg g 16 ∧ v_root = rg g 17 ∧ v_spaces = tg g 22 ∧ v_splits = tg g 23 ∧ a_elements = rg g 2 ∧ a_products = rg g 20 ∧ a_sortOf = rg g 22 ∧ a_inverse = rg g 5 ∧ a_turns = rg g 21 ∧ a_size = rg g 8 ∧ a_least = rg g 9 ∧ a_timesOf = rg g 23 ∧ a_wide = tg g 24 ∧ a_bases = tg g 25 ∧ a_newWide = tg g 26 ∧ a_newBases = tg g 27 ∧ a_grid = tg g 28 ∧ a_lead = tg g 29 ∧ a_spreads = rg g 25 ∧ a_degrees = rg g 26 ∧ a_values = rg g 27 ∧ a_one = 0
def RM (g : Nat) (v_isLaid : Nat) (v_order : Nat) (v_sorts : Nat) (v_exponent : Nat) (v_prime : Nat) (v_root : Nat) (v_spaces : Nat) (v_splits : Nat) (a_elements : Nat) (a_products : Nat) (a_sortOf : Nat) (a_inverse : Nat) (a_turns : Nat) (a_size : Nat) (a_least : Nat) (a_timesOf : Nat) (a_wide : Nat) (a_bases : Nat) (a_newWide : Nat) (a_newBases : Nat) (a_grid : Nat) (a_lead : Nat) (a_spreads : Nat) (a_degrees : Nat) (a_values : Nat) (a_one : Nat) : Prop := RM0 v_isLaid v_order v_sorts v_exponent v_prime v_root v_spaces v_splits a_elements a_products a_sortOf a_inverse a_turns a_size a_least a_timesOf a_wide a_bases a_newWide a_newBases a_grid a_lead a_spreads a_degrees a_values a_one ∨ RM1 g v_isLaid v_order v_sorts v_exponent v_prime v_root v_spaces v_splits a_elements a_products a_sortOf a_inverse a_turns a_size a_least a_timesOf a_wide a_bases a_newWide a_newBases a_grid a_lead a_spreads a_degrees a_values a_one
def INVM (nw : Nat → Nat) (c : Nat) (past : Nat → Nat) (len : Nat) (t : Nat → Nat) (b n f g : Nat) (kh : KH) : Prop := ∃ (v_at : Nat) (v_fault : Nat) (v_orders : Nat) (v_pointsThen : Nat) (v_h : Nat) (a_held : Nat → Nat) (a_letters : Nat → Nat) (a_numbers : Nat → Nat) (v_isLaid : Nat) (v_order : Nat) (v_sorts : Nat) (v_exponent : Nat) (v_prime : Nat) (v_root : Nat) (v_spaces : Nat) (v_splits : Nat) (a_elements : Nat) (a_products : Nat) (a_sortOf : Nat) (a_inverse : Nat) (a_turns : Nat) (a_size : Nat) (a_least : Nat) (a_timesOf : Nat) (a_wide : Nat) (a_bases : Nat) (a_newWide : Nat) (a_newBases : Nat) (a_grid : Nat) (a_lead : Nat) (a_spreads : Nat) (a_degrees : Nat) (a_values : Nat) (a_one : Nat) (b_spaces : Nat) (b_splits : Nat), RM g v_isLaid v_order v_sorts v_exponent v_prime v_root v_spaces v_splits a_elements a_products a_sortOf a_inverse a_turns a_size a_least a_timesOf a_wide a_bases a_newWide a_newBases a_grid a_lead a_spreads a_degrees a_values a_one ∧ kh = HQ_CMf c v_isLaid v_order v_sorts v_exponent v_prime v_root v_spaces b_spaces v_splits b_splits len v_at v_fault v_orders v_pointsThen v_h nw a_held past 0 b n f ((pk 17 a_elements)) ((pk 8 a_products)) a_sortOf a_inverse a_turns a_size a_least a_timesOf a_wide a_bases a_newWide a_newBases a_grid a_lead a_spreads a_degrees a_values a_one t a_letters a_numbers
def lst (cnt : Nat) (nowc : Nat → Nat) : List Nat := (List.range cnt).map fun j => Nat.pred (nowc j)
def PR (c : Nat) (pp pc : Nat → Nat) (pcd : Nat → Nat → Nat) (past : Nat → Nat) : Prop := ∀ i, i < c → stR (pp i) (pc i) (pcd i) (fun k => past (5 * i + k)) ∧ vS (pp i) (pc i) (pcd i)
def INV (kx km : KH) : Prop := ∃ (N cnt : Nat) (nowc nw : Nat → Nat) (c : Nat) (pp pc : Nat → Nat) (pcd : Nat → Nat → Nat) (past : Nat → Nat) (len : Nat) (t : Nat → Nat) (b n f : Nat), stR N cnt nowc nw ∧ vS N cnt nowc ∧ c ≤ 5 ∧ PR c pp pc pcd past ∧ len ≤ 80 ∧ (∀ k, k < len → ∃ x, t k = x + 1 ∧ x < 128) ∧ INVX N cnt nowc c pp pc pcd len t b n f (gL N (lst cnt nowc)) kx ∧ INVM nw c past len t b n f (gL N (lst cnt nowc)) km
def redX (kl ks : KH) : Prop := kleH kl ks ∨ ∃ io, k_sub io ks kl ∧ io[0]? = some 0
def INV2 (kx km : KH) : Prop := ∃ kx2 km2, redX kx kx2 ∧ kleH km km2 ∧ INV kx2 km2
def STEP (F G : KF) (args : List KV) (kx km : KH) : Prop := ∃ (a : Nat) (kx' km' : KH), F (k_r 1 :: args) kx = some ([k_i a], kx') ∧ G (k_r 1 :: args) km = some ([k_i a], km') ∧ INV2 kx' km'
theorem gset {N cnt : Nat} {nowc : Nat → Nat} (hv : vS N cnt nowc) : gok N (lst cnt nowc) (gL N (lst cnt nowc)) ∧ (lst cnt nowc).length = cnt ∧ ∀ k c, (lst cnt nowc)[k]? = some c → nowc k = c + 1 := by
  obtain ⟨h1, h5, h3, -, hm⟩ := hv
  have hlen : (lst cnt nowc).length = cnt := by unfold lst; rw [List.length_map, List.length_range]
  have hk : ∀ k c, (lst cnt nowc)[k]? = some c → nowc k = c + 1 ∧ isMv N c := fun k c hc => by
    unfold lst at hc
    rw [List.getElem?_map] at hc
    by_cases hh : k < cnt
    · rw [List.getElem?_range hh] at hc
      cases hc
      obtain ⟨x, e1, e2⟩ := hm k hh
      refine ⟨?_, ?_⟩
      · show nowc k = Nat.pred (nowc k) + 1
        rw [e1]
        rfl
      · show isMv N (Nat.pred (nowc k))
        rw [e1]
        exact e2
    · rw [List.getElem?_eq_none (by simpa using hh)] at hc
      cases hc
  refine ⟨gL_ok (gok_of h1 h5 (by omega) (fun c hc => ?_)), hlen, fun k c hc => (hk k c hc).1⟩
  obtain ⟨k, hk1⟩ := List.getElem?_of_mem hc
  exact (hk k c hk1).2
theorem cpv_at (d : Nat → Nat) (c0 c1 c2 j : Nat) (s : Nat → Nat) (h0 : s 0 = c0 + 1) (h1 : s 1 = c1 + 1) (h2 : s 2 = c2 + 1) (hj : j < 3) : cpv d c0 c1 c2 j = s j := by
  have : j = 0 ∨ j = 1 ∨ j = 2 := by omega
  rcases this with rfl | rfl | rfl
  · exact h0.symm
  · exact h1.symm
  · exact h2.symm
theorem stR_cp {p q : Nat} {s s' nw : Nat → Nat} (h : stR p q s nw) (hs : ∀ j, j < 3 → s' j = s j) : stR p q s' nw := ⟨h.1, h.2.1, fun j hj => by rw [h.2.2 j hj, hs j hj]⟩
theorem stR_nw {p q : Nat} {s nw nw' : Nat → Nat} (h : stR p q s nw) (hs : ∀ j, j < 5 → nw' j = nw j) : stR p q s nw' := ⟨by rw [hs 0 (by omega)]; exact h.1, by rw [hs 1 (by omega)]; exact h.2.1, fun j hj => by rw [hs (2 + j) (by omega)]; exact h.2.2 j hj⟩
theorem vS_cp {p q : Nat} {s s' : Nat → Nat} (h : vS p q s) (hs : ∀ j, j < 3 → s' j = s j) : vS p q s' := by
  obtain ⟨h1, h2, h3, h4, h5⟩ := h
  refine ⟨h1, h2, h3, fun j hj => by rw [hs j hj]; exact h4 j hj, fun j hj => by rw [hs j (by omega)]; exact h5 j hj⟩
def ufF (f : Nat → Nat → Nat) (i : Nat) (v : Nat → Nat) : Nat → Nat → Nat := fun j => if j = i then v else f j
def ufN (f : Nat → Nat) (i v : Nat) : Nat → Nat := fun j => if j = i then v else f j
theorem PR_app {c N cnt : Nat} {pp pc : Nat → Nat} {pcd : Nat → Nat → Nat} {past past' nowc nw hd : Nat → Nat} (h : PR c pp pc pcd past) (hs : stR N cnt nowc nw) (hv : vS N cnt nowc) (hh : ∀ j, j < 5 → hd j = nw j) (h1 : ∀ k, k < 5 → past' (5 * c + k) = hd k) (h2 : ∀ j, j < 5 * c → past' j = past j) {w : Nat → Nat} (hw : ∀ j, j < 3 → w j = nowc j) : PR (c + 1) (ufN pp c N) (ufN pc c cnt) (ufF pcd c w) past' := by
  intro i hi
  unfold ufN ufF
  by_cases e : i = c
  · subst e
    simp only [if_true]
    refine ⟨stR_cp (stR_nw hs (fun j hj => ?_)) hw, vS_cp hv hw⟩
    show past' (5 * i + j) = _
    rw [h1 j hj, hh j hj]
  · simp only [e, if_false]
    obtain ⟨q1, q2⟩ := h i (by omega)
    refine ⟨stR_nw q1 (fun j hj => ?_), q2⟩
    show past' (5 * i + j) = past (5 * i + j)
    exact h2 _ (by omega)
theorem PR_tl {pp pc : Nat → Nat} {pcd : Nat → Nat → Nat} {past past' : Nat → Nat} (h : PR 5 pp pc pcd past) (h2 : ∀ j, j < 20 → past' j = past (j + 5)) : PR 4 (fun i => pp (i + 1)) (fun i => pc (i + 1)) (fun i => pcd (i + 1)) past' := by
  intro i hi
  obtain ⟨q1, q2⟩ := h (i + 1) (by omega)
  refine ⟨stR_nw q1 (fun j hj => ?_), q2⟩
  show past' (5 * i + j) = past (5 * (i + 1) + j)
  rw [h2 _ (by omega)]
  congr 1
  omega
theorem RK_okP {g N : Nat} {v0_sortsKnown : Nat} {v0_rowsKnown : Nat} {v21_count : Nat} {v22_count : Nat} {v22_exponent : Nat} {v23_order : Nat} {v23_points : Nat} {a_codes : Nat} {a_einv : Nat} {a_figures : Nat} {a_generators : Nat} {a_codeAtKey : Nat} {a_placeAtKey : Nat} {a_made : Nat} {a_sortOf : Nat} {a_sizes : Nat} {a_turns : Nat} {a_leasts : Nat} {a_sinv : Nat} {a_pointsLeft : Nat} {a_pairs : Nat} {a_powers : Nat} {v39_p : Nat} {v39_root : Nat} {a_over : Nat} {a_rootPowers : Nat} {a_degrees : Nat} {a_multiplied : Nat} {v44_lines : Nat} {v44_nextLines : Nat} {v44_starts : Nat} {v44_nextStarts : Nat} {v44_spaces : Nat} {v44_nextSpaces : Nat} {v44_nextCount : Nat} {v44_width : Nat} {a_pivots : Nat} {a_mix : Nat} {a_RS : Nat} {a_RF : Nat} (hg : g < 195) (h : RK g N v0_sortsKnown v0_rowsKnown v21_count v22_count v22_exponent v23_order v23_points a_codes a_einv a_figures a_generators a_codeAtKey a_placeAtKey a_made a_sortOf a_sizes a_turns a_leasts a_sinv a_pointsLeft a_pairs a_powers v39_p v39_root a_over a_rootPowers a_degrees a_multiplied v44_lines v44_nextLines v44_starts v44_nextStarts v44_spaces v44_nextSpaces v44_nextCount v44_width a_pivots a_mix a_RS a_RF) : ∃ s1 s2 l1 l2 rows, v44_lines = l1 + 1 ∧ v44_nextLines = l2 + 1 ∧ v44_starts = s1 + 1 ∧ v44_nextStarts = s2 + 1 ∧ okP (ioX s1 s2 l1 l2 rows) s1 s2 l1 l2 rows a_RF ∧ okP (ioS s1 s2 l1 l2 rows) s1 s2 l1 l2 rows a_RF := by
  rcases h with h | h | h
  · unfold RK0 at h
    refine ⟨48, 49, 52, 53, _, by simp only [h], by simp only [h], by simp only [h], by simp only [h], by rw [show a_RF = rf0 by simp only [h]]; exact okPX_0, by rw [show a_RF = rf0 by simp only [h]]; exact okPS_0⟩
  · unfold RK1 at h
    refine ⟨48, 49, 52, 53, _, by simp only [h], by simp only [h], by simp only [h], by simp only [h], by rw [show a_RF = rf0 by simp only [h]]; exact okPX_0, by rw [show a_RF = rf0 by simp only [h]]; exact okPS_0⟩
  · unfold RK2 at h
    have hx := allPX _ (tb_lt30 hg)
    have hs := allPS _ (tb_lt30 hg)
    obtain ⟨-, -, -, e1, e2, e3, e4, -⟩ := id hx
    have a1 : v44_lines = tg g 9 := by simp only [h]
    have a2 : v44_nextLines = tg g 10 := by simp only [h]
    have a3 : v44_starts = tg g 11 := by simp only [h]
    have a4 : v44_nextStarts = tg g 12 := by simp only [h]
    have a5 : a_RF = tg g 20 := by simp only [h]
    refine ⟨Nat.pred (tg g 11), Nat.pred (tg g 12), Nat.pred (tg g 9), Nat.pred (tg g 10), RPS.getD (rg g 24) [], ?_, ?_, ?_, ?_, by rw [a5]; exact hx, by rw [a5]; exact hs⟩
    · rw [a1]
      have e3 : Nat.pred (tg g 9) = 52 ∨ Nat.pred (tg g 9) = 53 := e3
      rw [Nat.pred_eq_sub_one] at e3 ⊢
      omega
    · rw [a2]
      have e4 : Nat.pred (tg g 10) = 52 ∨ Nat.pred (tg g 10) = 53 := e4
      rw [Nat.pred_eq_sub_one] at e4 ⊢
      omega
    · rw [a3]
      have e1 : Nat.pred (tg g 11) = 48 ∨ Nat.pred (tg g 11) = 49 := e1
      rw [Nat.pred_eq_sub_one] at e1 ⊢
      omega
    · rw [a4]
      have e2 : Nat.pred (tg g 12) = 48 ∨ Nat.pred (tg g 12) = 49 := e2
      rw [Nat.pred_eq_sub_one] at e2 ⊢
      omega
