theorem refP_inv {a l r c : Nat} (h : pg_eq (pb (Nat.beq l 4294967294) (some (l, 1)) (pb (Nat.beq l 4294967293) (some (l, 2)) (pb (Nat.beq l 4294967292) (some (l, 3)) none))) none a = some (r, c)) : a = 0 ∧ r = l ∧ ((l = 4294967294 ∧ c = 1) ∨ (l = 4294967293 ∧ c = 2) ∨ (l = 4294967292 ∧ c = 3)) := by
  cases a with
  | succ a => cases h
  | zero =>
    rw [pgeq_0 rfl] at h
    by_cases h1 : l = 4294967294
    · rw [pb_t (by rw [h1]; exact Nat.beq_refl _)] at h
      cases h
      exact ⟨rfl, rfl, Or.inl ⟨h1, rfl⟩⟩
    · rw [pb_f (be_f h1)] at h
      by_cases h2 : l = 4294967293
      · rw [pb_t (by rw [h2]; exact Nat.beq_refl _)] at h
        cases h
        exact ⟨rfl, rfl, Or.inr (Or.inl ⟨h2, rfl⟩)⟩
      · rw [pb_f (be_f h2)] at h
        by_cases h3 : l = 4294967292
        · rw [pb_t (by rw [h3]; exact Nat.beq_refl _)] at h
          cases h
          exact ⟨rfl, rfl, Or.inr (Or.inr ⟨h3, rfl⟩)⟩
        · rw [pb_f (be_f h3)] at h
          cases h
theorem blwr {i : Nat} (h : i < 3) : P_CXr_X8_isBelow i 3 = some 1 := by
  unfold P_CXr_X8_isBelow p_CXr_X8_isBelow_0
  rw [pglt_n (by omega)]
  unfold p_CXr_X8_isBelow_4
  rw [pb_t (slt_t h (by omega))]
  rfl
theorem refX_at {g : Nat → Nat} {l k v : Nat} (hk : n_sub 4294967294 l = k) (h3 : k < 3) (hv : g k = v + 1) : P_CXr_X8_refused g l = some (l, uf g k (Nat.succ (n_add v 1))) := by
  unfold P_CXr_X8_refused p_CXr_X8_refused_0
  rw [ks hk, po1_s (blwr h3), pgeq_s (by omega)]
  unfold p_CXr_X8_refused_17
  rw [pq_t (bl_t h3), pn_s hv, kseq_eq, pq_t (bl_t h3)]
  rfl
theorem refM_at {g : Nat → Nat} {l k v : Nat} (hk : n_sub 4294967294 l = k) (h3 : k < 3) (hv : g k = v + 1) : P_CMr_X9_refuses g l = some (l, uf g k (Nat.succ (n_add v 1))) := by
  unfold P_CMr_X9_refuses p_CMr_X9_refuses_0
  rw [ks hk, pq_t (bl_t h3), pn_s hv, kseq_eq, pq_t (bl_t h3)]
theorem refX_ok {l c : Nat} (b n f : Nat) (h : (l = 4294967294 ∧ c = 1) ∨ (l = 4294967293 ∧ c = 2) ∨ (l = 4294967292 ∧ c = 3)) : P_CXr_X8_refused (rcf 0 b n f) l = some (l, rcf c b n f) := by
  rcases h with ⟨rfl, rfl⟩ | ⟨rfl, rfl⟩ | ⟨rfl, rfl⟩
  · rw [refX_at (g := rcf 0 b n f) (l := 4294967294) (k := 0) (v := b) (by decide) (by omega) rfl, rcf_1]
  · rw [refX_at (g := rcf 0 b n f) (l := 4294967293) (k := 1) (v := n) (by decide) (by omega) rfl, rcf_2]
  · rw [refX_at (g := rcf 0 b n f) (l := 4294967292) (k := 2) (v := f) (by decide) (by omega) rfl, rcf_3]
theorem refM_ok {l c : Nat} (b n f : Nat) (h : (l = 4294967294 ∧ c = 1) ∨ (l = 4294967293 ∧ c = 2) ∨ (l = 4294967292 ∧ c = 3)) : P_CMr_X9_refuses (rcf 0 b n f) l = some (l, rcf c b n f) := by
  rcases h with ⟨rfl, rfl⟩ | ⟨rfl, rfl⟩ | ⟨rfl, rfl⟩
  · rw [refM_at (g := rcf 0 b n f) (l := 4294967294) (k := 0) (v := b) (by decide) (by omega) rfl, rcf_1]
  · rw [refM_at (g := rcf 0 b n f) (l := 4294967293) (k := 1) (v := n) (by decide) (by omega) rfl, rcf_2]
  · rw [refM_at (g := rcf 0 b n f) (l := 4294967292) (k := 2) (v := f) (by decide) (by omega) rfl, rcf_3]
set_option maxRecDepth 100000 in
theorem sn_CX_X8_refused : SND_CX_X8_refused f_X8_refused := by
  intro v0_sortsKnown v0_rowsKnown v1_points v1_count a_nowc v3_points v3_count a_trialc v5_count v7_points v7_count a_p0c v9_points v9_count a_p1c v11_points v11_count a_p2c v13_points v13_count a_p3c v15_points v15_count a_p4c v17_length v17_orders v17_kind v17_number v17_figuresDue v17_figuresSeen v17_pointsThen a_bytes a_kinds a_numbers v21_count b21_count v22_count v22_exponent v23_order v23_points a_codes a_einv a_figures a_generators a_codeAtKey a_placeAtKey a_made a_sortOf a_sizes a_turns a_leasts a_sinv a_pointsLeft a_pairs a_powers v39_p v39_root a_over a_rootPowers a_degrees a_multiplied v44_lines v44_nextLines v44_starts v44_nextStarts v44_spaces b44_spaces v44_nextSpaces b44_nextSpaces v44_nextCount b44_nextCount v44_width b44_width a_pivots a_mix a_ref rb_ref rn_ref rf_ref a_RS a_RF l1 c_r ca_ref h
  obtain ⟨h0, hr, hc⟩ := refP_inv h
  subst h0
  subst hr
  exact T_CXr_X8_refused T_CXr_X8_isBelow v0_sortsKnown v0_rowsKnown v1_points v1_count a_nowc v3_points v3_count a_trialc v5_count v7_points v7_count a_p0c v9_points v9_count a_p1c v11_points v11_count a_p2c v13_points v13_count a_p3c v15_points v15_count a_p4c v17_length v17_orders v17_kind v17_number v17_figuresDue v17_figuresSeen v17_pointsThen a_bytes a_kinds a_numbers v21_count b21_count v22_count v22_exponent v23_order v23_points a_codes a_einv a_figures a_generators a_codeAtKey a_placeAtKey a_made a_sortOf a_sizes a_turns a_leasts a_sinv a_pointsLeft a_pairs a_powers v39_p v39_root a_over a_rootPowers a_degrees a_multiplied v44_lines v44_nextLines v44_starts v44_nextStarts v44_spaces b44_spaces v44_nextSpaces b44_nextSpaces v44_nextCount b44_nextCount v44_width b44_width a_pivots a_mix (rcf 0 rb_ref rn_ref rf_ref) a_RS a_RF c_r (refX_ok rb_ref rn_ref rf_ref hc)
set_option maxRecDepth 100000 in
theorem sn_CM_X9_refuses : SND_CM_X9_refuses f_X9_refuses := by
  intro v_pasts v_isLaid v_order v_sorts v_exponent v_prime v_root v_spaces b_spaces v_splits b_splits v_typed v_at v_fault v_orders v_pointsThen v_h a_now g_now a_held a_past a_ref rb_ref rn_ref rf_ref a_elements a_products a_sortOf a_inverse a_turns a_size a_least a_timesOf a_wide a_bases a_newWide a_newBases a_grid a_lead a_spreads a_degrees a_values a_one a_text a_letters a_numbers l1 c_r ca_ref h
  obtain ⟨h0, hr, hc⟩ := refP_inv h
  subst h0
  subst hr
  exact T_CMr_X9_refuses v_pasts v_isLaid v_order v_sorts v_exponent v_prime v_root v_spaces b_spaces v_splits b_splits v_typed v_at v_fault v_orders v_pointsThen v_h (mx 40 a_now g_now) a_held a_past (rcf 0 rb_ref rn_ref rf_ref) (pk 17 a_elements) (pk 8 a_products) a_sortOf a_inverse a_turns a_size a_least a_timesOf a_wide a_bases a_newWide a_newBases a_grid a_lead a_spreads a_degrees a_values a_one a_text a_letters a_numbers c_r (refM_ok rb_ref rn_ref rf_ref hc)
set_option maxRecDepth 100000 in
theorem sn_CMf_X9_refuses : SND_CMf_X9_refuses f_X9_refuses := by
  intro v_pasts v_isLaid v_order v_sorts v_exponent v_prime v_root v_spaces b_spaces v_splits b_splits v_typed v_at v_fault v_orders v_pointsThen v_h a_now a_held a_past a_ref rb_ref rn_ref rf_ref a_elements a_products a_sortOf a_inverse a_turns a_size a_least a_timesOf a_wide a_bases a_newWide a_newBases a_grid a_lead a_spreads a_degrees a_values a_one a_text a_letters a_numbers l1 c_r ca_ref h
  obtain ⟨h0, hr, hc⟩ := refP_inv h
  subst h0
  subst hr
  exact T_CMr_X9_refuses v_pasts v_isLaid v_order v_sorts v_exponent v_prime v_root v_spaces b_spaces v_splits b_splits v_typed v_at v_fault v_orders v_pointsThen v_h a_now a_held a_past (rcf 0 rb_ref rn_ref rf_ref) a_elements a_products a_sortOf a_inverse a_turns a_size a_least a_timesOf a_wide a_bases a_newWide a_newBases a_grid a_lead a_spreads a_degrees a_values a_one a_text a_letters a_numbers c_r (refM_ok rb_ref rn_ref rf_ref hc)
