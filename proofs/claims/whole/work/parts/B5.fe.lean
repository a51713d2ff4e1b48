/-! ===== findElements of the reference, as a function of the heap ===== -/
noncomputable def afOf (c : KCell) : Nat → Nat := Sum.rec (fun _ => fun _ => 0) (fun u => Sum.rec (fun _ => fun _ => 0) (fun u => Sum.rec (fun x => x.2) (fun _ => fun _ => 0) u) u) c
noncomputable def obOf (c : KCell) : List KV := Sum.rec (fun o => o.2) (fun _ => []) c
noncomputable def feS (kh : KH) (n X Y : Nat) : KH := kset (kset (kset kh 0 (k_ob 9 (kset (obOf (k_cell kh 0)) 6 (k_i n)))) 5 (k_af 120 (pk 17 X))) 6 (k_af 14400 (pk 8 Y))
def feC (kh : KH) : Prop := ∃ (v_pasts : Nat) (v_isLaid : Nat) (v_order : Nat) (v_sorts : Nat) (v_exponent : Nat) (v_prime : Nat) (v_root : Nat) (v_spaces : Nat) (b_spaces : Nat) (v_splits : Nat) (b_splits : Nat) (v_typed : Nat) (v_at : Nat) (v_fault : Nat) (v_orders : Nat) (v_pointsThen : Nat) (v_h : Nat) (a_now : Nat → Nat) (a_held : Nat → Nat) (a_past : Nat → Nat) (a_ref : Nat) (rb_ref : Nat) (rn_ref : Nat) (rf_ref : Nat) (a_elements : Nat → Nat) (a_products : Nat → Nat) (a_sortOf : Nat) (a_inverse : Nat) (a_turns : Nat) (a_size : Nat) (a_least : Nat) (a_timesOf : Nat) (a_wide : Nat) (a_bases : Nat) (a_newWide : Nat) (a_newBases : Nat) (a_grid : Nat) (a_lead : Nat) (a_spreads : Nat) (a_degrees : Nat) (a_values : Nat) (a_one : Nat) (a_text : Nat → Nat) (a_letters : Nat → Nat) (a_numbers : Nat → Nat), kh = HQ_CMf v_pasts v_isLaid v_order v_sorts v_exponent v_prime v_root v_spaces b_spaces v_splits b_splits v_typed v_at v_fault v_orders v_pointsThen v_h a_now a_held a_past a_ref rb_ref rn_ref rf_ref a_elements a_products a_sortOf a_inverse a_turns a_size a_least a_timesOf a_wide a_bases a_newWide a_newBases a_grid a_lead a_spreads a_degrees a_values a_one a_text a_letters a_numbers
noncomputable def f_X9_findElements : KF := fun ka kh => @dite KR (ka = [k_r 1] ∧ feC kh) (Classical.propDecidable _) (fun _ => po3 (hElem (afOf (k_cell kh 1))) fun n X Y => some ([], feS kh n X Y)) (fun _ => none)
theorem hElem_some {nw : Nat → Nat} {n X Y : Nat} (h : hElem nw = some (n, X, Y)) : ∃ N cnt g, nw 0 = N + 1 ∧ nw 1 = cnt + 1 ∧ gok N (lNw nw) g ∧ n = rn (rw_ g) ∧ X = (rw_ g).getD 2 0 ∧ Y = (rw_ g).getD 20 0 ∧ (lNw nw).length = cnt ∧ (∀ k, k < cnt → ∃ c, nw (2 + k) = c + 1 ∧ (lNw nw)[k]? = some c) ∧ g = gL N (lNw nw) := by
  unfold hElem at h
  by_cases hc : nw 0 ≠ 0 ∧ nw 1 ≠ 0 ∧ (∀ h, h < Nat.pred (nw 1) → nw (2 + h) ≠ 0) ∧ ∃ g, gok (Nat.pred (nw 0)) (lNw nw) g
  · rw [dif_pos hc] at h
    obtain ⟨c0, c1, c2, c3⟩ := hc
    have e0 : nw 0 = Nat.pred (nw 0) + 1 := (Nat.succ_pred_eq_of_ne_zero c0).symm
    have e1 : nw 1 = Nat.pred (nw 1) + 1 := (Nat.succ_pred_eq_of_ne_zero c1).symm
    cases h
    refine ⟨Nat.pred (nw 0), Nat.pred (nw 1), gL (Nat.pred (nw 0)) (lNw nw), e0, e1, gL_ok c3, rfl, rfl, rfl, by unfold lNw; simp, fun k hk => ⟨Nat.pred (nw (2 + k)), (Nat.succ_pred_eq_of_ne_zero (c2 k hk)).symm, ?_⟩, rfl⟩
    unfold lNw
    rw [List.getElem?_map, List.getElem?_range hk]
    rfl
  · rw [dif_neg hc] at h
    cases h
set_option maxRecDepth 100000 in
theorem fe_w (v_pasts : Nat) (v_isLaid : Nat) (v_order : Nat) (v_sorts : Nat) (v_exponent : Nat) (v_prime : Nat) (v_root : Nat) (v_spaces : Nat) (b_spaces : Nat) (v_splits : Nat) (b_splits : Nat) (v_typed : Nat) (v_at : Nat) (v_fault : Nat) (v_orders : Nat) (v_pointsThen : Nat) (v_h : Nat) (a_now : Nat → Nat) (a_held : Nat → Nat) (a_past : Nat → Nat) (a_ref : Nat) (rb_ref : Nat) (rn_ref : Nat) (rf_ref : Nat) (a_elements : Nat → Nat) (a_products : Nat → Nat) (a_sortOf : Nat) (a_inverse : Nat) (a_turns : Nat) (a_size : Nat) (a_least : Nat) (a_timesOf : Nat) (a_wide : Nat) (a_bases : Nat) (a_newWide : Nat) (a_newBases : Nat) (a_grid : Nat) (a_lead : Nat) (a_spreads : Nat) (a_degrees : Nat) (a_values : Nat) (a_one : Nat) (a_text : Nat → Nat) (a_letters : Nat → Nat) (a_numbers : Nat → Nat) {el pr el2 pr2 : Nat → Nat} (hk5 : kle (k_af 120 el) (k_af 120 el2)) (hk6 : kle (k_af 14400 pr) (k_af 14400 pr2)) : kleH (HQ_CMf v_pasts v_isLaid v_order v_sorts v_exponent v_prime v_root v_spaces b_spaces v_splits b_splits v_typed v_at v_fault v_orders v_pointsThen v_h a_now a_held a_past a_ref rb_ref rn_ref rf_ref el pr a_sortOf a_inverse a_turns a_size a_least a_timesOf a_wide a_bases a_newWide a_newBases a_grid a_lead a_spreads a_degrees a_values a_one a_text a_letters a_numbers) (HQ_CMf v_pasts v_isLaid v_order v_sorts v_exponent v_prime v_root v_spaces b_spaces v_splits b_splits v_typed v_at v_fault v_orders v_pointsThen v_h a_now a_held a_past a_ref rb_ref rn_ref rf_ref el2 pr2 a_sortOf a_inverse a_turns a_size a_least a_timesOf a_wide a_bases a_newWide a_newBases a_grid a_lead a_spreads a_degrees a_values a_one a_text a_letters a_numbers) := kleH_cons (kle_refl _) <| kleH_cons (kle_refl _) <| kleH_cons (kle_refl _) <| kleH_cons (kle_refl _) <| kleH_cons (kle_refl _) <| kleH_cons hk5 <| kleH_cons hk6 <| kleH_cons (kle_refl _) <| kleH_cons (kle_refl _) <| kleH_cons (kle_refl _) <| kleH_cons (kle_refl _) <| kleH_cons (kle_refl _) <| kleH_cons (kle_refl _) <| kleH_cons (kle_refl _) <| kleH_cons (kle_refl _) <| kleH_cons (kle_refl _) <| kleH_cons (kle_refl _) <| kleH_cons (kle_refl _) <| kleH_cons (kle_refl _) <| kleH_cons (kle_refl _) <| kleH_cons (kle_refl _) <| kleH_cons (kle_refl _) <| kleH_cons (kle_refl _) <| kleH_cons (kle_refl _) <| kleH_cons (kle_refl _) <| kleH_cons (kle_refl _) <| kleH_nil
set_option maxRecDepth 100000 in
theorem sd_X9_findElements {l : Launch} {D : va_G} {cI cS cM : ClassId} : k_snd l D cI cS cM yX9_findElements cX9_findElements 4 none 3 1 f_X9_findElements := by
  intro ka kh rv kh' hka hF
  unfold f_X9_findElements at hF
  by_cases hc : ka = [k_r 1] ∧ feC kh
  · rw [dif_pos hc] at hF
    obtain ⟨rfl, v_pasts, v_isLaid, v_order, v_sorts, v_exponent, v_prime, v_root, v_spaces, b_spaces, v_splits, b_splits, v_typed, v_at, v_fault, v_orders, v_pointsThen, v_h, a_now, a_held, a_past, a_ref, rb_ref, rn_ref, rf_ref, a_elements, a_products, a_sortOf, a_inverse, a_turns, a_size, a_least, a_timesOf, a_wide, a_bases, a_newWide, a_newBases, a_grid, a_lead, a_spreads, a_degrees, a_values, a_one, a_text, a_letters, a_numbers, rfl⟩ := hc
    obtain ⟨n, X, Y, h1, h2⟩ := po3_some hF
    have h1 : hElem a_now = some (n, X, Y) := h1
    cases h2
    obtain ⟨N, cnt, g, e0, e1, eg, rfl, rfl, rfl, el, ec, -⟩ := hElem_some h1
    obtain ⟨g1, g5, g3, g195, gN, a, ga, ggen⟩ := eg
    obtain ⟨G, zz, pp⟩ := row_all (row_is g195)
    rw [gN] at G
    rw [el] at g3 ggen
    obtain ⟨el', pr', p1, p2, p3⟩ := fe_ok G e0 g3 e1 (fun k hk => by
      obtain ⟨c, c1, c2⟩ := ec k hk
      exact (ga k c c2).1) (fun k hk => by
      obtain ⟨c, c1, c2⟩ := ec k hk
      rw [c1, (ga k c c2).2]) ggen a_elements a_products
    have hT := T_CMf_X9_findElements sn_CMf_X9_stays sn_CMf_X9_both sn_CMf_X9_find v_pasts v_isLaid v_order v_sorts v_exponent v_prime v_root v_spaces b_spaces v_splits b_splits v_typed v_at v_fault v_orders v_pointsThen v_h a_now a_held a_past a_ref rb_ref rn_ref rf_ref a_elements a_products a_sortOf a_inverse a_turns a_size a_least a_timesOf a_wide a_bases a_newWide a_newBases a_grid a_lead a_spreads a_degrees a_values a_one a_text a_letters a_numbers p1
    have hm := r_X9_findElements (l := l) (D := D) (cI := cI) (cS := cS) (cM := cM) sd_X9_stays sd_X9_both sd_X9_find 40000 _ _ _ _ rfl hT
    obtain ⟨z1, z2⟩ := row_zero g195
    refine k_met_post (fe_w v_pasts v_isLaid (rn (rw_ g)) v_sorts v_exponent v_prime v_root v_spaces b_spaces v_splits b_splits v_typed v_at v_fault v_orders v_pointsThen v_h a_now a_held a_past a_ref rb_ref rn_ref rf_ref a_elements a_products a_sortOf a_inverse a_turns a_size a_least a_timesOf a_wide a_bases a_newWide a_newBases a_grid a_lead a_spreads a_degrees a_values a_one a_text a_letters a_numbers (kle_af (fun i hi => ?_)) (kle_af (fun j hj => ?_))) hm
    · by_cases q : i < rn (rw_ g)
      · exact Or.inr (by rw [p2 i q, (zz i q).1])
      · exact Or.inl (z1 i (by omega))
    · by_cases q : j / 120 < rn (rw_ g) ∧ j % 120 < rn (rw_ g)
      · right
        have ej : j = 120 * (j / 120) + j % 120 := (Nat.div_add_mod j 120).symm
        rw [ej, p3 _ _ q.1 q.2, pp _ _ q.1 q.2]
      · left
        rw [show j = 120 * (j / 120) + j % 120 from (Nat.div_add_mod j 120).symm]
        exact z2 _ _ (Nat.mod_lt _ (by omega)) (by omega)
  · rw [dif_neg hc] at hF
    cases hF
set_option maxRecDepth 100000 in
theorem sn_CM_X9_findElements : SND_CM_X9_findElements f_X9_findElements := by
  intro v_pasts v_isLaid v_order v_sorts v_exponent v_prime v_root v_spaces b_spaces v_splits b_splits v_typed v_at v_fault v_orders v_pointsThen v_h a_now g_now a_held a_past a_ref rb_ref rn_ref rf_ref a_elements a_products a_sortOf a_inverse a_turns a_size a_least a_timesOf a_wide a_bases a_newWide a_newBases a_grid a_lead a_spreads a_degrees a_values a_one a_text a_letters a_numbers c_order ca_elements ca_products h
  unfold f_X9_findElements
  rw [dif_pos ⟨rfl, v_pasts, v_isLaid, v_order, v_sorts, v_exponent, v_prime, v_root, v_spaces, b_spaces, v_splits, b_splits, v_typed, v_at, v_fault, v_orders, v_pointsThen, v_h, (mx 40 a_now g_now), a_held, a_past, a_ref, rb_ref, rn_ref, rf_ref, (pk 17 a_elements), (pk 8 a_products), a_sortOf, a_inverse, a_turns, a_size, a_least, a_timesOf, a_wide, a_bases, a_newWide, a_newBases, a_grid, a_lead, a_spreads, a_degrees, a_values, a_one, a_text, a_letters, a_numbers, rfl⟩]
  have h : hElem (afOf (k_cell (HQ_CM v_pasts v_isLaid v_order v_sorts v_exponent v_prime v_root v_spaces b_spaces v_splits b_splits v_typed v_at v_fault v_orders v_pointsThen v_h a_now g_now a_held a_past a_ref rb_ref rn_ref rf_ref a_elements a_products a_sortOf a_inverse a_turns a_size a_least a_timesOf a_wide a_bases a_newWide a_newBases a_grid a_lead a_spreads a_degrees a_values a_one a_text a_letters a_numbers) 1)) = some (c_order, ca_elements, ca_products) := h
  rw [po3_s h]
  rfl
