/-! ===== the first call of a query learns ===== -/
theorem cmp_some {x y : Option (Nat × Nat)} (h : cmp x y = some ()) : ∃ r, x = some (r, 0) ∧ y = some (r, 0) := by
  unfold cmp at h
  obtain ⟨a, c, e1, h⟩ := po2_some h
  obtain ⟨b, d, e2, h⟩ := po2_some h
  obtain ⟨q1, h⟩ := eqs_some h
  obtain ⟨q2, h⟩ := eqs_some h
  obtain ⟨q3, h⟩ := eqs_some h
  subst q1
  subst q2
  subst q3
  exact ⟨_, e1, e2⟩
def MP (g N made : Nat) : Prop := ∀ i j, i < rg g 1 → j < rg g 1 → ∃ r A, P_CX_X8_product 1 (rg g 1) N (rg g 3) (rg g 4) made 0 i j = some (r, A, 0) ∧ P_CM_X9_product 1 (rg g 1) 0 (rg g 20) i j = some (r, 0)
theorem prod_some {g N made : Nat} (h : (alN (rg g 1) fun i => alN (rg g 1) fun j => po3 (P_CX_X8_product 1 (rg g 1) N (rg g 3) (rg g 4) made 0 i j) fun a _ c => po2 (P_CM_X9_product 1 (rg g 1) 0 (rg g 20) i j) fun b d => eqs a b <| eqs c 0 <| eqs d 0 <| some ()) = some ()) : MP g N made := by
  intro i j hi hj
  have h := alN_some _ (alN_some _ h i hi) j hj
  obtain ⟨a, A, c, e1, h⟩ := po3_some h
  obtain ⟨b, d, e2, h⟩ := po2_some h
  obtain ⟨q1, h⟩ := eqs_some h
  obtain ⟨q2, h⟩ := eqs_some h
  obtain ⟨q3, h⟩ := eqs_some h
  subst q1
  subst q2
  subst q3
  exact ⟨_, _, e1, e2⟩
theorem dataQ {g : Nat} (hg : g < 195) : (0 < (rg g 1) ∧ (rg g 1) ≤ 120 ∧ 0 < (rg g 6) ∧ (rg g 6) ≤ 7) ∧ (∃ m0 m1 m2, P_CX_X0_findInverses_23 (rg g 1) (rg g 0) 0 (rg g 3) (rg g 4) 0 = some ((rg g 5), m0) ∧ P_CX_X6_takeApart_22 (rg g 1) (rg g 0) (rg g 5) (rg g 3) (rg g 4) m0 0 0 0 = some ((rg g 6), m1, (rg g 7), (rg g 8), (rg g 9)) ∧ P_CX_X6_describe_22 (rg g 6) (rg g 1) (rg g 0) (rg g 5) (rg g 3) (rg g 4) m1 (rg g 7) 0 (rg g 9) 0 0 0 0 = some ((rg g 10), m2, (rg g 11), (rg g 12), (rg g 13), (rg g 14), (rg g 15)) ∧ MP g (rg g 0) m2) ∧ ∀ i, i < (rg g 6) → ∃ tn l, pk 8 (rg g 11) i = tn + 1 ∧ pk 8 (rg g 9) i = l + 1 ∧ l < 120 ∧ pk 8 (rg g 21) l = tn + 1 ∧ 0 < tn := by
  have h := isS (allQ g hg)
  unfold chkQ at h
  iterate 22 replace h := ps_some h
  simp only [kget_eq] at h
  obtain ⟨z1, h⟩ := pq_some h
  obtain ⟨z2, h⟩ := pq_some h
  obtain ⟨z3, h⟩ := pq_some h
  obtain ⟨z4, h⟩ := pq_some h
  have z1 : 0 < (rg g 1) := Nat.blt_eq.mp z1
  have z2 : (rg g 1) ≤ 120 := Nat.le_of_ble_eq_true z2
  have z3 : 0 < (rg g 6) := Nat.blt_eq.mp z3
  have z4 : (rg g 6) ≤ 7 := Nat.le_of_ble_eq_true z4
  obtain ⟨a_1, m0_2, e1, h⟩ := po2_some h
  obtain ⟨x1_3, h⟩ := eqs_some h
  obtain ⟨a_4, m1_5, b_6, c_7, d_8, e2, h⟩ := po5_some h
  obtain ⟨x1_9, h⟩ := eqs_some h
  obtain ⟨x2_10, h⟩ := eqs_some h
  obtain ⟨x3_11, h⟩ := eqs_some h
  obtain ⟨x4_12, h⟩ := eqs_some h
  obtain ⟨a_13, m2_14, b_15, c_16, d_17, e_18, f_19, e3, h⟩ := po7_some h
  obtain ⟨x1_20, h⟩ := eqs_some h
  obtain ⟨x2_21, h⟩ := eqs_some h
  obtain ⟨x3_22, h⟩ := eqs_some h
  obtain ⟨x4_23, h⟩ := eqs_some h
  obtain ⟨x5_24, h⟩ := eqs_some h
  obtain ⟨x6_25, h⟩ := eqs_some h
  obtain ⟨u, e4, hfin⟩ := po1_some h
  subst x1_3
  subst x1_9
  subst x2_10
  subst x3_11
  subst x4_12
  subst x1_20
  subst x2_21
  subst x3_22
  subst x4_23
  subst x5_24
  subst x6_25
  refine ⟨⟨z1, z2, z3, z4⟩, ⟨_, _, _, e1, e2, e3, prod_some e4⟩, fun i hi => ?_⟩
  have h := alN_some _ hfin i hi
  obtain ⟨tn, q1, h⟩ := pn_some h
  obtain ⟨l, q2, h⟩ := pn_some h
  obtain ⟨q3, h⟩ := pq_some h
  obtain ⟨q4, h⟩ := eqs_some h
  obtain ⟨q5, h⟩ := pq_some h
  exact ⟨tn, l, q1, q2, Nat.blt_eq.mp q3, q4, Nat.blt_eq.mp q5⟩
theorem dataB {g : Nat} (hg : g < 195) : (alN (rg g 1) fun i => alN 4 fun w => cmp (P_CX_X8_element 1 (rg g 1) (rg g 2) (rg g 5) (rg g 7) (rg g 11) 0 i w) (P_CM_X9_element 1 (rg g 1) 0 (rg g 2) (rg g 22) (rg g 5) (rg g 21) i w)) = some () ∧ (alN (rg g 1) fun i => alN (rg g 1) fun j => po3 (P_CX_X8_product 1 (rg g 1) (rg g 0) (rg g 3) (rg g 4) 0 0 i j) fun a _ c => po2 (P_CM_X9_product 1 (rg g 1) 0 (rg g 20) i j) fun b d => eqs a b <| eqs c 0 <| eqs d 0 <| some ()) = some () ∧ (alN (rg g 6) fun i => alN 6 fun w => cmp (P_CX_X8_sort 1 (rg g 6) (rg g 8) (rg g 11) (rg g 9) (rg g 12) (rg g 13) (rg g 15) 0 i w) (P_CM_X9_sort 1 (rg g 6) (Nat.succ (rg g 0)) 0 (rg g 2) (rg g 20) (rg g 22) (rg g 5) (rg g 21) (rg g 8) (rg g 9) i w)) = some () ∧ (alN (rg g 6) fun i => alN (rg g 6) fun j => alN (rg g 6) fun k => cmp (P_CX_X8_times 1 (rg g 6) (rg g 14) 0 i j k) (P_CM_X9_times 1 (rg g 6) 0 (rg g 23) i j k)) = some () ∧ ∀ cnt A, cnt < 4 → A = anw (rg g 0) cnt → (alN 7 fun w => cmp (P_CX_X8_of 1 0 cnt 0 (rg g 6) (rg g 10) (rg g 1) (rg g 8) (rg g 16) (rg g 17) 0 0 w) (P_CM_X9_of 1 (rg g 1) (rg g 6) (rg g 10) (rg g 16) (rg g 17) A 0 (rg g 8) (rg g 26) w)) = some () ∧ (alN 8 fun w => cmp (P_CX_X8_of 1 1 cnt (Nat.succ (rg g 6)) (rg g 6) (rg g 10) (rg g 1) (rg g 8) (rg g 16) (rg g 17) (tg g 8) 0 w) (P_CM_X9_of 1 (rg g 1) (rg g 6) (rg g 10) (rg g 16) (rg g 17) A 0 (rg g 8) (rg g 26) w)) = some () := by
  have h := isS (allB g hg)
  unfold chkB at h
  iterate 28 replace h := ps_some h
  simp only [kget_eq] at h
  obtain ⟨_, e1, h⟩ := po1_some h
  obtain ⟨_, e2, h⟩ := po1_some h
  obtain ⟨_, e3, h⟩ := po1_some h
  obtain ⟨_, e4, h⟩ := po1_some h
  refine ⟨e1, e2, e3, e4, fun cnt A hc hA => ?_⟩
  have h := alN_some _ h cnt hc
  subst hA
  unfold anw
  obtain ⟨_, e5, h⟩ := po1_some h
  exact ⟨e5, h⟩
theorem dataC {g : Nat} (hg : g < 195) : (∀ r, r < (rg g 6) → (cmp (P_CX_X8_degree 1 1 (Nat.succ (rg g 6)) (tg g 8) 0 r) (P_CM_X9_degree 1 (rg g 6) 0 (rg g 26) r)) = some () ∧ (cmp (P_CX_X8_mirror 1 1 (Nat.succ (rg g 6)) (rg g 1) (rg g 8) (rg g 11) (rg g 15) (rg g 16) (rg g 18) 0 (tg g 19) (tg g 20) r) (P_CM_X9_mirror 1 (rg g 1) (rg g 6) (rg g 16) (Nat.succ (rg g 0)) 0 (rg g 2) (rg g 20) (rg g 22) (rg g 5) (rg g 21) (rg g 8) (rg g 9) (rg g 27) r)) = some () ∧ (cmp (P_CX_X8_blind 1 1 (Nat.succ (rg g 6)) (tg g 8) 0 (tg g 19) (tg g 20) r) (P_CM_X9_blind 1 (rg g 6) 0 (rg g 26) (rg g 27) r)) = some () ∧ (po2 (P_CX_X8_natural 1 1 (Nat.succ (rg g 6)) (rg g 1) (rg g 8) (rg g 12) (rg g 13) (rg g 16) (rg g 18) 0 (tg g 19) (tg g 20) r) fun a c => po3 (P_CM_X9_natural 1 (rg g 1) (rg g 6) (rg g 16) (Nat.succ (rg g 0)) 0 (rg g 2) (rg g 22) (rg g 5) (rg g 8) (rg g 9) (rg g 27) 0 r) fun b d _ => eqs a b <| eqs c 0 <| eqs d 0 <| some ()) = some () ∧ ∀ i, i < (rg g 6) → (cmp (P_CX_X8_value 1 1 (Nat.succ (rg g 6)) 0 (tg g 19) (tg g 20) r i) (P_CM_X9_value 1 (rg g 6) 0 (rg g 27) r i)) = some () ∧ (cmp (P_CX_X8_spread 1 1 (Nat.succ (rg g 6)) 0 (tg g 19) (tg g 20) r i) (P_CM_X9_spread 1 (rg g 6) 0 (rg g 25) r i)) = some () ∧ (pn (pk 8 (rg g 11) i) fun tn => alN tn fun m => cmp (P_CX_X8_part 1 1 (Nat.succ (rg g 6)) (rg g 10) (rg g 11) (rg g 15) (rg g 16) (rg g 18) (rg g 19) 0 (tg g 19) (tg g 20) r i m) (P_CM_X9_part 1 (rg g 6) (rg g 10) (rg g 16) (rg g 17) 0 (rg g 20) (rg g 22) (rg g 21) (rg g 9) (rg g 27) r i m)) = some () ∧ (po3 (P_CX_X8_turned 1 1 (Nat.succ (rg g 6)) (rg g 16) (tg g 8) 0 0 (tg g 19) (tg g 20) r i) fun a _ c => po3 (P_CM_X9_turned 1 (rg g 6) (rg g 16) 0 (rg g 26) (rg g 27) 0 r i) fun b d _ => eqs a b <| eqs c d <| some ()) = some ()) ∧ (alN (rg g 6) fun r => alN (rg g 6) fun s => alN (rg g 6) fun t => po3 (P_CX_X8_within 1 1 (Nat.succ (rg g 6)) (rg g 1) (rg g 8) (rg g 12) (rg g 16) (rg g 18) 0 0 (tg g 19) (tg g 20) r s t) fun a _ c => po3 (P_CM_X9_within 1 (rg g 1) (rg g 6) (rg g 16) 0 (rg g 22) (rg g 5) (rg g 8) (rg g 9) (rg g 27) 0 r s t) fun b d _ => eqs a b <| eqs c 0 <| eqs d 0 <| some ()) = some () := by
  have h := isS (allC g hg)
  unfold chkC at h
  iterate 28 replace h := ps_some h
  iterate 4 replace h := ps_some h
  simp only [kget_eq] at h
  obtain ⟨_, e1, h⟩ := po1_some h
  refine ⟨fun r hr => ?_, h⟩
  have e1 := alN_some _ e1 r hr
  obtain ⟨_, q1, e1⟩ := po1_some e1
  obtain ⟨_, q2, e1⟩ := po1_some e1
  obtain ⟨_, q3, e1⟩ := po1_some e1
  obtain ⟨_, q4, e1⟩ := po1_some e1
  refine ⟨q1, q2, q3, q4, fun i hi => ?_⟩
  have e1 := alN_some _ e1 i hi
  obtain ⟨_, q5, e1⟩ := po1_some e1
  obtain ⟨_, q6, e1⟩ := po1_some e1
  obtain ⟨_, q7, e1⟩ := po1_some e1
  exact ⟨q5, q6, q7, e1⟩
theorem un_8 {F : KF} {rest : KC} {us as : List KV} {h0 h1 : KH} {fs0 fs1 : List KV} (c0 : k_cell h0 0 = k_ob 8 fs0) (c1 : k_cell h1 0 = k_ob 8 fs1) (hA : F [k_r 1] h0 = some ([], h1)) (hB : F [k_r 1] h1 = some ([], h1)) : k_fun us (o_aload 0 <| o_cV0 1 8 F rest) (k_r 1 :: as) h0 = k_fun us (o_aload 0 <| o_cV0 1 8 F rest) (k_r 1 :: as) h1 := by
  have key : ∀ (h : KH) (fs : List KV), k_cell h 0 = k_ob 8 fs → F [k_r 1] h = some ([], h1) → (o_aload 0 <| o_cV0 1 8 F rest) (k_r 1 :: kcat as us) [] h = rest (k_r 1 :: kcat as us) [] h1 := fun h fs hc hF => by
    show k_obj (k_cell h 0) (fun o => Bool.rec none (k_res (F [k_r 1] h) fun r h => k_app0 r (rest (k_r 1 :: kcat as us) [] h)) (Nat.beq o.1 8)) = _
    rw [hc, hF]
    rfl
  exact congrArg (k_chk as) ((key h0 fs0 c0 hA).trans (key h1 fs1 c1 hB).symm)
theorem un_9 {F : KF} {rest : KC} {us as : List KV} {h0 h1 : KH} {fs0 fs1 : List KV} (c0 : k_cell h0 0 = k_ob 9 fs0) (c1 : k_cell h1 0 = k_ob 9 fs1) (hA : F [k_r 1] h0 = some ([], h1)) (hB : F [k_r 1] h1 = some ([], h1)) : k_fun us (o_aload 0 <| o_cV0 1 9 F rest) (k_r 1 :: as) h0 = k_fun us (o_aload 0 <| o_cV0 1 9 F rest) (k_r 1 :: as) h1 := by
  have key : ∀ (h : KH) (fs : List KV), k_cell h 0 = k_ob 9 fs → F [k_r 1] h = some ([], h1) → (o_aload 0 <| o_cV0 1 9 F rest) (k_r 1 :: kcat as us) [] h = rest (k_r 1 :: kcat as us) [] h1 := fun h fs hc hF => by
    show k_obj (k_cell h 0) (fun o => Bool.rec none (k_res (F [k_r 1] h) fun r h => k_app0 r (rest (k_r 1 :: kcat as us) [] h)) (Nat.beq o.1 9)) = _
    rw [hc, hF]
    rfl
  exact congrArg (k_chk as) ((key h0 fs0 c0 hA).trans (key h1 fs1 c1 hB).symm)
theorem un_9b {F : KF} {rest : KC} {us as : List KV} {x : Nat} {h0 h1 : KH} {fs0 fs1 : List KV} (c0 : k_cell h0 0 = k_ob 9 fs0) (c1 : k_cell h1 0 = k_ob 9 fs1) (hF : F [k_r 1, k_i x] h0 = F [k_r 1, k_i x] h1) : k_fun us (o_aload 0 <| o_iload 1 <| o_cV1 2 9 F rest) (k_r 1 :: k_i x :: as) h0 = k_fun us (o_aload 0 <| o_iload 1 <| o_cV1 2 9 F rest) (k_r 1 :: k_i x :: as) h1 := by
  have key : ∀ (h : KH) (fs : List KV), k_cell h 0 = k_ob 9 fs → (o_aload 0 <| o_iload 1 <| o_cV1 2 9 F rest) (k_r 1 :: k_i x :: kcat as us) [] h = k_res (F [k_r 1, k_i x] h) fun r h => k_app1 r fun v => rest (k_r 1 :: k_i x :: kcat as us) (v :: []) h := fun h fs hc => by
    show k_obj (k_cell h 0) (fun o => Bool.rec none (k_res (F [k_r 1, k_i x] h) fun r h => k_app1 r fun v => rest (k_r 1 :: k_i x :: kcat as us) (v :: []) h) (Nat.beq o.1 9)) = _
    rw [hc]
    rfl
  have e : (o_aload 0 <| o_iload 1 <| o_cV1 2 9 F rest) (k_r 1 :: k_i x :: kcat as us) [] h0 = (o_aload 0 <| o_iload 1 <| o_cV1 2 9 F rest) (k_r 1 :: k_i x :: kcat as us) [] h1 := by
    rw [key h0 fs0 c0, key h1 fs1 c1, hF]
  exact congrArg (k_chk as) e
theorem un_X8_element {h0 h1 : KH} {fs0 fs1 : List KV} (c0 : k_cell h0 0 = k_ob 8 fs0) (c1 : k_cell h1 0 = k_ob 8 fs1) {x0 x1 : Nat} (hA : f_X8_learnSorts [k_r 1] h0 = some ([], h1)) (hB : f_X8_learnSorts [k_r 1] h1 = some ([], h1)) : f_X8_element [k_r 1, k_i x0, k_i x1] h0 = f_X8_element [k_r 1, k_i x0, k_i x1] h1 := by
  unfold f_X8_element m_X8_element b_X8_element_0
  exact un_8 c0 c1 hA hB
theorem un_X8_product {h0 h1 : KH} {fs0 fs1 : List KV} (c0 : k_cell h0 0 = k_ob 8 fs0) (c1 : k_cell h1 0 = k_ob 8 fs1) {x0 x1 : Nat} (hA : f_X8_learnSorts [k_r 1] h0 = some ([], h1)) (hB : f_X8_learnSorts [k_r 1] h1 = some ([], h1)) : f_X8_product [k_r 1, k_i x0, k_i x1] h0 = f_X8_product [k_r 1, k_i x0, k_i x1] h1 := by
  unfold f_X8_product m_X8_product b_X8_product_0
  exact un_8 c0 c1 hA hB
theorem un_X8_sort {h0 h1 : KH} {fs0 fs1 : List KV} (c0 : k_cell h0 0 = k_ob 8 fs0) (c1 : k_cell h1 0 = k_ob 8 fs1) {x0 x1 : Nat} (hA : f_X8_learnSorts [k_r 1] h0 = some ([], h1)) (hB : f_X8_learnSorts [k_r 1] h1 = some ([], h1)) : f_X8_sort [k_r 1, k_i x0, k_i x1] h0 = f_X8_sort [k_r 1, k_i x0, k_i x1] h1 := by
  unfold f_X8_sort m_X8_sort b_X8_sort_0
  exact un_8 c0 c1 hA hB
theorem un_X8_times {h0 h1 : KH} {fs0 fs1 : List KV} (c0 : k_cell h0 0 = k_ob 8 fs0) (c1 : k_cell h1 0 = k_ob 8 fs1) {x0 x1 x2 : Nat} (hA : f_X8_learnSorts [k_r 1] h0 = some ([], h1)) (hB : f_X8_learnSorts [k_r 1] h1 = some ([], h1)) : f_X8_times [k_r 1, k_i x0, k_i x1, k_i x2] h0 = f_X8_times [k_r 1, k_i x0, k_i x1, k_i x2] h1 := by
  unfold f_X8_times m_X8_times b_X8_times_0
  exact un_8 c0 c1 hA hB
theorem un_X8_degree {h0 h1 : KH} {fs0 fs1 : List KV} (c0 : k_cell h0 0 = k_ob 8 fs0) (c1 : k_cell h1 0 = k_ob 8 fs1) {x0 : Nat} (hA : f_X8_learnRows [k_r 1] h0 = some ([], h1)) (hB : f_X8_learnRows [k_r 1] h1 = some ([], h1)) : f_X8_degree [k_r 1, k_i x0] h0 = f_X8_degree [k_r 1, k_i x0] h1 := by
  unfold f_X8_degree m_X8_degree b_X8_degree_0
  exact un_8 c0 c1 hA hB
theorem un_X8_value {h0 h1 : KH} {fs0 fs1 : List KV} (c0 : k_cell h0 0 = k_ob 8 fs0) (c1 : k_cell h1 0 = k_ob 8 fs1) {x0 x1 : Nat} (hA : f_X8_learnRows [k_r 1] h0 = some ([], h1)) (hB : f_X8_learnRows [k_r 1] h1 = some ([], h1)) : f_X8_value [k_r 1, k_i x0, k_i x1] h0 = f_X8_value [k_r 1, k_i x0, k_i x1] h1 := by
  unfold f_X8_value m_X8_value b_X8_value_0
  exact un_8 c0 c1 hA hB
theorem un_X8_spread {h0 h1 : KH} {fs0 fs1 : List KV} (c0 : k_cell h0 0 = k_ob 8 fs0) (c1 : k_cell h1 0 = k_ob 8 fs1) {x0 x1 : Nat} (hA : f_X8_learnRows [k_r 1] h0 = some ([], h1)) (hB : f_X8_learnRows [k_r 1] h1 = some ([], h1)) : f_X8_spread [k_r 1, k_i x0, k_i x1] h0 = f_X8_spread [k_r 1, k_i x0, k_i x1] h1 := by
  unfold f_X8_spread m_X8_spread b_X8_spread_0
  exact un_8 c0 c1 hA hB
theorem un_X8_part {h0 h1 : KH} {fs0 fs1 : List KV} (c0 : k_cell h0 0 = k_ob 8 fs0) (c1 : k_cell h1 0 = k_ob 8 fs1) {x0 x1 x2 : Nat} (hA : f_X8_learnRows [k_r 1] h0 = some ([], h1)) (hB : f_X8_learnRows [k_r 1] h1 = some ([], h1)) : f_X8_part [k_r 1, k_i x0, k_i x1, k_i x2] h0 = f_X8_part [k_r 1, k_i x0, k_i x1, k_i x2] h1 := by
  unfold f_X8_part m_X8_part b_X8_part_0
  exact un_8 c0 c1 hA hB
theorem un_X8_mirror {h0 h1 : KH} {fs0 fs1 : List KV} (c0 : k_cell h0 0 = k_ob 8 fs0) (c1 : k_cell h1 0 = k_ob 8 fs1) {x0 : Nat} (hA : f_X8_learnRows [k_r 1] h0 = some ([], h1)) (hB : f_X8_learnRows [k_r 1] h1 = some ([], h1)) : f_X8_mirror [k_r 1, k_i x0] h0 = f_X8_mirror [k_r 1, k_i x0] h1 := by
  unfold f_X8_mirror m_X8_mirror b_X8_mirror_0
  exact un_8 c0 c1 hA hB
theorem un_X8_blind {h0 h1 : KH} {fs0 fs1 : List KV} (c0 : k_cell h0 0 = k_ob 8 fs0) (c1 : k_cell h1 0 = k_ob 8 fs1) {x0 : Nat} (hA : f_X8_learnRows [k_r 1] h0 = some ([], h1)) (hB : f_X8_learnRows [k_r 1] h1 = some ([], h1)) : f_X8_blind [k_r 1, k_i x0] h0 = f_X8_blind [k_r 1, k_i x0] h1 := by
  unfold f_X8_blind m_X8_blind b_X8_blind_0
  exact un_8 c0 c1 hA hB
theorem un_X8_within {h0 h1 : KH} {fs0 fs1 : List KV} (c0 : k_cell h0 0 = k_ob 8 fs0) (c1 : k_cell h1 0 = k_ob 8 fs1) {x0 x1 x2 : Nat} (hA : f_X8_learnRows [k_r 1] h0 = some ([], h1)) (hB : f_X8_learnRows [k_r 1] h1 = some ([], h1)) : f_X8_within [k_r 1, k_i x0, k_i x1, k_i x2] h0 = f_X8_within [k_r 1, k_i x0, k_i x1, k_i x2] h1 := by
  unfold f_X8_within m_X8_within b_X8_within_0
  exact un_8 c0 c1 hA hB
theorem un_X8_natural {h0 h1 : KH} {fs0 fs1 : List KV} (c0 : k_cell h0 0 = k_ob 8 fs0) (c1 : k_cell h1 0 = k_ob 8 fs1) {x0 : Nat} (hA : f_X8_learnRows [k_r 1] h0 = some ([], h1)) (hB : f_X8_learnRows [k_r 1] h1 = some ([], h1)) : f_X8_natural [k_r 1, k_i x0] h0 = f_X8_natural [k_r 1, k_i x0] h1 := by
  unfold f_X8_natural m_X8_natural b_X8_natural_0
  exact un_8 c0 c1 hA hB
theorem un_X8_turned {h0 h1 : KH} {fs0 fs1 : List KV} (c0 : k_cell h0 0 = k_ob 8 fs0) (c1 : k_cell h1 0 = k_ob 8 fs1) {x0 x1 : Nat} (hA : f_X8_learnRows [k_r 1] h0 = some ([], h1)) (hB : f_X8_learnRows [k_r 1] h1 = some ([], h1)) : f_X8_turned [k_r 1, k_i x0, k_i x1] h0 = f_X8_turned [k_r 1, k_i x0, k_i x1] h1 := by
  unfold f_X8_turned m_X8_turned b_X8_turned_0
  exact un_8 c0 c1 hA hB
theorem un_X8_digest {h0 h1 : KH} {fs0 fs1 : List KV} (c0 : k_cell h0 0 = k_ob 8 fs0) (c1 : k_cell h1 0 = k_ob 8 fs1) (hA : f_X8_learnRows [k_r 1] h0 = some ([], h1)) (hB : f_X8_learnRows [k_r 1] h1 = some ([], h1)) : f_X8_digest [k_r 1] h0 = f_X8_digest [k_r 1] h1 := by
  unfold f_X8_digest m_X8_digest b_X8_digest_0
  exact un_8 c0 c1 hA hB
theorem un_X8_learnRows {h0 h1 : KH} {fs0 fs1 : List KV} (c0 : k_cell h0 0 = k_ob 8 fs0) (c1 : k_cell h1 0 = k_ob 8 fs1) (hA : f_X8_learnSorts [k_r 1] h0 = some ([], h1)) (hB : f_X8_learnSorts [k_r 1] h1 = some ([], h1)) : f_X8_learnRows [k_r 1] h0 = f_X8_learnRows [k_r 1] h1 := by
  unfold f_X8_learnRows m_X8_learnRows b_X8_learnRows_0
  exact un_8 c0 c1 hA hB
theorem un_X9_isElement {h0 h1 : KH} {fs0 fs1 : List KV} (c0 : k_cell h0 0 = k_ob 9 fs0) (c1 : k_cell h1 0 = k_ob 9 fs1) {x0 : Nat} (hA : f_X9_lay [k_r 1] h0 = some ([], h1)) (hB : f_X9_lay [k_r 1] h1 = some ([], h1)) : f_X9_isElement [k_r 1, k_i x0] h0 = f_X9_isElement [k_r 1, k_i x0] h1 := by
  unfold f_X9_isElement m_X9_isElement b_X9_isElement_0
  exact un_9 c0 c1 hA hB
theorem un_X9_isSort {h0 h1 : KH} {fs0 fs1 : List KV} (c0 : k_cell h0 0 = k_ob 9 fs0) (c1 : k_cell h1 0 = k_ob 9 fs1) {x0 : Nat} (hA : f_X9_lay [k_r 1] h0 = some ([], h1)) (hB : f_X9_lay [k_r 1] h1 = some ([], h1)) : f_X9_isSort [k_r 1, k_i x0] h0 = f_X9_isSort [k_r 1, k_i x0] h1 := by
  unfold f_X9_isSort m_X9_isSort b_X9_isSort_0
  exact un_9 c0 c1 hA hB
theorem un_X9_ofAll {h0 h1 : KH} {fs0 fs1 : List KV} (c0 : k_cell h0 0 = k_ob 9 fs0) (c1 : k_cell h1 0 = k_ob 9 fs1) {x0 : Nat} (hA : f_X9_lay [k_r 1] h0 = some ([], h1)) (hB : f_X9_lay [k_r 1] h1 = some ([], h1)) : f_X9_ofAll [k_r 1, k_i x0] h0 = f_X9_ofAll [k_r 1, k_i x0] h1 := by
  unfold f_X9_ofAll m_X9_ofAll b_X9_ofAll_0
  exact un_9 c0 c1 hA hB
theorem un_X9_element {h0 h1 : KH} {fs0 fs1 : List KV} (c0 : k_cell h0 0 = k_ob 9 fs0) (c1 : k_cell h1 0 = k_ob 9 fs1) {x0 x1 : Nat} (hA : f_X9_lay [k_r 1] h0 = some ([], h1)) (hB : f_X9_lay [k_r 1] h1 = some ([], h1)) : f_X9_element [k_r 1, k_i x0, k_i x1] h0 = f_X9_element [k_r 1, k_i x0, k_i x1] h1 := by
  unfold f_X9_element m_X9_element b_X9_element_0
  exact un_9b c0 c1 (un_X9_isElement c0 c1 hA hB)
theorem un_X9_product {h0 h1 : KH} {fs0 fs1 : List KV} (c0 : k_cell h0 0 = k_ob 9 fs0) (c1 : k_cell h1 0 = k_ob 9 fs1) {x0 x1 : Nat} (hA : f_X9_lay [k_r 1] h0 = some ([], h1)) (hB : f_X9_lay [k_r 1] h1 = some ([], h1)) : f_X9_product [k_r 1, k_i x0, k_i x1] h0 = f_X9_product [k_r 1, k_i x0, k_i x1] h1 := by
  unfold f_X9_product m_X9_product b_X9_product_0
  exact un_9b c0 c1 (un_X9_isElement c0 c1 hA hB)
theorem un_X9_sort {h0 h1 : KH} {fs0 fs1 : List KV} (c0 : k_cell h0 0 = k_ob 9 fs0) (c1 : k_cell h1 0 = k_ob 9 fs1) {x0 x1 : Nat} (hA : f_X9_lay [k_r 1] h0 = some ([], h1)) (hB : f_X9_lay [k_r 1] h1 = some ([], h1)) : f_X9_sort [k_r 1, k_i x0, k_i x1] h0 = f_X9_sort [k_r 1, k_i x0, k_i x1] h1 := by
  unfold f_X9_sort m_X9_sort b_X9_sort_0
  exact un_9b c0 c1 (un_X9_isSort c0 c1 hA hB)
theorem un_X9_times {h0 h1 : KH} {fs0 fs1 : List KV} (c0 : k_cell h0 0 = k_ob 9 fs0) (c1 : k_cell h1 0 = k_ob 9 fs1) {x0 x1 x2 : Nat} (hA : f_X9_lay [k_r 1] h0 = some ([], h1)) (hB : f_X9_lay [k_r 1] h1 = some ([], h1)) : f_X9_times [k_r 1, k_i x0, k_i x1, k_i x2] h0 = f_X9_times [k_r 1, k_i x0, k_i x1, k_i x2] h1 := by
  unfold f_X9_times m_X9_times b_X9_times_0
  exact un_9b c0 c1 (un_X9_isSort c0 c1 hA hB)
theorem un_X9_degree {h0 h1 : KH} {fs0 fs1 : List KV} (c0 : k_cell h0 0 = k_ob 9 fs0) (c1 : k_cell h1 0 = k_ob 9 fs1) {x0 : Nat} (hA : f_X9_lay [k_r 1] h0 = some ([], h1)) (hB : f_X9_lay [k_r 1] h1 = some ([], h1)) : f_X9_degree [k_r 1, k_i x0] h0 = f_X9_degree [k_r 1, k_i x0] h1 := by
  unfold f_X9_degree m_X9_degree b_X9_degree_0
  exact un_9b c0 c1 (un_X9_isSort c0 c1 hA hB)
theorem un_X9_value {h0 h1 : KH} {fs0 fs1 : List KV} (c0 : k_cell h0 0 = k_ob 9 fs0) (c1 : k_cell h1 0 = k_ob 9 fs1) {x0 x1 : Nat} (hA : f_X9_lay [k_r 1] h0 = some ([], h1)) (hB : f_X9_lay [k_r 1] h1 = some ([], h1)) : f_X9_value [k_r 1, k_i x0, k_i x1] h0 = f_X9_value [k_r 1, k_i x0, k_i x1] h1 := by
  unfold f_X9_value m_X9_value b_X9_value_0
  exact un_9b c0 c1 (un_X9_isSort c0 c1 hA hB)
theorem un_X9_spread {h0 h1 : KH} {fs0 fs1 : List KV} (c0 : k_cell h0 0 = k_ob 9 fs0) (c1 : k_cell h1 0 = k_ob 9 fs1) {x0 x1 : Nat} (hA : f_X9_lay [k_r 1] h0 = some ([], h1)) (hB : f_X9_lay [k_r 1] h1 = some ([], h1)) : f_X9_spread [k_r 1, k_i x0, k_i x1] h0 = f_X9_spread [k_r 1, k_i x0, k_i x1] h1 := by
  unfold f_X9_spread m_X9_spread b_X9_spread_0
  exact un_9b c0 c1 (un_X9_isSort c0 c1 hA hB)
theorem un_X9_part {h0 h1 : KH} {fs0 fs1 : List KV} (c0 : k_cell h0 0 = k_ob 9 fs0) (c1 : k_cell h1 0 = k_ob 9 fs1) {x0 x1 x2 : Nat} (hA : f_X9_lay [k_r 1] h0 = some ([], h1)) (hB : f_X9_lay [k_r 1] h1 = some ([], h1)) : f_X9_part [k_r 1, k_i x0, k_i x1, k_i x2] h0 = f_X9_part [k_r 1, k_i x0, k_i x1, k_i x2] h1 := by
  unfold f_X9_part m_X9_part b_X9_part_0
  exact un_9b c0 c1 (un_X9_isSort c0 c1 hA hB)
theorem un_X9_mirror {h0 h1 : KH} {fs0 fs1 : List KV} (c0 : k_cell h0 0 = k_ob 9 fs0) (c1 : k_cell h1 0 = k_ob 9 fs1) {x0 : Nat} (hA : f_X9_lay [k_r 1] h0 = some ([], h1)) (hB : f_X9_lay [k_r 1] h1 = some ([], h1)) : f_X9_mirror [k_r 1, k_i x0] h0 = f_X9_mirror [k_r 1, k_i x0] h1 := by
  unfold f_X9_mirror m_X9_mirror b_X9_mirror_0
  exact un_9b c0 c1 (un_X9_isSort c0 c1 hA hB)
theorem un_X9_blind {h0 h1 : KH} {fs0 fs1 : List KV} (c0 : k_cell h0 0 = k_ob 9 fs0) (c1 : k_cell h1 0 = k_ob 9 fs1) {x0 : Nat} (hA : f_X9_lay [k_r 1] h0 = some ([], h1)) (hB : f_X9_lay [k_r 1] h1 = some ([], h1)) : f_X9_blind [k_r 1, k_i x0] h0 = f_X9_blind [k_r 1, k_i x0] h1 := by
  unfold f_X9_blind m_X9_blind b_X9_blind_0
  exact un_9b c0 c1 (un_X9_isSort c0 c1 hA hB)
theorem un_X9_within {h0 h1 : KH} {fs0 fs1 : List KV} (c0 : k_cell h0 0 = k_ob 9 fs0) (c1 : k_cell h1 0 = k_ob 9 fs1) {x0 x1 x2 : Nat} (hA : f_X9_lay [k_r 1] h0 = some ([], h1)) (hB : f_X9_lay [k_r 1] h1 = some ([], h1)) : f_X9_within [k_r 1, k_i x0, k_i x1, k_i x2] h0 = f_X9_within [k_r 1, k_i x0, k_i x1, k_i x2] h1 := by
  unfold f_X9_within m_X9_within b_X9_within_0
  exact un_9b c0 c1 (un_X9_isSort c0 c1 hA hB)
theorem un_X9_natural {h0 h1 : KH} {fs0 fs1 : List KV} (c0 : k_cell h0 0 = k_ob 9 fs0) (c1 : k_cell h1 0 = k_ob 9 fs1) {x0 : Nat} (hA : f_X9_lay [k_r 1] h0 = some ([], h1)) (hB : f_X9_lay [k_r 1] h1 = some ([], h1)) : f_X9_natural [k_r 1, k_i x0] h0 = f_X9_natural [k_r 1, k_i x0] h1 := by
  unfold f_X9_natural m_X9_natural b_X9_natural_0
  exact un_9b c0 c1 (un_X9_isSort c0 c1 hA hB)
theorem un_X9_turned {h0 h1 : KH} {fs0 fs1 : List KV} (c0 : k_cell h0 0 = k_ob 9 fs0) (c1 : k_cell h1 0 = k_ob 9 fs1) {x0 x1 : Nat} (hA : f_X9_lay [k_r 1] h0 = some ([], h1)) (hB : f_X9_lay [k_r 1] h1 = some ([], h1)) : f_X9_turned [k_r 1, k_i x0, k_i x1] h0 = f_X9_turned [k_r 1, k_i x0, k_i x1] h1 := by
  unfold f_X9_turned m_X9_turned b_X9_turned_0
  exact un_9b c0 c1 (un_X9_isSort c0 c1 hA hB)
