/-! ===== queries answered alike ===== -/
theorem inM {c m : Nat} (hc : c < 4294967296) (hm : m < 2147483648) : P_CM_X9_in c 0 m = some (if c ≤ m then 1 else 0) := in_ok hc hm
theorem isElement_t {n x : Nat} (h : x < n) (hn : n ≤ 120) : P_CM_X9_isElement 1 n x = some 1 := by
  unfold P_CM_X9_isElement p_CM_X9_isElement_0
  rw [po1_s (show P_CM_X9_lay 1 = some () from rfl), ks (nsb (a := n) (b := 1) (by omega) (by omega)), po1_s (inM (by omega) (by omega)), if_pos (by omega)]
  rfl
theorem isElement_f {n x : Nat} (h : n ≤ x) (h0 : 0 < n) (hn : n ≤ 120) (hx : x < 4294967296) : P_CM_X9_isElement 1 n x = some 0 := by
  unfold P_CM_X9_isElement p_CM_X9_isElement_0
  rw [po1_s (show P_CM_X9_lay 1 = some () from rfl), ks (nsb (a := n) (b := 1) (by omega) (by omega)), po1_s (inM hx (by omega)), if_neg (by omega)]
  rfl
theorem isSort_t {n x : Nat} (h : x < n) (hn : n ≤ 120) : P_CM_X9_isSort 1 n x = some 1 := by
  unfold P_CM_X9_isSort p_CM_X9_isSort_0
  rw [po1_s (show P_CM_X9_lay 1 = some () from rfl), ks (nsb (a := n) (b := 1) (by omega) (by omega)), po1_s (inM (by omega) (by omega)), if_pos (by omega)]
  rfl
theorem isSort_f {n x : Nat} (h : n ≤ x) (h0 : 0 < n) (hn : n ≤ 120) (hx : x < 4294967296) : P_CM_X9_isSort 1 n x = some 0 := by
  unfold P_CM_X9_isSort p_CM_X9_isSort_0
  rw [po1_s (show P_CM_X9_lay 1 = some () from rfl), ks (nsb (a := n) (b := 1) (by omega) (by omega)), po1_s (inM hx (by omega)), if_neg (by omega)]
  rfl
theorem inM_t {m x : Nat} (h : x ≤ m) (hm : m < 2147483648) : P_CM_X9_in x 0 m = some 1 := by rw [inM (by omega) hm, if_pos h]
theorem inM_f {m x : Nat} (h : m < x) (hm : m < 2147483648) (hx : x < 4294967296) : P_CM_X9_in x 0 m = some 0 := by rw [inM hx hm, if_neg (by omega)]
theorem lS : P_CX_X8_learnSorts 1 = some () := rfl
theorem lR : P_CX_X8_learnRows 1 1 = some () := rfl
theorem pk_qlt (w A i : Nat) : pk w A i < 2 ^ w := Nat.mod_lt _ (Nat.two_pow_pos w)
theorem refused_k {x r k : Nat} (h : P_CX_X8_refused 0 x = some (r, k)) : k = 0 ∨ k = 1 ∨ k = 2 ∨ k = 3 := by
  unfold P_CX_X8_refused at h
  have h : pb (Nat.beq x 4294967294) (some (x, 1)) (pb (Nat.beq x 4294967293) (some (x, 2)) (pb (Nat.beq x 4294967292) (some (x, 3)) none)) = some (r, k) := h
  cases h1 : Nat.beq x 4294967294
  · rw [h1] at h
    cases h2 : Nat.beq x 4294967293
    · rw [h2] at h
      cases h3 : Nat.beq x 4294967292
      · rw [h3] at h
        cases h
      · rw [h3] at h
        cases h
        exact Or.inr (Or.inr (Or.inr rfl))
    · rw [h2] at h
      cases h
      exact Or.inr (Or.inr (Or.inl rfl))
  · rw [h1] at h
    cases h
    exact Or.inr (Or.inl rfl)
theorem turned_k {a1 a2 a3 a4 a5 a6 x y r AA k : Nat} (h : P_CX_X8_turned 1 1 a1 a2 a3 a4 0 a5 a6 x y = some (r, AA, k)) : k = 0 ∨ k = 1 ∨ k = 2 := by
  unfold P_CX_X8_turned p_CX_X8_turned_0 at h
  rw [po1_s lR] at h
  obtain ⟨e, -, h⟩ := pn_some h
  obtain ⟨b, -, h⟩ := po1_some h
  have hr : ∀ A b', p_CX_X8_turned_32 b' a3 A 0 a5 a6 = some (r, AA, k) → k = 0 ∨ k = 1 ∨ k = 2 := fun A b' h => by
    unfold p_CX_X8_turned_32 at h
    obtain ⟨_, _, e1, h⟩ := po2_some h
    cases e1
    cases h
    exact Or.inr (Or.inl rfl)
  by_cases hb : b = 0
  · rw [pgeq_0 hb] at h
    exact hr _ _ h
  · rw [pgeq_s hb] at h
    unfold p_CX_X8_turned_18 at h
    obtain ⟨e, -, h⟩ := pn_some h
    obtain ⟨b, -, h⟩ := po1_some h
    by_cases hb : b = 0
    · rw [pgeq_0 hb] at h
      exact hr _ _ h
    · rw [pgeq_s hb] at h
      unfold p_CX_X8_turned_39 at h
      obtain ⟨-, h⟩ := pq_some h
      obtain ⟨d, -, h⟩ := pn_some h
      cases hd : Nat.beq d 1
      · rw [hd] at h
        have h : p_CX_X8_turned_52 a1 a3 a4 0 a5 a6 = some (r, AA, k) := h
        unfold p_CX_X8_turned_52 at h
        obtain ⟨_, _, e1, h⟩ := po2_some h
        cases e1
        cases h
        exact Or.inr (Or.inr rfl)
      · rw [hd] at h
        have h : p_CX_X8_turned_59 a1 a2 a3 a4 0 a5 a6 x y = some (r, AA, k) := h
        unfold p_CX_X8_turned_59 at h
        obtain ⟨_, -, h⟩ := po1_some h
        obtain ⟨_, -, h⟩ := po1_some h
        cases h
        exact Or.inl rfl
theorem q_element {g N x y : Nat} (hg : g < 195) (hN : rg g 0 = N) (qx : x < 4294967296) (qy : y < 4294967296) : ∃ r k, P_CX_X8_element 1 (rg g 1) (rg g 2) (rg g 5) (rg g 7) (rg g 11) 0 x y = some (r, k) ∧ P_CM_X9_element 1 (rg g 1) 0 (rg g 2) (rg g 22) (rg g 5) (rg g 21) x y = some (r, k) ∧ (k = 0 ∨ k = 1 ∨ k = 2) := by
  obtain ⟨⟨n0, n1, c0, c1⟩, -, ht⟩ := dataQ hg
  by_cases hx : x < (rg g 1)
  rotate_left
  · refine ⟨4294967294, 1, ?_, ?_, Or.inr (Or.inl rfl)⟩
    · unfold P_CX_X8_element p_CX_X8_element_0
      rw [po1_s lS, po1_s (blw_f (by omega) (by omega) qx), pgeq_0 rfl]
      rfl
    · unfold P_CM_X9_element p_CM_X9_element_0
      rw [po1_s (isElement_f (by omega) (by omega) (by omega) qx), pgeq_0 rfl]
      rfl
  by_cases hy : y < 4
  rotate_left
  · refine ⟨4294967294, 1, ?_, ?_, Or.inr (Or.inl rfl)⟩
    · unfold P_CX_X8_element p_CX_X8_element_0
      rw [po1_s lS, po1_s (blw_t hx (by omega)), pgeq_s (by omega)]
      unfold p_CX_X8_element_26
      rw [po1_s (blw_f (by omega) (by omega) qy), pgeq_0 rfl]
      rfl
    · unfold P_CM_X9_element p_CM_X9_element_0
      rw [po1_s (isElement_t hx (by omega)), pgeq_s (by omega)]
      unfold p_CM_X9_element_8
      rw [po1_s (inM_f (by omega) (by omega) qy), pgeq_0 rfl]
      rfl
  obtain ⟨r, e1, e2⟩ := cmp_some (alN_some _ (alN_some _ (dataB hg).1 x hx) y hy)
  exact ⟨r, 0, e1, e2, Or.inl rfl⟩
theorem q_product {g N made x y : Nat} (hg : g < 195) (hN : rg g 0 = N) (hm : MP g N made) (qx : x < 4294967296) (qy : y < 4294967296) : ∃ r k AA, P_CX_X8_product 1 (rg g 1) N (rg g 3) (rg g 4) made 0 x y = some (r, AA, k) ∧ P_CM_X9_product 1 (rg g 1) 0 (rg g 20) x y = some (r, k) ∧ (k = 0 ∨ k = 1 ∨ k = 2) := by
  obtain ⟨⟨n0, n1, c0, c1⟩, -, ht⟩ := dataQ hg
  by_cases hx : x < (rg g 1)
  rotate_left
  · refine ⟨4294967294, 1, made, ?_, ?_, Or.inr (Or.inl rfl)⟩
    · unfold P_CX_X8_product p_CX_X8_product_0
      rw [po1_s lS, po1_s (blw_f (by omega) (by omega) qx), pgeq_0 rfl]
      rfl
    · unfold P_CM_X9_product p_CM_X9_product_0
      rw [po1_s (isElement_f (by omega) (by omega) (by omega) qx), pgeq_0 rfl]
      rfl
  by_cases hy : y < (rg g 1)
  rotate_left
  · refine ⟨4294967294, 1, made, ?_, ?_, Or.inr (Or.inl rfl)⟩
    · unfold P_CX_X8_product p_CX_X8_product_0
      rw [po1_s lS, po1_s (blw_t hx (by omega)), pgeq_s (by omega)]
      unfold p_CX_X8_product_26
      rw [po1_s (blw_f (by omega) (by omega) qy), pgeq_0 rfl]
      rfl
    · unfold P_CM_X9_product p_CM_X9_product_0
      rw [po1_s (isElement_t hx (by omega)), pgeq_s (by omega)]
      unfold p_CM_X9_product_8
      rw [po1_s (isElement_f (by omega) (by omega) (by omega) qy), pgeq_0 rfl]
      rfl
  obtain ⟨r, AA, e1, e2⟩ := hm x y hx hy
  exact ⟨r, 0, AA, e1, e2, Or.inl rfl⟩
theorem q_sort {g N x y : Nat} (hg : g < 195) (hN : rg g 0 = N) (qx : x < 4294967296) (qy : y < 4294967296) : ∃ r k, P_CX_X8_sort 1 (rg g 6) (rg g 8) (rg g 11) (rg g 9) (rg g 12) (rg g 13) (rg g 15) 0 x y = some (r, k) ∧ P_CM_X9_sort 1 (rg g 6) (Nat.succ N) 0 (rg g 2) (rg g 20) (rg g 22) (rg g 5) (rg g 21) (rg g 8) (rg g 9) x y = some (r, k) ∧ (k = 0 ∨ k = 1 ∨ k = 2) := by
  obtain ⟨⟨n0, n1, c0, c1⟩, -, ht⟩ := dataQ hg
  by_cases hx : x < (rg g 6)
  rotate_left
  · refine ⟨4294967294, 1, ?_, ?_, Or.inr (Or.inl rfl)⟩
    · unfold P_CX_X8_sort p_CX_X8_sort_0
      rw [po1_s lS, po1_s (blw_f (by omega) (by omega) qx), pgeq_0 rfl]
      rfl
    · unfold P_CM_X9_sort p_CM_X9_sort_0
      rw [po1_s (isSort_f (by omega) (by omega) (by omega) qx), pgeq_0 rfl]
      rfl
  by_cases hy : y < 6
  rotate_left
  · refine ⟨4294967294, 1, ?_, ?_, Or.inr (Or.inl rfl)⟩
    · unfold P_CX_X8_sort p_CX_X8_sort_0
      rw [po1_s lS, po1_s (blw_t hx (by omega)), pgeq_s (by omega)]
      unfold p_CX_X8_sort_21
      rw [po1_s (blw_f (by omega) (by omega) qy), pgeq_0 rfl]
      rfl
    · unfold P_CM_X9_sort p_CM_X9_sort_0
      rw [po1_s (isSort_t hx (by omega)), pgeq_s (by omega)]
      unfold p_CM_X9_sort_8
      rw [po1_s (inM_f (by omega) (by omega) qy), pgeq_0 rfl]
      rfl
  obtain ⟨r, e1, e2⟩ := cmp_some (alN_some _ (alN_some _ (dataB hg).2.2.1 x hx) y hy)
  rw [hN] at e2
  exact ⟨r, 0, e1, e2, Or.inl rfl⟩
theorem q_times {g N x y z : Nat} (hg : g < 195) (hN : rg g 0 = N) (qx : x < 4294967296) (qy : y < 4294967296) (qz : z < 4294967296) : ∃ r k, P_CX_X8_times 1 (rg g 6) (rg g 14) 0 x y z = some (r, k) ∧ P_CM_X9_times 1 (rg g 6) 0 (rg g 23) x y z = some (r, k) ∧ (k = 0 ∨ k = 1 ∨ k = 2) := by
  obtain ⟨⟨n0, n1, c0, c1⟩, -, ht⟩ := dataQ hg
  by_cases hx : x < (rg g 6)
  rotate_left
  · refine ⟨4294967294, 1, ?_, ?_, Or.inr (Or.inl rfl)⟩
    · unfold P_CX_X8_times p_CX_X8_times_0
      rw [po1_s lS, po1_s (blw_f (by omega) (by omega) qx), pgeq_0 rfl]
      rfl
    · unfold P_CM_X9_times p_CM_X9_times_0
      rw [po1_s (isSort_f (by omega) (by omega) (by omega) qx), pgeq_0 rfl]
      rfl
  by_cases hy : y < (rg g 6)
  rotate_left
  · refine ⟨4294967294, 1, ?_, ?_, Or.inr (Or.inl rfl)⟩
    · unfold P_CX_X8_times p_CX_X8_times_0
      rw [po1_s lS, po1_s (blw_t hx (by omega)), pgeq_s (by omega)]
      unfold p_CX_X8_times_25
      rw [po1_s (blw_f (by omega) (by omega) qy), pgeq_0 rfl]
      rfl
    · unfold P_CM_X9_times p_CM_X9_times_0
      rw [po1_s (isSort_t hx (by omega)), pgeq_s (by omega)]
      unfold p_CM_X9_times_8
      rw [po1_s (isSort_f (by omega) (by omega) (by omega) qy), pgeq_0 rfl]
      rfl
  by_cases hz : z < (rg g 6)
  rotate_left
  · refine ⟨4294967294, 1, ?_, ?_, Or.inr (Or.inl rfl)⟩
    · unfold P_CX_X8_times p_CX_X8_times_0
      rw [po1_s lS, po1_s (blw_t hx (by omega)), pgeq_s (by omega)]
      unfold p_CX_X8_times_25
      rw [po1_s (blw_t hy (by omega)), pgeq_s (by omega)]
      unfold p_CX_X8_times_34
      rw [po1_s (blw_f (by omega) (by omega) qz), pgeq_0 rfl]
      rfl
    · unfold P_CM_X9_times p_CM_X9_times_0
      rw [po1_s (isSort_t hx (by omega)), pgeq_s (by omega)]
      unfold p_CM_X9_times_8
      rw [po1_s (isSort_t hy (by omega)), pgeq_s (by omega)]
      unfold p_CM_X9_times_16
      rw [po1_s (isSort_f (by omega) (by omega) (by omega) qz), pgeq_0 rfl]
      rfl
  obtain ⟨r, e1, e2⟩ := cmp_some (alN_some _ (alN_some _ (alN_some _ (dataB hg).2.2.2.1 x hx) y hy) z hz)
  exact ⟨r, 0, e1, e2, Or.inl rfl⟩
theorem q_degree {g N x : Nat} (hg : g < 195) (hN : rg g 0 = N) (qx : x < 4294967296) : ∃ r k, P_CX_X8_degree 1 1 (Nat.succ (rg g 6)) (tg g 8) 0 x = some (r, k) ∧ P_CM_X9_degree 1 (rg g 6) 0 (rg g 26) x = some (r, k) ∧ (k = 0 ∨ k = 1 ∨ k = 2) := by
  obtain ⟨⟨n0, n1, c0, c1⟩, -, ht⟩ := dataQ hg
  by_cases hx : x < (rg g 6)
  rotate_left
  · refine ⟨4294967294, 1, ?_, ?_, Or.inr (Or.inl rfl)⟩
    · unfold P_CX_X8_degree p_CX_X8_degree_0
      rw [po1_s lR, pn_s (show Nat.succ (rg g 6) = rg g 6 + 1 from rfl), po1_s (blw_f (by omega) (by omega) qx), pgeq_0 rfl]
      rfl
    · unfold P_CM_X9_degree p_CM_X9_degree_0
      rw [po1_s (isSort_f (by omega) (by omega) (by omega) qx), pgeq_0 rfl]
      rfl
  obtain ⟨r, e1, e2⟩ := cmp_some ((dataC hg).1 x hx).1
  exact ⟨r, 0, e1, e2, Or.inl rfl⟩
theorem q_value {g N x y : Nat} (hg : g < 195) (hN : rg g 0 = N) (qx : x < 4294967296) (qy : y < 4294967296) : ∃ r k, P_CX_X8_value 1 1 (Nat.succ (rg g 6)) 0 (tg g 19) (tg g 20) x y = some (r, k) ∧ P_CM_X9_value 1 (rg g 6) 0 (rg g 27) x y = some (r, k) ∧ (k = 0 ∨ k = 1 ∨ k = 2) := by
  obtain ⟨⟨n0, n1, c0, c1⟩, -, ht⟩ := dataQ hg
  by_cases hx : x < (rg g 6)
  rotate_left
  · refine ⟨4294967294, 1, ?_, ?_, Or.inr (Or.inl rfl)⟩
    · unfold P_CX_X8_value p_CX_X8_value_0
      rw [po1_s lR, pn_s (show Nat.succ (rg g 6) = rg g 6 + 1 from rfl), po1_s (blw_f (by omega) (by omega) qx), pgeq_0 rfl]
      rfl
    · unfold P_CM_X9_value p_CM_X9_value_0
      rw [po1_s (isSort_f (by omega) (by omega) (by omega) qx), pgeq_0 rfl]
      rfl
  by_cases hy : y < (rg g 6)
  rotate_left
  · refine ⟨4294967294, 1, ?_, ?_, Or.inr (Or.inl rfl)⟩
    · unfold P_CX_X8_value p_CX_X8_value_0
      rw [po1_s lR, pn_s (show Nat.succ (rg g 6) = rg g 6 + 1 from rfl), po1_s (blw_t hx (by omega)), pgeq_s (by omega)]
      unfold p_CX_X8_value_18
      rw [pn_s (show Nat.succ (rg g 6) = rg g 6 + 1 from rfl), po1_s (blw_f (by omega) (by omega) qy), pgeq_0 rfl]
      rfl
    · unfold P_CM_X9_value p_CM_X9_value_0
      rw [po1_s (isSort_t hx (by omega)), pgeq_s (by omega)]
      unfold p_CM_X9_value_8
      rw [po1_s (isSort_f (by omega) (by omega) (by omega) qy), pgeq_0 rfl]
      rfl
  obtain ⟨r, e1, e2⟩ := cmp_some (((dataC hg).1 x hx).2.2.2.2 y hy).1
  exact ⟨r, 0, e1, e2, Or.inl rfl⟩
theorem q_spread {g N x y : Nat} (hg : g < 195) (hN : rg g 0 = N) (qx : x < 4294967296) (qy : y < 4294967296) : ∃ r k, P_CX_X8_spread 1 1 (Nat.succ (rg g 6)) 0 (tg g 19) (tg g 20) x y = some (r, k) ∧ P_CM_X9_spread 1 (rg g 6) 0 (rg g 25) x y = some (r, k) ∧ (k = 0 ∨ k = 1 ∨ k = 2) := by
  obtain ⟨⟨n0, n1, c0, c1⟩, -, ht⟩ := dataQ hg
  by_cases hx : x < (rg g 6)
  rotate_left
  · refine ⟨4294967294, 1, ?_, ?_, Or.inr (Or.inl rfl)⟩
    · unfold P_CX_X8_spread p_CX_X8_spread_0
      rw [po1_s lR, pn_s (show Nat.succ (rg g 6) = rg g 6 + 1 from rfl), po1_s (blw_f (by omega) (by omega) qx), pgeq_0 rfl]
      rfl
    · unfold P_CM_X9_spread p_CM_X9_spread_0
      rw [po1_s (isSort_f (by omega) (by omega) (by omega) qx), pgeq_0 rfl]
      rfl
  by_cases hy : y < (rg g 6)
  rotate_left
  · refine ⟨4294967294, 1, ?_, ?_, Or.inr (Or.inl rfl)⟩
    · unfold P_CX_X8_spread p_CX_X8_spread_0
      rw [po1_s lR, pn_s (show Nat.succ (rg g 6) = rg g 6 + 1 from rfl), po1_s (blw_t hx (by omega)), pgeq_s (by omega)]
      unfold p_CX_X8_spread_18
      rw [pn_s (show Nat.succ (rg g 6) = rg g 6 + 1 from rfl), po1_s (blw_f (by omega) (by omega) qy), pgeq_0 rfl]
      rfl
    · unfold P_CM_X9_spread p_CM_X9_spread_0
      rw [po1_s (isSort_t hx (by omega)), pgeq_s (by omega)]
      unfold p_CM_X9_spread_8
      rw [po1_s (isSort_f (by omega) (by omega) (by omega) qy), pgeq_0 rfl]
      rfl
  obtain ⟨r, e1, e2⟩ := cmp_some (((dataC hg).1 x hx).2.2.2.2 y hy).2.1
  exact ⟨r, 0, e1, e2, Or.inl rfl⟩
theorem q_part {g N x y z : Nat} (hg : g < 195) (hN : rg g 0 = N) (qx : x < 4294967296) (qy : y < 4294967296) (qz : z < 4294967296) : ∃ r k, P_CX_X8_part 1 1 (Nat.succ (rg g 6)) (rg g 10) (rg g 11) (rg g 15) (rg g 16) (rg g 18) (rg g 19) 0 (tg g 19) (tg g 20) x y z = some (r, k) ∧ P_CM_X9_part 1 (rg g 6) (rg g 10) (rg g 16) (rg g 17) 0 (rg g 20) (rg g 22) (rg g 21) (rg g 9) (rg g 27) x y z = some (r, k) ∧ (k = 0 ∨ k = 1 ∨ k = 2) := by
  obtain ⟨⟨n0, n1, c0, c1⟩, -, ht⟩ := dataQ hg
  by_cases hx : x < (rg g 6)
  rotate_left
  · refine ⟨4294967294, 1, ?_, ?_, Or.inr (Or.inl rfl)⟩
    · unfold P_CX_X8_part p_CX_X8_part_0
      rw [po1_s lR, pn_s (show Nat.succ (rg g 6) = rg g 6 + 1 from rfl), po1_s (blw_f (by omega) (by omega) qx), pgeq_0 rfl]
      rfl
    · unfold P_CM_X9_part p_CM_X9_part_0
      rw [po1_s (isSort_f (by omega) (by omega) (by omega) qx), pgeq_0 rfl]
      rfl
  by_cases hy : y < (rg g 6)
  rotate_left
  · refine ⟨4294967294, 1, ?_, ?_, Or.inr (Or.inl rfl)⟩
    · unfold P_CX_X8_part p_CX_X8_part_0
      rw [po1_s lR, pn_s (show Nat.succ (rg g 6) = rg g 6 + 1 from rfl), po1_s (blw_t hx (by omega)), pgeq_s (by omega)]
      unfold p_CX_X8_part_18
      rw [pn_s (show Nat.succ (rg g 6) = rg g 6 + 1 from rfl), po1_s (blw_f (by omega) (by omega) qy), pgeq_0 rfl]
      rfl
    · unfold P_CM_X9_part p_CM_X9_part_0
      rw [po1_s (isSort_t hx (by omega)), pgeq_s (by omega)]
      unfold p_CM_X9_part_8
      rw [po1_s (isSort_f (by omega) (by omega) (by omega) qy), pgeq_0 rfl]
      rfl
  obtain ⟨tn, l, t1, t2, t3, t4, t5⟩ := ht y hy
  have t6 : tn < 256 := by have := pk_qlt 8 (rg g 11) y; omega
  by_cases hz : z < tn
  rotate_left
  · refine ⟨4294967294, 1, ?_, ?_, Or.inr (Or.inl rfl)⟩
    · unfold P_CX_X8_part p_CX_X8_part_0
      rw [po1_s lR, pn_s (show Nat.succ (rg g 6) = rg g 6 + 1 from rfl), po1_s (blw_t hx (by omega)), pgeq_s (by omega)]
      unfold p_CX_X8_part_18
      rw [pn_s (show Nat.succ (rg g 6) = rg g 6 + 1 from rfl), po1_s (blw_t hy (by omega)), pgeq_s (by omega)]
      unfold p_CX_X8_part_39
      rw [pq_t (bl_t (by omega)), pn_s t1, po1_s (blw_f (by omega) (by omega) qz), pgeq_0 rfl]
      rfl
    · unfold P_CM_X9_part p_CM_X9_part_0
      rw [po1_s (isSort_t hx (by omega)), pgeq_s (by omega)]
      unfold p_CM_X9_part_8
      rw [po1_s (isSort_t hy (by omega)), pgeq_s (by omega)]
      unfold p_CM_X9_part_16
      rw [pq_t (bl_t (by omega)), pn_s t2, pq_t (bl_t t3), pn_s t4, ks (nsb (a := tn) (b := 1) (by omega) (by omega)), po1_s (inM_f (by omega) (by omega) qz), pgeq_0 rfl]
      rfl
  have h := (((dataC hg).1 x hx).2.2.2.2 y hy).2.2.1
  rw [pn_s t1] at h
  obtain ⟨r, e1, e2⟩ := cmp_some (alN_some _ h z hz)
  exact ⟨r, 0, e1, e2, Or.inl rfl⟩
theorem q_mirror {g N x : Nat} (hg : g < 195) (hN : rg g 0 = N) (qx : x < 4294967296) : ∃ r k, P_CX_X8_mirror 1 1 (Nat.succ (rg g 6)) (rg g 1) (rg g 8) (rg g 11) (rg g 15) (rg g 16) (rg g 18) 0 (tg g 19) (tg g 20) x = some (r, k) ∧ P_CM_X9_mirror 1 (rg g 1) (rg g 6) (rg g 16) (Nat.succ N) 0 (rg g 2) (rg g 20) (rg g 22) (rg g 5) (rg g 21) (rg g 8) (rg g 9) (rg g 27) x = some (r, k) ∧ (k = 0 ∨ k = 1 ∨ k = 2) := by
  obtain ⟨⟨n0, n1, c0, c1⟩, -, ht⟩ := dataQ hg
  by_cases hx : x < (rg g 6)
  rotate_left
  · refine ⟨4294967294, 1, ?_, ?_, Or.inr (Or.inl rfl)⟩
    · unfold P_CX_X8_mirror p_CX_X8_mirror_0
      rw [po1_s lR, pn_s (show Nat.succ (rg g 6) = rg g 6 + 1 from rfl), po1_s (blw_f (by omega) (by omega) qx), pgeq_0 rfl]
      rfl
    · unfold P_CM_X9_mirror p_CM_X9_mirror_0
      rw [po1_s (isSort_f (by omega) (by omega) (by omega) qx), pgeq_0 rfl]
      rfl
  obtain ⟨r, e1, e2⟩ := cmp_some ((dataC hg).1 x hx).2.1
  rw [hN] at e2
  exact ⟨r, 0, e1, e2, Or.inl rfl⟩
theorem q_blind {g N x : Nat} (hg : g < 195) (hN : rg g 0 = N) (qx : x < 4294967296) : ∃ r k, P_CX_X8_blind 1 1 (Nat.succ (rg g 6)) (tg g 8) 0 (tg g 19) (tg g 20) x = some (r, k) ∧ P_CM_X9_blind 1 (rg g 6) 0 (rg g 26) (rg g 27) x = some (r, k) ∧ (k = 0 ∨ k = 1 ∨ k = 2) := by
  obtain ⟨⟨n0, n1, c0, c1⟩, -, ht⟩ := dataQ hg
  by_cases hx : x < (rg g 6)
  rotate_left
  · refine ⟨4294967294, 1, ?_, ?_, Or.inr (Or.inl rfl)⟩
    · unfold P_CX_X8_blind p_CX_X8_blind_0
      rw [po1_s lR, pn_s (show Nat.succ (rg g 6) = rg g 6 + 1 from rfl), po1_s (blw_f (by omega) (by omega) qx), pgeq_0 rfl]
      rfl
    · unfold P_CM_X9_blind p_CM_X9_blind_0
      rw [po1_s (isSort_f (by omega) (by omega) (by omega) qx), pgeq_0 rfl]
      rfl
  obtain ⟨r, e1, e2⟩ := cmp_some ((dataC hg).1 x hx).2.2.1
  exact ⟨r, 0, e1, e2, Or.inl rfl⟩
theorem q_within {g N x y z : Nat} (hg : g < 195) (hN : rg g 0 = N) (qx : x < 4294967296) (qy : y < 4294967296) (qz : z < 4294967296) : ∃ r k AA OO, P_CX_X8_within 1 1 (Nat.succ (rg g 6)) (rg g 1) (rg g 8) (rg g 12) (rg g 16) (rg g 18) 0 0 (tg g 19) (tg g 20) x y z = some (r, AA, k) ∧ P_CM_X9_within 1 (rg g 1) (rg g 6) (rg g 16) 0 (rg g 22) (rg g 5) (rg g 8) (rg g 9) (rg g 27) 0 x y z = some (r, k, OO) ∧ (k = 0 ∨ k = 1 ∨ k = 2) := by
  obtain ⟨⟨n0, n1, c0, c1⟩, -, ht⟩ := dataQ hg
  by_cases hx : x < (rg g 6)
  rotate_left
  · refine ⟨4294967294, 1, 0, 0, ?_, ?_, Or.inr (Or.inl rfl)⟩
    · unfold P_CX_X8_within p_CX_X8_within_0
      rw [po1_s lR, pn_s (show Nat.succ (rg g 6) = rg g 6 + 1 from rfl), po1_s (blw_f (by omega) (by omega) qx), pgeq_0 rfl]
      rfl
    · unfold P_CM_X9_within p_CM_X9_within_0
      rw [po1_s (isSort_f (by omega) (by omega) (by omega) qx), pgeq_0 rfl]
      rfl
  by_cases hy : y < (rg g 6)
  rotate_left
  · refine ⟨4294967294, 1, 0, 0, ?_, ?_, Or.inr (Or.inl rfl)⟩
    · unfold P_CX_X8_within p_CX_X8_within_0
      rw [po1_s lR, pn_s (show Nat.succ (rg g 6) = rg g 6 + 1 from rfl), po1_s (blw_t hx (by omega)), pgeq_s (by omega)]
      unfold p_CX_X8_within_18
      rw [pn_s (show Nat.succ (rg g 6) = rg g 6 + 1 from rfl), po1_s (blw_f (by omega) (by omega) qy), pgeq_0 rfl]
      rfl
    · unfold P_CM_X9_within p_CM_X9_within_0
      rw [po1_s (isSort_t hx (by omega)), pgeq_s (by omega)]
      unfold p_CM_X9_within_8
      rw [po1_s (isSort_f (by omega) (by omega) (by omega) qy), pgeq_0 rfl]
      rfl
  by_cases hz : z < (rg g 6)
  rotate_left
  · refine ⟨4294967294, 1, 0, 0, ?_, ?_, Or.inr (Or.inl rfl)⟩
    · unfold P_CX_X8_within p_CX_X8_within_0
      rw [po1_s lR, pn_s (show Nat.succ (rg g 6) = rg g 6 + 1 from rfl), po1_s (blw_t hx (by omega)), pgeq_s (by omega)]
      unfold p_CX_X8_within_18
      rw [pn_s (show Nat.succ (rg g 6) = rg g 6 + 1 from rfl), po1_s (blw_t hy (by omega)), pgeq_s (by omega)]
      unfold p_CX_X8_within_32
      rw [pn_s (show Nat.succ (rg g 6) = rg g 6 + 1 from rfl), po1_s (blw_f (by omega) (by omega) qz), pgeq_0 rfl]
      rfl
    · unfold P_CM_X9_within p_CM_X9_within_0
      rw [po1_s (isSort_t hx (by omega)), pgeq_s (by omega)]
      unfold p_CM_X9_within_8
      rw [po1_s (isSort_t hy (by omega)), pgeq_s (by omega)]
      unfold p_CM_X9_within_16
      rw [po1_s (isSort_f (by omega) (by omega) (by omega) qz), pgeq_0 rfl]
      rfl
  have h := alN_some _ (alN_some _ (alN_some _ (dataC hg).2 x hx) y hy) z hz
  obtain ⟨r, AA, c, e1, h⟩ := po3_some h
  obtain ⟨b, d, OO, e2, h⟩ := po3_some h
  obtain ⟨s1, h⟩ := eqs_some h
  obtain ⟨s2, h⟩ := eqs_some h
  obtain ⟨s3, h⟩ := eqs_some h
  subst s1
  subst s2
  subst s3
  exact ⟨r, 0, AA, OO, e1, e2, Or.inl rfl⟩
theorem q_natural {g N x : Nat} (hg : g < 195) (hN : rg g 0 = N) (qx : x < 4294967296) : ∃ r k OO, P_CX_X8_natural 1 1 (Nat.succ (rg g 6)) (rg g 1) (rg g 8) (rg g 12) (rg g 13) (rg g 16) (rg g 18) 0 (tg g 19) (tg g 20) x = some (r, k) ∧ P_CM_X9_natural 1 (rg g 1) (rg g 6) (rg g 16) (Nat.succ N) 0 (rg g 2) (rg g 22) (rg g 5) (rg g 8) (rg g 9) (rg g 27) 0 x = some (r, k, OO) ∧ (k = 0 ∨ k = 1 ∨ k = 2) := by
  obtain ⟨⟨n0, n1, c0, c1⟩, -, ht⟩ := dataQ hg
  by_cases hx : x < (rg g 6)
  rotate_left
  · refine ⟨4294967294, 1, 0, ?_, ?_, Or.inr (Or.inl rfl)⟩
    · unfold P_CX_X8_natural p_CX_X8_natural_0
      rw [po1_s lR, pn_s (show Nat.succ (rg g 6) = rg g 6 + 1 from rfl), po1_s (blw_f (by omega) (by omega) qx), pgeq_0 rfl]
      rfl
    · unfold P_CM_X9_natural p_CM_X9_natural_0
      rw [po1_s (isSort_f (by omega) (by omega) (by omega) qx), pgeq_0 rfl]
      rfl
  have h := ((dataC hg).1 x hx).2.2.2.1
  obtain ⟨r, c, e1, h⟩ := po2_some h
  obtain ⟨b, d, OO, e2, h⟩ := po3_some h
  obtain ⟨s1, h⟩ := eqs_some h
  obtain ⟨s2, h⟩ := eqs_some h
  obtain ⟨s3, h⟩ := eqs_some h
  subst s1
  subst s2
  subst s3
  rw [hN] at e2
  exact ⟨r, 0, OO, e1, e2, Or.inl rfl⟩
theorem q_turned {g N x y : Nat} (hg : g < 195) (hN : rg g 0 = N) (qx : x < 4294967296) (qy : y < 4294967296) : ∃ r k AA OO, P_CX_X8_turned 1 1 (Nat.succ (rg g 6)) (rg g 16) (tg g 8) 0 0 (tg g 19) (tg g 20) x y = some (r, AA, k) ∧ P_CM_X9_turned 1 (rg g 6) (rg g 16) 0 (rg g 26) (rg g 27) 0 x y = some (r, k, OO) ∧ (k = 0 ∨ k = 1 ∨ k = 2) := by
  obtain ⟨⟨n0, n1, c0, c1⟩, -, ht⟩ := dataQ hg
  by_cases hx : x < (rg g 6)
  rotate_left
  · refine ⟨4294967294, 1, 0, 0, ?_, ?_, Or.inr (Or.inl rfl)⟩
    · unfold P_CX_X8_turned p_CX_X8_turned_0
      rw [po1_s lR, pn_s (show Nat.succ (rg g 6) = rg g 6 + 1 from rfl), po1_s (blw_f (by omega) (by omega) qx), pgeq_0 rfl]
      rfl
    · unfold P_CM_X9_turned p_CM_X9_turned_0
      rw [po1_s (isSort_f (by omega) (by omega) (by omega) qx), pgeq_0 rfl]
      rfl
  by_cases hy : y < (rg g 6)
  rotate_left
  · refine ⟨4294967294, 1, 0, 0, ?_, ?_, Or.inr (Or.inl rfl)⟩
    · unfold P_CX_X8_turned p_CX_X8_turned_0
      rw [po1_s lR, pn_s (show Nat.succ (rg g 6) = rg g 6 + 1 from rfl), po1_s (blw_t hx (by omega)), pgeq_s (by omega)]
      unfold p_CX_X8_turned_18
      rw [pn_s (show Nat.succ (rg g 6) = rg g 6 + 1 from rfl), po1_s (blw_f (by omega) (by omega) qy), pgeq_0 rfl]
      rfl
    · unfold P_CM_X9_turned p_CM_X9_turned_0
      rw [po1_s (isSort_t hx (by omega)), pgeq_s (by omega)]
      unfold p_CM_X9_turned_8
      rw [po1_s (isSort_f (by omega) (by omega) (by omega) qy), pgeq_0 rfl]
      rfl
  have h := (((dataC hg).1 x hx).2.2.2.2 y hy).2.2.2
  obtain ⟨r, AA, c, e1, h⟩ := po3_some h
  obtain ⟨b, d, OO, e2, h⟩ := po3_some h
  obtain ⟨s1, h⟩ := eqs_some h
  obtain ⟨s2, h⟩ := eqs_some h
  subst s1
  subst s2
  exact ⟨r, c, AA, OO, e1, e2, turned_k e1⟩
