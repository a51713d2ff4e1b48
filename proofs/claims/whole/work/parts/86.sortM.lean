/-! ===== the reference: elements sorted, products ===== -/
theorem pggt_s {β : Type} {x y : Option β} {a : Nat} (h0 : 0 < a) (h : a < 2147483648) : pg_gt x y a = x := by
  cases a with
  | zero => omega
  | succ a =>
    show (Bool.rec y x (Nat.blt (a + 1) 2147483648) : Option β) = x
    rw [bl_t h]
theorem pggt_0 {β : Type} {x y : Option β} : pg_gt x y 0 = y := rfl
/-- the k-th comes to place t -/
def piK (k t i : Nat) : Nat := if i < t then i else if i = t then k else if i ≤ k then i - 1 else i
section BO
variable {N n : Nat} {dig : Nat → Nat → Nat} {key code : Nat → Nat} {M : Nat → Nat → Nat}
theorem so_in (G : GF N n dig key code M) {nw pr q : Nat → Nat} {k : Nat} (hk : k < n) (hq : ∀ i, i < n → q i < n) (hinj : ∀ i j, i < n → j < n → q i = q j → i = j) (hs : ∀ i j, i < j → j < k → q i < q j) : ∀ (t f F : Nat) (el : Nat → Nat), t ≤ k → t + 1 + f ≤ F → (∀ i, i < t → el i = code (q i) + 1) → (∀ i, t < i → i ≤ k → el i = code (q (i - 1)) + 1) → (∀ i, k < i → i < n → el i = code (q i) + 1) → (∀ j, t ≤ j → j < k → q k < q j) → ∃ t' el' f', f ≤ f' ∧ t' ≤ k ∧ p_CMf_X9_findElements_119 (pj_CMf_X9_findElements F) n nw el pr k (code (q k)) t = p_CMf_X9_findElements_102 (pj_CMf_X9_findElements f') n nw el' pr (k + 1) ∧ (∀ i, i < n → el' i = code (q (piK k t' i)) + 1) ∧ (∀ j, j < t' → q j < q k) ∧ (∀ j, t' ≤ j → j < k → q k < q j) := by
  have hn2 := G.2.2.2.1
  have hend : ∀ (t f F : Nat) (el : Nat → Nat), t ≤ k → 1 + f ≤ F → (∀ i, i < t → el i = code (q i) + 1) → (∀ i, t < i → i ≤ k → el i = code (q (i - 1)) + 1) → (∀ i, k < i → i < n → el i = code (q i) + 1) → ∃ el' f', f ≤ f' ∧ p_CMf_X9_findElements_155 (pj_CMf_X9_findElements F) n nw el pr k (code (q k)) t = p_CMf_X9_findElements_102 (pj_CMf_X9_findElements f') n nw el' pr (k + 1) ∧ ∀ i, i < n → el' i = code (q (piK k t i)) + 1 := by
    intro t f F el ht hF h1 h2 h3
    obtain ⟨F', rfl⟩ : ∃ F', F = F' + 1 := ⟨F - 1, by omega⟩
    refine ⟨uf el t (Nat.succ (code (q k))), F', by omega, ?_, fun i hi => ?_⟩
    · unfold p_CMf_X9_findElements_155
      rw [pq_t (bl_t (by omega)), ks (ninc (by omega)), fej3]
    · unfold piK
      by_cases c1 : i = t
      · rw [uf_same c1, if_neg (by omega), if_pos c1]
      · rw [uf_ne c1]
        by_cases c2 : i < t
        · rw [if_pos c2]
          exact h1 i c2
        · rw [if_neg c2, if_neg c1]
          by_cases c3 : i ≤ k
          · rw [if_pos c3]
            exact h2 i (by omega) c3
          · rw [if_neg c3]
            exact h3 i (by omega) hi
  intro t
  induction t with
  | zero =>
    intro f F el ht hF h1 h2 h3 h4
    obtain ⟨el', f', e1, e2, e3⟩ := hend 0 f F el ht (by omega) h1 h2 h3
    refine ⟨0, el', f', e1, ht, ?_, e3, fun j hj => by omega, h4⟩
    unfold p_CMf_X9_findElements_119
    rw [pggt_0]
    exact e2
  | succ t ih =>
    intro f F el ht hF h1 h2 h3 h4
    have hqt := hq t (by omega)
    have hqk := hq k hk
    have hct := (gf_code G hqt).1
    have hck := (gf_code G hqk).1
    by_cases hgt : q k < q t
    · obtain ⟨F', rfl⟩ : ∃ F', F = F' + 1 := ⟨F - 1, by omega⟩
      obtain ⟨t', el', f', e1, e2, e3, e4⟩ := ih f F' (uf el (t + 1) (Nat.succ (code (q t)))) (by omega) (by omega) (fun i hi => by rw [uf_ne (by omega)]; exact h1 i (by omega)) (fun i hi1 hi2 => by
        by_cases c : i = t + 1
        · rw [uf_same c, c]
          rfl
        · rw [uf_ne c]
          exact h2 i (by omega) hi2) (fun i hi1 hi2 => by rw [uf_ne (by omega)]; exact h3 i hi1 hi2) (fun j hj1 hj2 => by
        by_cases c : j = t
        · rw [c]; exact hgt
        · exact h4 j (by omega) hj2)
      refine ⟨t', el', f', e1, e2, ?_, e4⟩
      rw [← e3]
      rw [show p_CMf_X9_findElements_119 (pj_CMf_X9_findElements (F' + 1)) n nw el pr k (code (q k)) (t + 1) = p_CMf_X9_findElements_123 (pj_CMf_X9_findElements (F' + 1)) n nw el pr k (code (q k)) (t + 1) from pggt_s (by omega) (by omega)]
      unfold p_CMf_X9_findElements_123
      rw [ks (nsb (by omega) (by omega)), show t + 1 - 1 = t by omega, pq_t (bl_t (by omega)), pn_s (h1 t (by omega)), pb_t (show s_gt (code (q t)) (code (q k)) = true from slt_t ((gf_lt G hqk hqt).mpr hgt) (by omega))]
      unfold p_CMf_X9_findElements_135
      rw [ks (nsb (by omega) (by omega)), show t + 1 - 1 = t by omega, pq_t (bl_t (by omega)), pn_s (h1 t (by omega)), pq_t (bl_t (by omega)), ks (ndec (by omega) (by omega)), show t + 1 - 1 = t by omega, fej4]
    · obtain ⟨el', f', e1, e2, e3⟩ := hend (t + 1) f F el ht (by omega) h1 h2 h3
      have hlt : q t < q k := by
        rcases Nat.lt_trichotomy (q t) (q k) with c | c | c
        · exact c
        · have := hinj t k (by omega) hk c
          omega
        · exact absurd c hgt
      refine ⟨t + 1, el', f', e1, ht, ?_, e3, fun j hj => ?_, h4⟩
      · rw [← e2, show p_CMf_X9_findElements_119 (pj_CMf_X9_findElements F) n nw el pr k (code (q k)) (t + 1) = p_CMf_X9_findElements_123 (pj_CMf_X9_findElements F) n nw el pr k (code (q k)) (t + 1) from pggt_s (by omega) (by omega)]
        unfold p_CMf_X9_findElements_123
        have hle : code (q t) < code (q k) := (gf_lt G hqt hqk).mpr hlt
        rw [ks (nsb (by omega) (by omega)), show t + 1 - 1 = t by omega, pq_t (bl_t (by omega)), pn_s (h1 t (by omega)), pb_f (show s_gt (code (q t)) (code (q k)) = false from slt_f (by omega) (by omega))]
      · by_cases c : j = t
        · rw [c]; exact hlt
        · exact Nat.lt_trans (hs j t (by omega) (by omega)) hlt
theorem piK_lt {k t i m : Nat} (hk : k < m) (ht : t ≤ k) (hi : i < m) : piK k t i < m := by
  unfold piK
  split
  · exact hi
  · split
    · exact hk
    · split <;> omega
theorem piK_cases (k t i : Nat) : (i < t ∧ piK k t i = i) ∨ (i = t ∧ piK k t i = k) ∨ (t < i ∧ i ≤ k ∧ piK k t i = i - 1) ∨ (t < i ∧ k < i ∧ piK k t i = i) := by
  unfold piK
  by_cases a1 : i < t
  · exact Or.inl ⟨a1, if_pos a1⟩
  · rw [if_neg a1]
    by_cases a2 : i = t
    · exact Or.inr (Or.inl ⟨a2, if_pos a2⟩)
    · rw [if_neg a2]
      by_cases a3 : i ≤ k
      · exact Or.inr (Or.inr (Or.inl ⟨by omega, a3, if_pos a3⟩))
      · exact Or.inr (Or.inr (Or.inr ⟨by omega, by omega, if_neg a3⟩))
theorem piK_inj {k t i j : Nat} (ht : t ≤ k) (h : piK k t i = piK k t j) : i = j := by
  rcases piK_cases k t i with a | a | a | a <;> rcases piK_cases k t j with b | b | b | b <;> omega
theorem so_out (G : GF N n dig key code M) {nw pr : Nat → Nat} : ∀ (w f F k : Nat) (q el : Nat → Nat), k + w = n → 1 ≤ k → f + w * (n + 1) ≤ F → (∀ i, i < n → q i < n) → (∀ i j, i < n → j < n → q i = q j → i = j) → (∀ i j, i < j → j < k → q i < q j) → (∀ i, i < n → el i = code (q i) + 1) → ∃ (q' el' : Nat → Nat) (f' : Nat), f ≤ f' ∧ p_CMf_X9_findElements_102 (pj_CMf_X9_findElements F) n nw el pr k = p_CMf_X9_findElements_168 (pj_CMf_X9_findElements f') n nw el' pr ∧ (∀ i, i < n → q' i < n) ∧ (∀ i j, i < j → j < n → q' i < q' j) ∧ ∀ i, i < n → el' i = code (q' i) + 1
  | 0, f, F, k, q, el, hw, h1, hF, hq, hinj, hs, he => by
    have hn2 := G.2.2.2.1
    refine ⟨q, el, F, by omega, ?_, hq, fun i j hi hj => hs i j hi (by omega), he⟩
    unfold p_CMf_X9_findElements_102
    rw [pb_f (slt_f (by omega) (by omega))]
  | w + 1, f, F, k, q, el, hw, h1, hF, hq, hinj, hs, he => by
    have hn2 := G.2.2.2.1
    have hF2 : f + w * (n + 1) + (n + 1) ≤ F := by
      rw [Nat.add_mul] at hF
      omega
    obtain ⟨t, el1, f1, e1, e2, e3, e4, e5, e6⟩ := so_in G (nw := nw) (pr := pr) (k := k) (by omega) hq hinj hs k (f + w * (n + 1)) F el (Nat.le_refl _) (by omega) (fun i hi => he i (by omega)) (fun i hi1 hi2 => by omega) (fun i hi1 hi2 => he i hi2) (fun j hj1 hj2 => by omega)
    obtain ⟨q', el', f', r1, r2, r3, r4, r5⟩ := so_out G (nw := nw) (pr := pr) w f f1 (k + 1) (fun i => q (piK k t i)) el1 (by omega) (by omega) e1 (fun i hi => hq _ (piK_lt (by omega) e2 hi)) (fun i j hi hj h => piK_inj e2 (hinj _ _ (piK_lt (by omega) e2 hi) (piK_lt (by omega) e2 hj) h)) (fun i j hi hj => by
      show q (piK k t i) < q (piK k t j)
      unfold piK
      by_cases c1 : i < t
      · rw [if_pos c1]
        by_cases d1 : j < t
        · rw [if_pos d1]
          exact hs i j hi (by omega)
        · rw [if_neg d1]
          by_cases d2 : j = t
          · rw [if_pos d2]
            exact e5 i c1
          · rw [if_neg d2, if_pos (by omega)]
            exact hs i (j - 1) (by omega) (by omega)
      · rw [if_neg c1, if_neg (show ¬ j < t by omega), if_neg (show ¬ j = t by omega), if_pos (show j ≤ k by omega)]
        by_cases c2 : i = t
        · rw [if_pos c2]
          exact e6 (j - 1) (by omega) (by omega)
        · rw [if_neg c2, if_pos (by omega)]
          exact hs (i - 1) (j - 1) (by omega) (by omega)) e4
    refine ⟨q', el', f', r1, ?_, r3, r4, r5⟩
    rw [← r2, ← e3]
    unfold p_CMf_X9_findElements_102
    rw [pb_t (slt_t (by omega) (by omega))]
    unfold p_CMf_X9_findElements_110
    rw [pq_t (bl_t (by omega)), pn_s (he k (by omega))]
theorem sorted_id {q : Nat → Nat} (hq : ∀ i, i < n → q i < n) (hs : ∀ i j, i < j → j < n → q i < q j) : ∀ i, i < n → q i = i := by
  have lo : ∀ i, i < n → i ≤ q i := by
    intro i
    induction i with
    | zero => intro _; exact Nat.zero_le _
    | succ i ih =>
      intro h
      have a1 := ih (by omega)
      have a2 := hs i (i + 1) (by omega) h
      omega
  have hi : ∀ d i, i + d + 1 = n → q i + d < n := by
    intro d
    induction d with
    | zero => intro i h; exact hq i (by omega)
    | succ d ih =>
      intro i h
      have a1 := ih (i + 1) (by omega)
      have a2 := hs i (i + 1) (by omega) (by omega)
      omega
  intro i h
  have a1 := lo i h
  have a2 := hi (n - 1 - i) i (by omega)
  omega
theorem fp_y (G : GF N n dig key code M) {nw el : Nat → Nat} (h0 : nw 0 = N + 1) (he : ∀ i, i < n → el i = code i + 1) {x : Nat} (hx : x < n) : ∀ (w f y : Nat) (pr : Nat → Nat), y + w = n → ∃ pr', p_CMf_X9_findElements_180 (pj_CMf_X9_findElements (f + (w + 1))) n nw el pr x y = p_CMf_X9_findElements_170 (pj_CMf_X9_findElements f) n nw el pr' (x + 1) ∧ (∀ y', y ≤ y' → y' < n → pr' (120 * x + y') = M x y' + 1) ∧ ∀ j, j < 120 * x + y ∨ 120 * x + n ≤ j → pr' j = pr j
  | 0, f, y, pr, hy => by
    have hn2 := G.2.2.2.1
    refine ⟨pr, ?_, fun y' q1 q2 => by omega, fun _ _ => rfl⟩
    unfold p_CMf_X9_findElements_180
    rw [pb_f (slt_f (by omega) (by omega))]
    unfold p_CMf_X9_findElements_225
    rw [ks (ninc (by omega)), fej5]
  | w + 1, f, y, pr, hy => by
    have hn2 := G.2.2.2.1
    have hM := (G.2.2.2.2.2.2.1 x y hx (by omega)).1
    obtain ⟨pr', e1, e2, e3⟩ := fp_y G h0 he hx w f (y + 1) (uf pr (120 * x + y) (Nat.succ (M x y))) (by omega)
    refine ⟨pr', ?_, fun y' q1 q2 => ?_, fun j hj => ?_⟩
    · rw [← e1]
      rw [show p_CMf_X9_findElements_180 (pj_CMf_X9_findElements (f + (w + 1 + 1))) n nw el pr x y = p_CMf_X9_findElements_188 (pj_CMf_X9_findElements (f + (w + 1 + 1))) n nw el pr x y from pb_t (slt_t (by omega) (by omega))]
      unfold p_CMf_X9_findElements_188
      rw [ks (nm (by omega)), ks (na (by omega)), pq_t (bl_t (by omega)), pn_s (he x hx), pq_t (bl_t (by omega)), pn_s (he y (by omega)), po1_s (gf_both G h0 hx (by omega)), po1_s (find_ok hn2 he (t := M x y) (by omega) (fun i hi h => by
        have := gf_inj G (by omega) hM h
        omega) (fun _ => rfl)), pq_t (bl_t (by omega)), ks (ninc (by omega)), show f + (w + 1 + 1) = (f + (w + 1)) + 1 by omega, fej6]
    · by_cases c : y' = y
      · subst c
        rw [e3 _ (by omega), uf_same rfl]
      · exact e2 y' (by omega) q2
    · rw [e3 j (by omega), uf_ne (by omega)]
theorem fp_x (G : GF N n dig key code M) {nw el : Nat → Nat} (h0 : nw 0 = N + 1) (he : ∀ i, i < n → el i = code i + 1) : ∀ (w f x : Nat) (pr : Nat → Nat), x + w = n → ∃ pr', p_CMf_X9_findElements_170 (pj_CMf_X9_findElements (f + w * (n + 1))) n nw el pr x = some (n, el, pr') ∧ (∀ x' y, x ≤ x' → x' < n → y < n → pr' (120 * x' + y) = M x' y + 1) ∧ ∀ j, j < 120 * x → pr' j = pr j
  | 0, f, x, pr, hx => by
    have hn2 := G.2.2.2.1
    refine ⟨pr, ?_, fun x' y q1 q2 _ => by omega, fun _ _ => rfl⟩
    unfold p_CMf_X9_findElements_170
    rw [pb_f (slt_f (by omega) (by omega))]
    rfl
  | w + 1, f, x, pr, hx => by
    have hn2 := G.2.2.2.1
    obtain ⟨pr1, e1, e2, e3⟩ := fp_y G h0 he (x := x) (by omega) n (f + w * (n + 1)) 0 pr (by omega)
    obtain ⟨pr', r1, r2, r3⟩ := fp_x G h0 he w f (x + 1) pr1 (by omega)
    refine ⟨pr', ?_, fun x' y q1 q2 q3 => ?_, fun j hj => ?_⟩
    · rw [← r1, ← e1, show f + (w + 1) * (n + 1) = f + w * (n + 1) + (n + 1) by rw [Nat.add_mul]; omega]
      exact pb_t (slt_t (by omega) (by omega))
    · by_cases c : x' = x
      · subst c
        rw [r3 _ (by omega)]
        exact e2 y (Nat.zero_le _) q3
      · exact r2 x' y (by omega) q2 q3
    · rw [r3 j (by omega), e3 j (by omega)]
theorem sub_len : ∀ (l1 l2 : List Nat), l1.Nodup → (∀ x ∈ l1, x ∈ l2) → l1.length ≤ l2.length
  | [], l2, _, _ => Nat.zero_le _
  | a :: t, l2, hn, h => by
    have hn2 := List.nodup_cons.mp hn
    have ha := h a List.mem_cons_self
    have := sub_len t (l2.erase a) hn2.2 (fun x hx => (List.mem_erase_of_ne (show x ≠ a from fun e => hn2.1 (by rw [← e]; exact hx))).mpr (h x (List.mem_cons_of_mem _ hx)))
    rw [List.length_erase_of_mem ha] at this
    have hp := List.length_pos_of_mem ha
    simp
    omega
/-- findElements, where the generators make all -/
theorem fe_ok (G : GF N n dig key code M) {nw : Nat → Nat} (h0 : nw 0 = N + 1) {a : Nat → Nat} {cnt : Nat} (hc3 : cnt ≤ 3) (h1 : nw 1 = cnt + 1) (ha : ∀ g, g < cnt → a g < n) (hgn : ∀ g, g < cnt → nw (2 + g) = code (a g) + 1) (hgen : ∀ X : Nat → Prop, X 0 → (∀ z h, z < n → h < cnt → X z → X (M z (a h))) → ∀ z, z < n → X z) (el pr : Nat → Nat) : ∃ el' pr', P_CMf_X9_findElements nw el pr = some (n, el', pr') ∧ (∀ i, i < n → el' i = code i + 1) ∧ ∀ x y, x < n → y < n → pr' (120 * x + y) = M x y + 1 := by
  have hn1 := G.2.2.1
  have hn2 := G.2.2.2.1
  have b1 : n * (cnt + 1) ≤ 120 * 4 := Nat.mul_le_mul hn2 (by omega)
  have b2 : n * (n + 1) ≤ 120 * 121 := Nat.mul_le_mul hn2 (by omega)
  obtain ⟨L, el1, f1, q0, q1, q2, q3, q4, q5, q6⟩ := me_x G h0 hc3 h1 ha hgn (pr := pr) n (40000 - n * (cnt + 1)) 0 [0] (uf el 0 (Nat.succ (code 0))) (by omega) (Nat.zero_le _) (by simp) (fun y hy => by rw [List.mem_singleton.mp hy]; omega) (fun i z hi => by
    have hi0 : i = 0 := by
      have := (List.getElem?_eq_some_iff.mp hi).1
      simp at this
      exact this
    subst hi0
    cases hi
    rw [uf_same rfl]) (fun i z hi => by omega)
  rw [show 40000 - n * (cnt + 1) + n * (cnt + 1) = 40000 by omega] at q1
  have hall : ∀ z, z < n → z ∈ L := hgen (fun z => z ∈ L) (q5.subset (by simp)) (fun z h _ hh hz => q6 z hz h hh)
  have hlen : L.length = n := by
    have a1 := nodup_le n L q2 q3
    have a2 := sub_len (List.range n) L List.nodup_range (fun x hx => hall x (List.mem_range.mp hx))
    rw [List.length_range] at a2
    omega
  have hgd : ∀ i, i < n → L[i]? = some (L.getD i 0) := fun i hi => by
    rw [List.getD_eq_getElem?_getD, List.getElem?_eq_getElem (by omega)]
    rfl
  obtain ⟨q', el2, f2, s1, s2, s3, s4, s5⟩ := so_out G (nw := nw) (pr := pr) (n - 1) (n * (n + 1)) f1 1 (fun i => L.getD i 0) el1 (by omega) (by omega) (by
    have : (n - 1) * (n + 1) ≤ n * (n + 1) := Nat.mul_le_mul_right _ (by omega)
    omega) (fun i hi => q3 _ (List.mem_of_getElem? (hgd i hi))) (fun i j hi hj h => nd_inj q2 (hgd i hi) ((hgd j hj).trans (congrArg some h.symm))) (fun i j hi hj => by omega) (fun i hi => q4 i _ (hgd i hi))
  have hid := sorted_id s3 s4
  have he : ∀ i, i < n → el2 i = code i + 1 := fun i hi => by rw [s5 i hi, hid i hi]
  obtain ⟨pr', p1, p2, -⟩ := fp_x G h0 he n (f2 - n * (n + 1)) 0 pr (by omega)
  rw [show f2 - n * (n + 1) + n * (n + 1) = f2 by omega] at p1
  refine ⟨el2, pr', ?_, he, fun x y hx hy => p2 x y (Nat.zero_le _) hx hy⟩
  unfold P_CMf_X9_findElements p_CMf_X9_findElements_0
  rw [po1_s (gf_stays G h0), pq_t (bl_t (by omega))]
  have q1 : p_CMf_X9_findElements_17 (pj_CMf_X9_findElements 40000) 1 nw (uf el 0 (Nat.succ (code 0))) pr 0 = _ := q1
  rw [q1, hlen]
  unfold p_CMf_X9_findElements_100
  rw [s2]
  unfold p_CMf_X9_findElements_168
  exact p1
end BO
