/-! ===== the reference: findElements ===== -/
theorem fej1 (k : Nat) : (pj_CMf_X9_findElements (k + 1)).1 = p_CMf_X9_findElements_17 (pj_CMf_X9_findElements k) := by rw [pjs_CMf_X9_findElements]
theorem fej2 (k : Nat) : (pj_CMf_X9_findElements (k + 1)).2.1 = p_CMf_X9_findElements_27 (pj_CMf_X9_findElements k) := by rw [pjs_CMf_X9_findElements]
theorem fej3 (k : Nat) : (pj_CMf_X9_findElements (k + 1)).2.2.1 = p_CMf_X9_findElements_102 (pj_CMf_X9_findElements k) := by rw [pjs_CMf_X9_findElements]
theorem fej4 (k : Nat) : (pj_CMf_X9_findElements (k + 1)).2.2.2.1 = p_CMf_X9_findElements_119 (pj_CMf_X9_findElements k) := by rw [pjs_CMf_X9_findElements]
theorem fej5 (k : Nat) : (pj_CMf_X9_findElements (k + 1)).2.2.2.2.1 = p_CMf_X9_findElements_170 (pj_CMf_X9_findElements k) := by rw [pjs_CMf_X9_findElements]
theorem fej6 (k : Nat) : (pj_CMf_X9_findElements (k + 1)).2.2.2.2.2 = p_CMf_X9_findElements_180 (pj_CMf_X9_findElements k) := by rw [pjs_CMf_X9_findElements]
section BN
variable {N n : Nat} {dig : Nat → Nat → Nat} {key code : Nat → Nat} {M : Nat → Nat → Nat}
theorem me_g (G : GF N n dig key code M) {nw : Nat → Nat} (h0 : nw 0 = N + 1) {a : Nat → Nat} {cnt : Nat} (hc3 : cnt ≤ 3) (h1 : nw 1 = cnt + 1) (ha : ∀ g, g < cnt → a g < n) (hgn : ∀ g, g < cnt → nw (2 + g) = code (a g) + 1) {pr : Nat → Nat} {x z : Nat} (hx1 : x < 120) (hz : z < n) : ∀ (w f g : Nat) (L : List Nat) (el : Nat → Nat), g + w = cnt → L.Nodup → (∀ y ∈ L, y < n) → elR code L el → L[x]? = some z → ∃ L' el', p_CMf_X9_findElements_27 (pj_CMf_X9_findElements (f + (w + 1))) L.length nw el pr x g = p_CMf_X9_findElements_17 (pj_CMf_X9_findElements f) L'.length nw el' pr (x + 1) ∧ L'.Nodup ∧ (∀ y ∈ L', y < n) ∧ elR code L' el' ∧ L <+: L' ∧ ∀ h, g ≤ h → h < cnt → M z (a h) ∈ L'
  | 0, f, g, L, el, hg, hn, hL, he, hx => by
    refine ⟨L, el, ?_, hn, hL, he, List.prefix_refl L, fun h q1 q2 => by omega⟩
    unfold p_CMf_X9_findElements_27
    rw [pq_t (bl_t (by omega)), pn_s h1, pb_f (slt_f (by omega) (by omega))]
    unfold p_CMf_X9_findElements_94
    rw [ks (ninc (by omega)), fej1]
  | w + 1, f, g, L, el, hg, hn, hL, he, hx => by
    have hag := ha g (by omega)
    have hMz := (G.2.2.2.2.2.2.1 z (a g) hz hag).1
    have hlen := nodup_le n L hn hL
    have hn2 := G.2.2.2.1
    obtain ⟨t, e1, e2, e3⟩ := find_in G hn hL he hMz
    obtain ⟨b1, b2, b3, b4⟩ := bf_add (n := n) hn hL hMz
    have hx' : (if M z (a g) ∈ L then L else L ++ [M z (a g)])[x]? = some z := by
      obtain ⟨t, ht⟩ := b4
      rw [← ht, List.getElem?_append_left (List.getElem?_eq_some_iff.mp hx).1]
      exact hx
    have key1 : ∃ el1, p_CMf_X9_findElements_27 (pj_CMf_X9_findElements (f + (w + 1 + 1))) L.length nw el pr x g = p_CMf_X9_findElements_27 (pj_CMf_X9_findElements (f + (w + 1))) (if M z (a g) ∈ L then L else L ++ [M z (a g)]).length nw el1 pr x (g + 1) ∧ elR code (if M z (a g) ∈ L then L else L ++ [M z (a g)]) el1 := by
      unfold p_CMf_X9_findElements_27
      rw [pq_t (bl_t (by omega)), pn_s h1, pb_t (slt_t (by omega) (by omega))]
      unfold p_CMf_X9_findElements_37
      rw [pq_t (bl_t hx1), pn_s (he x z hx), ks (na (by omega)), pq_t (bl_t (by omega)), pn_s (hgn g (by omega)), po1_s (gf_both G h0 hz hag), po1_s e1]
      by_cases hm : M z (a g) ∈ L
      · rw [pb_f (be_f (by have := e2 hm; omega)), if_pos hm]
        refine ⟨el, ?_, he⟩
        unfold p_CMf_X9_findElements_88
        rw [ks (ninc (by omega)), show f + (w + 1 + 1) = (f + (w + 1)) + 1 by omega, fej2]
        unfold p_CMf_X9_findElements_27
        rfl
      · have hlt : L.length < 120 := by
          have := nodup_le n (M z (a g) :: L) (List.nodup_cons.mpr ⟨hm, hn⟩) (fun y hy => by
            rcases List.mem_cons.mp hy with rfl | hy
            · exact hMz
            · exact hL y hy)
          simp at this
          omega
        rw [pb_t (by rw [e3 hm]; exact Nat.beq_refl _), if_neg hm]
        refine ⟨uf el L.length (Nat.succ (code (M z (a g)))), ?_, fun i y hi => ?_⟩
        · unfold p_CMf_X9_findElements_68
          rw [pq_t (bl_t hlt), ks (na (by omega))]
          unfold p_CMf_X9_findElements_88
          rw [ks (ninc (by omega)), show f + (w + 1 + 1) = (f + (w + 1)) + 1 by omega, fej2, List.length_append]
          unfold p_CMf_X9_findElements_27
          rfl
        · by_cases hil : i < L.length
          · rw [List.getElem?_append_left hil] at hi
            rw [uf_ne (by omega)]
            exact he i y hi
          · rw [List.getElem?_append_right (by omega)] at hi
            have hi0 : i - L.length = 0 := by
              have := (List.getElem?_eq_some_iff.mp hi).1
              simp at this
              omega
            rw [hi0] at hi
            cases hi
            rw [uf_same (by omega)]
    obtain ⟨el1, k1, k2⟩ := key1
    obtain ⟨L', el', q1, q2, q3, q4, q5, q6⟩ := me_g G h0 hc3 h1 ha hgn (pr := pr) hx1 hz w f (g + 1) _ el1 (by omega) b1 b2 k2 hx'
    refine ⟨L', el', k1.trans q1, q2, q3, q4, b4.trans q5, fun h r1 r2 => ?_⟩
    by_cases hh : h = g
    · subst hh
      exact q5.subset b3
    · exact q6 h (by omega) r2
theorem me_x (G : GF N n dig key code M) {nw : Nat → Nat} (h0 : nw 0 = N + 1) {a : Nat → Nat} {cnt : Nat} (hc3 : cnt ≤ 3) (h1 : nw 1 = cnt + 1) (ha : ∀ g, g < cnt → a g < n) (hgn : ∀ g, g < cnt → nw (2 + g) = code (a g) + 1) {pr : Nat → Nat} : ∀ (w f x : Nat) (L : List Nat) (el : Nat → Nat), n ≤ x + w → x ≤ L.length → L.Nodup → (∀ y ∈ L, y < n) → elR code L el → (∀ i z, i < x → L[i]? = some z → ∀ h, h < cnt → M z (a h) ∈ L) → ∃ L' el' f', f ≤ f' ∧ p_CMf_X9_findElements_17 (pj_CMf_X9_findElements (f + w * (cnt + 1))) L.length nw el pr x = p_CMf_X9_findElements_100 (pj_CMf_X9_findElements f') L'.length nw el' pr ∧ L'.Nodup ∧ (∀ y ∈ L', y < n) ∧ elR code L' el' ∧ L <+: L' ∧ ∀ z ∈ L', ∀ h, h < cnt → M z (a h) ∈ L' := by
  intro w
  induction w with
  | zero =>
    intro f x L el hw hx hn hL he hcl
    have hlen := nodup_le n L hn hL
    have hn2 := G.2.2.2.1
    refine ⟨L, el, f, Nat.le_refl _, ?_, hn, hL, he, List.prefix_refl L, fun z hz h hh => ?_⟩
    · unfold p_CMf_X9_findElements_17
      rw [pb_f (slt_f (by omega) (by omega)), show f + 0 * (cnt + 1) = f by omega]
    · obtain ⟨i, hi⟩ := List.getElem?_of_mem hz
      exact hcl i z (by have := (List.getElem?_eq_some_iff.mp hi).1; omega) hi h hh
  | succ w ih =>
    intro f x L el hw hx hn hL he hcl
    have hlen := nodup_le n L hn hL
    have hn2 := G.2.2.2.1
    by_cases hxl : x < L.length
    · have hxz := List.getElem?_eq_getElem hxl
      have hz := hL _ (List.getElem_mem hxl)
      obtain ⟨L1, el1, e1, e2, e3, e4, e5, e6⟩ := me_g G h0 hc3 h1 ha hgn (pr := pr) (x := x) (by omega) hz cnt (f + w * (cnt + 1)) 0 L el (by omega) hn hL he hxz
      have hlt1 : L.length ≤ L1.length := e5.length_le
      obtain ⟨L', el', f', q0, q1, q2, q3, q4, q5, q6⟩ := ih f (x + 1) L1 el1 (by omega) (by omega) e2 e3 e4 (fun i z hi hiz h hh => by
        obtain ⟨t, ht⟩ := e5
        rw [← ht, List.getElem?_append_left (by omega)] at hiz
        by_cases hix : i = x
        · subst hix
          have ez : L[i] = z := by rw [hxz] at hiz; exact Option.some.inj hiz
          rw [← ez]
          exact e6 h (Nat.zero_le _) hh
        · rw [← ht]
          exact List.mem_append_left _ (hcl i z (by omega) hiz h hh))
      refine ⟨L', el', f', q0, ?_, q2, q3, q4, e5.trans q5, q6⟩
      rw [← q1]
      unfold p_CMf_X9_findElements_17
      rw [pb_t (slt_t hxl (by omega))]
      unfold p_CMf_X9_findElements_25
      rw [show f + (w + 1) * (cnt + 1) = f + w * (cnt + 1) + (cnt + 1) by rw [Nat.add_mul]; omega, e1]
      unfold p_CMf_X9_findElements_17
      rfl
    · refine ⟨L, el, f + (w + 1) * (cnt + 1), by omega, ?_, hn, hL, he, List.prefix_refl L, fun z hz h hh => ?_⟩
      · unfold p_CMf_X9_findElements_17
        rw [pb_f (slt_f (by omega) (by omega))]
      · obtain ⟨i, hi⟩ := List.getElem?_of_mem hz
        exact hcl i z (by have := (List.getElem?_eq_some_iff.mp hi).1; omega) hi h hh
end BN
