/-! ===== the class: makeAll ===== -/
theorem mkj1 (k : Nat) : (pj_CXf_X0_makeAll_23 (k + 1)).1 = p_CXf_X0_makeAll_23_15 (pj_CXf_X0_makeAll_23 k) := by rw [pjs_CXf_X0_makeAll_23]
theorem mkj2 (k : Nat) : (pj_CXf_X0_makeAll_23 (k + 1)).2.1 = p_CXf_X0_makeAll_23_42 (pj_CXf_X0_makeAll_23 k) := by rw [pjs_CXf_X0_makeAll_23]
theorem mkj3 (k : Nat) : (pj_CXf_X0_makeAll_23 (k + 1)).2.2.1 = p_CXf_X0_makeAll_23_58 (pj_CXf_X0_makeAll_23 k) := by rw [pjs_CXf_X0_makeAll_23]
theorem mkj4 (k : Nat) : (pj_CXf_X0_makeAll_23 (k + 1)).2.2.2 = p_CXf_X0_makeAll_23_66 (pj_CXf_X0_makeAll_23 k) := by rw [pjs_CXf_X0_makeAll_23]
section BY
variable {N n : Nat} {dig : Nat → Nat → Nat} {key code : Nat → Nat} {M : Nat → Nat → Nat}
theorem mk_p (G : GF N n dig key code M) {L : List Nat} {fg gn ck : Nat → Nat} (hf : figR N dig L fg) {x z o g cnt a : Nat} (hx : L[x]? = some z) (hx1 : x < 120) (hz : z < n) (ha : a < n) (hg : g < 3) (hgn : ∀ p, p < N → gn (5 * g + p) = dig a p + 1) : ∀ (w f p : Nat) (m : Nat → Nat), p + w = N → (∀ q, q < p → m q = dig (M z a) q + 1) → ∃ m', p_CXf_X0_makeAll_23_66 (pj_CXf_X0_makeAll_23 (f + w)) o N fg gn ck m cnt x g p = p_CXf_X0_makeAll_23_108 (pj_CXf_X0_makeAll_23 f) o N fg gn ck m' cnt x g ∧ ∀ q, q < N → m' q = dig (M z a) q + 1
  | 0, f, p, m, hp, hm => by
    have e : p = N := by omega
    subst e
    refine ⟨m, ?_, hm⟩
    unfold p_CXf_X0_makeAll_23_66
    rw [pb_f (slt_f (Nat.le_refl _) (by have := G.2.1; omega))]
    rfl
  | w + 1, f, p, m, hp, hm => by
    have G0 := G
    obtain ⟨h1, h5, hn1, hn2, hd, -, hM, -⟩ := G0
    have hdp := hd z hz p (by omega)
    obtain ⟨m', e1, e2⟩ := mk_p G hf (o := o) (cnt := cnt) (ck := ck) hx hx1 hz ha hg hgn w f (p + 1) (uf m p (Nat.succ (dig a (dig z p)))) (by omega) (fun q hq => by
      by_cases hqp : q = p
      · subst hqp
        rw [uf_same rfl, (hM z a hz ha).2 q (by omega)]
      · rw [uf_ne hqp]
        exact hm q (by omega))
    refine ⟨m', ?_, e2⟩
    unfold p_CXf_X0_makeAll_23_66
    rw [pb_t (slt_t (by omega) (by omega))]
    unfold p_CXf_X0_makeAll_23_75
    rw [ks (nm (by omega)), ks (nm (by omega)), ks (na (by omega)), pq_t (bl_t (by omega)), pn_s (v := dig z p) (by rw [Nat.mul_comm x 5]; exact hf x z p hx (by omega)), ks (na (by omega)), pq_t (bl_t (by omega)), pn_s (v := dig a (dig z p)) (by rw [Nat.mul_comm g 5]; exact hgn _ (by omega)), pq_t (bl_t (by omega)), ks (ninc (by omega)), show f + (w + 1) = (f + w) + 1 from rfl, mkj4]
    exact e1
/-- between two steps -/
def bfS (N n : Nat) (dig : Nat → Nat → Nat) (key code : Nat → Nat) (L : List Nat) (fg ck : Nat → Nat) : Prop := L.Nodup ∧ (∀ z ∈ L, z < n) ∧ figR N dig L fg ∧ cakR key code L ck
theorem bf_add {L : List Nat} {z : Nat} (hn : L.Nodup) (hL : ∀ y ∈ L, y < n) (hz : z < n) : (if z ∈ L then L else L ++ [z]).Nodup ∧ (∀ y ∈ (if z ∈ L then L else L ++ [z]), y < n) ∧ z ∈ (if z ∈ L then L else L ++ [z]) ∧ L <+: (if z ∈ L then L else L ++ [z]) := by
  by_cases h : z ∈ L
  · rw [if_pos h]
    exact ⟨hn, hL, h, List.prefix_refl L⟩
  · rw [if_neg h]
    refine ⟨List.nodup_append.mpr ⟨hn, by simp, fun a ha b hb => by rw [List.mem_singleton.mp hb]; exact fun e => h (e ▸ ha)⟩, fun y hy => ?_, by simp, List.prefix_append L [z]⟩
    rcases List.mem_append.mp hy with q | q
    · exact hL y q
    · rw [List.mem_singleton.mp q]
      exact hz
theorem mk_g (G : GF N n dig key code M) {gn : Nat → Nat} {a : Nat → Nat} {cnt : Nat} (hc3 : cnt ≤ 3) (ha : ∀ g, g < cnt → a g < n) (hgn : ∀ g, g < cnt → ∀ p, p < N → gn (5 * g + p) = dig (a g) p + 1) {x z : Nat} (hx1 : x < 120) (hz : z < n) : ∀ (w f g : Nat) (L : List Nat) (fg ck m : Nat → Nat), g + w = cnt → bfS N n dig key code L fg ck → L[x]? = some z → ∃ L' fg' ck' m', p_CXf_X0_makeAll_23_58 (pj_CXf_X0_makeAll_23 (f + (w * (N + 1) + 1))) L.length N fg gn ck m cnt x g = p_CXf_X0_makeAll_23_42 (pj_CXf_X0_makeAll_23 f) L'.length N fg' gn ck' m' cnt (x + 1) ∧ bfS N n dig key code L' fg' ck' ∧ L <+: L' ∧ ∀ h, g ≤ h → h < cnt → M z (a h) ∈ L'
  | 0, f, g, L, fg, ck, m, hg, hS, hx => by
    refine ⟨L, fg, ck, m, ?_, hS, List.prefix_refl L, fun h q1 q2 => by omega⟩
    unfold p_CXf_X0_makeAll_23_58
    rw [pb_f (slt_f (by omega) (by omega))]
    unfold p_CXf_X0_makeAll_23_118
    rw [ks (ninc (by omega)), show f + (0 * (N + 1) + 1) = f + 1 by omega, mkj2]
  | w + 1, f, g, L, fg, ck, m, hg, hS, hx => by
    obtain ⟨hn, hL, hf, hk⟩ := hS
    have hag := ha g (by omega)
    have hMz := (G.2.2.2.2.2.2.1 z (a g) hz hag).1
    obtain ⟨m1, e1, e2⟩ := mk_p G (ck := ck) (o := L.length) (cnt := cnt) hf hx hx1 hz hag (by omega) (hgn g (by omega)) N (f + (w * (N + 1) + 1) + 1) 0 m (by omega) (fun q hq => by omega)
    obtain ⟨fg1, ck1, e3, e4, e5⟩ := add_ok G hn hL hf hk hMz e2
    obtain ⟨b1, b2, b3, b4⟩ := bf_add hn hL hMz
    have hx' : (if M z (a g) ∈ L then L else L ++ [M z (a g)])[x]? = some z := by
      obtain ⟨t, ht⟩ := b4
      rw [← ht, List.getElem?_append_left (List.getElem?_eq_some_iff.mp hx).1]
      exact hx
    obtain ⟨L', fg', ck', m', q1, q2, q3, q4⟩ := mk_g G hc3 ha hgn hx1 hz w f (g + 1) _ fg1 ck1 m1 (by omega) ⟨b1, b2, e4, e5⟩ hx'
    refine ⟨L', fg', ck', m', ?_, q2, b4.trans q3, fun h r1 r2 => ?_⟩
    · unfold p_CXf_X0_makeAll_23_58
      rw [pb_t (slt_t (by omega) (by omega))]
      unfold p_CXf_X0_makeAll_23_63
      rw [show f + ((w + 1) * (N + 1) + 1) = f + (w * (N + 1) + 1) + 1 + N by rw [Nat.add_mul]; omega, e1]
      unfold p_CXf_X0_makeAll_23_108
      rw [po3_s e3, ks (ninc (by omega)), mkj3]
      exact q1
    · by_cases hh : h = g
      · subst hh
        exact q3.subset b3
      · exact q4 h (by omega) r2
theorem mk_x (G : GF N n dig key code M) {gn : Nat → Nat} {a : Nat → Nat} {cnt : Nat} (hc3 : cnt ≤ 3) (ha : ∀ g, g < cnt → a g < n) (hgn : ∀ g, g < cnt → ∀ p, p < N → gn (5 * g + p) = dig (a g) p + 1) : ∀ (w f x : Nat) (L : List Nat) (fg ck m : Nat → Nat), n ≤ x + w → x ≤ L.length → bfS N n dig key code L fg ck → (∀ i z, i < x → L[i]? = some z → ∀ h, h < cnt → M z (a h) ∈ L) → ∃ L' fg' ck' m', p_CXf_X0_makeAll_23_42 (pj_CXf_X0_makeAll_23 (f + w * (cnt * (N + 1) + 1))) L.length N fg gn ck m cnt x = some (L'.length, fg', ck', m') ∧ bfS N n dig key code L' fg' ck' ∧ L <+: L' ∧ ∀ z ∈ L', ∀ h, h < cnt → M z (a h) ∈ L' := by
  intro w
  induction w with
  | zero =>
    intro f x L fg ck m hw hx hS hcl
    have hlen := nodup_le n L hS.1 hS.2.1
    have hn2 := G.2.2.2.1
    refine ⟨L, fg, ck, m, ?_, hS, List.prefix_refl L, fun z hz h hh => ?_⟩
    · unfold p_CXf_X0_makeAll_23_42
      rw [pb_f (slt_f (by omega) (by omega))]
      rfl
    · obtain ⟨i, hi⟩ := List.getElem?_of_mem hz
      exact hcl i z (by have := (List.getElem?_eq_some_iff.mp hi).1; omega) hi h hh
  | succ w ih =>
    intro f x L fg ck m hw hx hS hcl
    have hlen := nodup_le n L hS.1 hS.2.1
    have hn2 := G.2.2.2.1
    by_cases hxl : x < L.length
    · have hxz := List.getElem?_eq_getElem hxl
      have hz := hS.2.1 _ (List.getElem_mem hxl)
      obtain ⟨L1, fg1, ck1, m1, e1, e2, e3, e4⟩ := mk_g G hc3 ha hgn (x := x) (by omega) hz cnt (f + w * (cnt * (N + 1) + 1)) 0 L fg ck m (by omega) hS hxz
      have hlt1 : L.length ≤ L1.length := e3.length_le
      obtain ⟨L', fg', ck', m', q1, q2, q3, q4⟩ := ih f (x + 1) L1 fg1 ck1 m1 (by omega) (by omega) e2 (fun i z hi hiz h hh => by
        obtain ⟨t, ht⟩ := e3
        rw [← ht, List.getElem?_append_left (by omega)] at hiz
        by_cases hix : i = x
        · subst hix
          have ez : L[i] = z := by rw [hxz] at hiz; exact Option.some.inj hiz
          rw [← ez]
          exact e4 h (Nat.zero_le _) hh
        · rw [← ht]
          exact List.mem_append_left _ (hcl i z (by omega) hiz h hh))
      refine ⟨L', fg', ck', m', ?_, q2, e3.trans q3, q4⟩
      unfold p_CXf_X0_makeAll_23_42
      rw [pb_t (slt_t hxl (by omega))]
      unfold p_CXf_X0_makeAll_23_50
      rw [pb_t (slt_t (by omega) (by omega))]
      unfold p_CXf_X0_makeAll_23_56
      rw [show f + (w + 1) * (cnt * (N + 1) + 1) = f + w * (cnt * (N + 1) + 1) + (cnt * (N + 1) + 1) by rw [Nat.add_mul]; omega, e1]
      exact q1
    · refine ⟨L, fg, ck, m, ?_, hS, List.prefix_refl L, fun z hz h hh => ?_⟩
      · unfold p_CXf_X0_makeAll_23_42
        rw [pb_f (slt_f (by omega) (by omega))]
        rfl
      · obtain ⟨i, hi⟩ := List.getElem?_of_mem hz
        exact hcl i z (by have := (List.getElem?_eq_some_iff.mp hi).1; omega) hi h hh
theorem mk_i (h5 : N ≤ 5) {gn : Nat → Nat} {cnt : Nat} {fg ck : Nat → Nat} : ∀ (w f p : Nat) (m : Nat → Nat), p + w = N → (∀ q, q < p → m q = q + 1) → ∃ m', p_CXf_X0_makeAll_23_15 (pj_CXf_X0_makeAll_23 (f + w)) 0 N fg gn ck m cnt p = p_CXf_X0_makeAll_23_36 (pj_CXf_X0_makeAll_23 f) 0 N fg gn ck m' cnt ∧ ∀ q, q < N → m' q = q + 1
  | 0, f, p, m, hp, hm => by
    have e : p = N := by omega
    subst e
    refine ⟨m, ?_, hm⟩
    unfold p_CXf_X0_makeAll_23_15
    rw [pb_f (slt_f (Nat.le_refl _) (by omega))]
    rfl
  | w + 1, f, p, m, hp, hm => by
    obtain ⟨m', e1, e2⟩ := mk_i h5 w f (p + 1) (uf m p (Nat.succ p)) (by omega) (fun q hq => by
      by_cases hqp : q = p
      · rw [uf_same hqp, hqp]
      · rw [uf_ne hqp]
        exact hm q (by omega))
    refine ⟨m', ?_, e2⟩
    unfold p_CXf_X0_makeAll_23_15
    rw [pb_t (slt_t (by omega) (by omega))]
    unfold p_CXf_X0_makeAll_23_23
    rw [pq_t (bl_t (by omega)), ks (ninc (by omega)), show f + (w + 1) = (f + w) + 1 from rfl, mkj1]
    exact e1
/-- makeAll: a list with place 0 that the generators don't lead out of -/
theorem makeAll_ok (G : GF N n dig key code M) {gn : Nat → Nat} {a : Nat → Nat} {cnt : Nat} (hc3 : cnt ≤ 3) (ha : ∀ g, g < cnt → a g < n) (hgn : ∀ g, g < cnt → ∀ p, p < N → gn (5 * g + p) = dig (a g) p + 1) (fg ck m : Nat → Nat) : ∃ L fg' ck' m', P_CXf_X0_makeAll_23 N fg gn ck m cnt = some (L.length, fg', ck', m') ∧ L.Nodup ∧ (∀ z ∈ L, z < n) ∧ cakR key code L ck' ∧ 0 ∈ L ∧ ∀ z ∈ L, ∀ h, h < cnt → M z (a h) ∈ L := by
  obtain ⟨ck0, f1, f2⟩ := fill_ok ck 4294967295
  have h5 := G.2.1
  have hn1 := G.2.2.1
  have hc19 : cnt * (N + 1) + 1 ≤ 19 := by
    have : cnt * (N + 1) ≤ 3 * 6 := Nat.mul_le_mul hc3 (by omega)
    omega
  have hb : n * (cnt * (N + 1) + 1) ≤ 120 * 19 := Nat.mul_le_mul G.2.2.2.1 hc19
  obtain ⟨m1, i1, i2⟩ := mk_i (N := N) h5 (gn := gn) (cnt := cnt) (fg := fg) (ck := ck0) N (6000 - N) 0 m (by omega) (fun q hq => by omega)
  obtain ⟨fg1, ck1, e1, e2, e3⟩ := add_ok G (L := []) List.nodup_nil (fun z hz => by cases hz) (f := fg) (c := ck0) (fun i z p hi _ => by simp at hi) (fun k hk => Or.inr ⟨fun z hz => absurd hz List.not_mem_nil, f2 k hk⟩) (z := 0) (by omega) (m := m1) (fun p hp => by rw [i2 p hp, G.2.2.2.2.2.1 p hp])
  rw [if_neg (by simp)] at e1 e2 e3
  obtain ⟨L, fg2, ck2, m2, q1, q2, q3, q4⟩ := mk_x G hc3 ha hgn n (6000 - N - n * (cnt * (N + 1) + 1)) 0 [0] fg1 ck1 m1 (by omega) (Nat.zero_le _) ⟨by simp, fun z hz => by rw [List.mem_singleton.mp hz]; omega, e2, e3⟩ (fun i z hi => by omega)
  refine ⟨L, fg2, ck2, m2, ?_, q2.1, q2.2.1, q2.2.2.2, q3.subset (by simp), q4⟩
  unfold P_CXf_X0_makeAll_23 p_CXf_X0_makeAll_23_0
  rw [po1_s f1]
  have e6 : (6000 : Nat) = 6000 - N + N := by omega
  rw [e6, i1]
  unfold p_CXf_X0_makeAll_23_36
  have e1 : P_CXf_X0_addMade_23 0 N fg ck0 m1 = some (1, fg1, ck1) := e1
  rw [po3_s e1]
  rw [show 6000 - N - n * (cnt * (N + 1) + 1) + n * (cnt * (N + 1) + 1) = 6000 - N by omega] at q1
  exact q1
end BY
