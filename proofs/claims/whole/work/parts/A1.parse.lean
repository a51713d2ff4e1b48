/-! ===== the text: all orders, read by both ===== -/
/-- the same orders -/
def agr (o : Nat) (ka na la nb : Nat → Nat) : Prop := ∀ k, k < o → ∃ kd num, ka k = kd + 1 ∧ la k = kd + 1 ∧ na k = num + 1 ∧ nb k = num + 1 ∧ (kd = 110 ∨ kd = 109 ∨ kd = 120) ∧ num < 100000
theorem agr_up {o kd num : Nat} {ka na la nb : Nat → Nat} (h : agr o ka na la nb) (hk : kd = 110 ∨ kd = 109 ∨ kd = 120) (hn : num < 100000) : agr (o + 1) (uf ka o (kd + 1)) (uf na o (num + 1)) (uf la o (kd + 1)) (uf nb o (num + 1)) := by
  intro k hk1
  by_cases e : k = o
  · exact ⟨kd, num, uf_same e, uf_same e, uf_same e, uf_same e, hk, hn⟩
  · obtain ⟨a, b, h1, h2, h3, h4, h5⟩ := h k (by omega)
    exact ⟨a, b, by rw [uf_ne e]; exact h1, by rw [uf_ne e]; exact h2, by rw [uf_ne e]; exact h3, by rw [uf_ne e]; exact h4, h5⟩
section TW
variable {t : Nat → Nat} {len : Nat}
theorem ord_both (hl : len ≤ 80) (hk : ∀ k, k < len → ∃ b, t k = b + 1 ∧ b < 128) {i o nm du sn pt c : Nat} {ka na la nb : Nat → Nat} (hi : i < len) (hc : t i = c + 1) (hc32 : c ≠ 32) (ho : o < 27) (hp1 : 1 ≤ pt) (hp5 : pt ≤ 5) (ha : agr o ka na la nb) : (∃ i2 pt2 nm2 sn2 ka2 na2 la2 nb2, P_CMf_X9_readOrder len i 4294967295 o pt t la nb = some (i2, 4294967295, o + 1, pt2, la2, nb2) ∧ i + 3 ≤ i2 ∧ i2 ≤ len ∧ 1 ≤ pt2 ∧ pt2 ≤ 5 ∧ agr (o + 1) ka2 na2 la2 nb2 ∧ ∀ res, FF t len i2 (o + 1) 0 nm2 0 sn2 pt2 ka2 na2 res → FF t len i o 0 nm du sn pt ka na res) ∨ (∃ i2 q o2 pt2 la2 nb2 rest, P_CMf_X9_readOrder len i 4294967295 o pt t la nb = some (i2, q, o2, pt2, la2, nb2) ∧ q ≤ len ∧ FF t len i o 0 nm du sn pt ka na (q, rest)) := by
  obtain ⟨i', a1, a2, a3, a4⟩ := here_ok hl hk (show i ≤ len by omega)
  have hii : i' = i := by
    rcases Nat.lt_or_ge i i' with q | q
    · have := a3 i (Nat.le_refl _) q
      rw [hc] at this
      omega
    · omega
  subst hii
  have e2 : P_CMf_X9_here len i' t = some (c, i') := by
    rcases a4 with ⟨e1, -⟩ | ⟨-, c', c1, c2, c3, e2⟩
    · omega
    · have : c' = c := by omega
      rw [← this]
      exact e2
  have h40 : P_CMf_X9_readOrder len i' 4294967295 o pt t la nb = (if c = 110 ∨ c = 109 ∨ c = 120 then p_CMf_X9_readOrder_24 len i' 4294967295 o pt t la nb c else p_CMf_X9_readOrder_28 len i' 4294967295 o pt t la nb c) := by
    unfold P_CMf_X9_readOrder p_CMf_X9_readOrder_0
    rw [po2_s e2]
    by_cases q1 : c = 110
    · rw [pb_t (by rw [q1]; exact Nat.beq_refl _), if_pos (Or.inl q1)]
    · rw [pb_f (be_f q1)]
      unfold p_CMf_X9_readOrder_12
      by_cases q2 : c = 109
      · rw [pb_t (by rw [q2]; exact Nat.beq_refl _), if_pos (Or.inr (Or.inl q2))]
      · rw [pb_f (be_f q2)]
        unfold p_CMf_X9_readOrder_18
        by_cases q3 : c = 120
        · rw [pb_t (by rw [q3]; exact Nat.beq_refl _), if_pos (Or.inr (Or.inr q3))]
        · rw [pb_f (be_f q3), if_neg (by omega)]
  by_cases hlt : c = 110 ∨ c = 109 ∨ c = 120
  · rw [if_pos hlt] at h40
    have h41 : P_CMf_X9_readOrder len i' 4294967295 o pt t la nb = p_CMf_X9_readOrder_41 len (i' + 1) 4294967295 o pt t la nb c := by
      rw [h40]
      unfold p_CMf_X9_readOrder_24 p_CMf_X9_readOrder_29
      rw [po2_s (must_1 (by omega)), pb_t (Nat.beq_refl _)]
    have op : ∀ res, FF t len (i' + 1) o c 0 (if c = 109 then pt else 1) 0 pt ka na res → FF t len i' o 0 nm du sn pt ka na res := fun res h => FF_take hl hi hc hc32 (tk_open hlt) h
    rw [h41]
    unfold p_CMf_X9_readOrder_41
    rw [pq_t (bl_t (by omega))]
    by_cases hm : c = 109
    · subst hm
      rw [pb_t (Nat.beq_refl _)]
      unfold p_CMf_X9_readOrder_57
      rw [if_pos rfl] at op
      rcases move_both hl hk (o := o) (ka := ka) (na := na) hp5 hp1 (by omega) pt 11 (i' + 1) 0 0 0 (by omega) (by omega) (by omega) (by omega) (by omega) with ⟨code, sn', i2, b1, b2, b3, b4, b5⟩ | ⟨code, i2, q, rest, b1, b2, b3, b4⟩
      · have b1 : P_CMf_X9_readMove len (i' + 1) 4294967295 pt t = some (code, i2, 4294967295) := b1
        have h10 : 10 ^ pt ≤ 10 ^ 5 := Nat.pow_le_pow_right (by omega) hp5
        rw [po3_s b1, pq_t (bl_t (by omega))]
        rcases semi_both hl hk (i := i2) (o := o) (kd := 109) (nm := code) (sn := sn') (pt := pt) (pt2 := pt) (ka := ka) (na := na) (la := uf la o (Nat.succ 109)) (nb := uf nb o (Nat.succ code)) b3 (by omega) (by omega) with ⟨i3, s1, s2, s3, s4⟩ | ⟨i3, q, rest, s1, s2, s3⟩
        · rw [if_neg (by omega)] at s4
          exact Or.inl ⟨i3, pt, code, sn', _, _, _, _, s1, by omega, s3, hp1, hp5, agr_up ha (by omega) (by omega), fun res h => op res (b5 res (s4 res h))⟩
        · exact Or.inr ⟨i3, q, _, _, _, _, rest, s1, s2, op _ (b5 _ s3)⟩
      · have b1 : P_CMf_X9_readMove len (i' + 1) 4294967295 pt t = some (code, i2, q) := b1
        rw [po3_s b1, pq_t (bl_t (by omega))]
        obtain ⟨i3, s1⟩ := semi_x hl hk (i := i2) (o := o) (pt2 := pt) (q := q) (la := uf la o (Nat.succ 109)) (nb := uf nb o (Nat.succ code)) b2 (by omega) b3
        exact Or.inr ⟨i3, q, _, _, _, _, rest, s1, b3, op _ b4⟩
    · rw [pb_f (be_f hm)]
      rw [if_neg hm] at op
      have hkd : (c = 110 ∧ (if c = 110 then 1 else 0) = 1 ∧ (if c = 110 then 5 else 9) = 5) ∨ (c = 120 ∧ (if c = 110 then 1 else 0) = 0 ∧ (if c = 110 then 5 else 9) = 9) := by
        rcases hlt with q | q | q
        · exact Or.inl ⟨q, if_pos q, if_pos q⟩
        · omega
        · exact Or.inr ⟨q, if_neg (by omega), if_neg (by omega)⟩
      have h103 : ∀ v a f, P_CMf_X9_figure len (i' + 1) 4294967295 t (if c = 110 then 1 else 0) (if c = 110 then 5 else 9) = some (v, a, f) → p_CMf_X9_readOrder_73 len (i' + 1) 4294967295 o pt t (uf la o (Nat.succ c)) nb c = p_CMf_X9_readOrder_130 len a f o (if c = 110 then v else pt) t (uf la o (Nat.succ c)) (uf nb o (Nat.succ v)) := fun v a f hf => by
        unfold p_CMf_X9_readOrder_73
        by_cases q : c = 110
        · rw [if_pos q, if_pos q] at hf
          rw [pb_t (by rw [q]; exact Nat.beq_refl _), if_pos q]
          unfold p_CMf_X9_readOrder_87
          rw [po3_s hf]
          unfold p_CMf_X9_readOrder_103
          rw [pq_t (bl_t (by omega)), pb_t (by rw [q]; exact Nat.beq_refl _)]
          unfold p_CMf_X9_readOrder_111
          rw [pq_t (bl_t (by omega)), pn_s (v := v) (uf_same rfl)]
          rfl
        · rw [if_neg q, if_neg q] at hf
          rw [pb_f (be_f q), if_neg q]
          unfold p_CMf_X9_readOrder_96
          rw [po3_s hf]
          unfold p_CMf_X9_readOrder_103
          rw [pq_t (bl_t (by omega)), pb_f (be_f q)]
          rfl
      rcases fig_both hl hk (i := i' + 1) (o := o) (ka := ka) (na := na) (by omega) (show pt < 100 by omega) hkd (by omega) with ⟨v, i2, b1, b2, b3, b4, b5, b6⟩ | ⟨v, i2, q, rest, b1, b2, b3, b4, b5⟩
      · rw [h103 v i2 _ b1]
        have hv9 : v ≤ 9 := by
          have : (if c = 110 then 5 else 9) ≤ 9 := by split <;> omega
          omega
        rcases semi_both hl hk (i := i2) (o := o) (kd := c) (nm := v) (sn := 2 ^ v) (pt := pt) (pt2 := if c = 110 then v else pt) (ka := ka) (na := na) (la := uf la o (Nat.succ c)) (nb := uf nb o (Nat.succ v)) b3 (by omega) (by omega) with ⟨i3, s1, s2, s3, s4⟩ | ⟨i3, q, rest, s1, s2, s3⟩
        · refine Or.inl ⟨i3, if c = 110 then v else pt, v, 2 ^ v, _, _, _, _, s1, by omega, s3, ?_, ?_, agr_up ha hlt (by omega), fun res h => op res (b6 res (s4 res h))⟩
          · by_cases q : c = 110
            · rw [if_pos q] at b4 ⊢
              exact b4
            · rw [if_neg q]
              exact hp1
          · by_cases q : c = 110
            · rw [if_pos q] at b5 ⊢
              exact b5
            · rw [if_neg q]
              exact hp5
        · exact Or.inr ⟨i3, q, _, _, _, _, rest, s1, s2, op _ (b6 _ s3)⟩
      · rw [h103 v i2 _ b1]
        obtain ⟨i3, s1⟩ := semi_x hl hk (i := i2) (o := o) (pt2 := if c = 110 then v else pt) (q := q) (la := uf la o (Nat.succ c)) (nb := uf nb o (Nat.succ v)) b2 (by omega) b3
        exact Or.inr ⟨i3, q, _, _, _, _, rest, s1, b3, op _ b5⟩
  · rw [if_neg hlt] at h40
    refine Or.inr ⟨i', i', o, pt, la, nb, _, ?_, by omega, FF_fail hl hi hc hc32 (tk_noopen (by omega) (by omega) (by omega))⟩
    rw [h40]
    unfold p_CMf_X9_readOrder_28 p_CMf_X9_readOrder_29
    rw [po2_s must_0, pb_f (be_f (by omega))]
    rfl
theorem rdj1 (k : Nat) : (pj_CMf_X9_reads (k + 1)).1 = p_CMf_X9_reads_41 (pj_CMf_X9_reads k) := by rw [pjs_CMf_X9_reads]
/-- all of the text: the same fault, or the same orders -/
theorem parse_both (hl : len ≤ 80) (hk : ∀ k, k < len → ∃ b, t k = b + 1 ∧ b < 128) {pasts lai : Nat} {now held past : Nat → Nat} : ∀ (w f F i o nm du sn pt : Nat) (ka na la nb : Nat → Nat), i + w = len → w + f ≤ F → 3 * o ≤ i → 1 ≤ pt → pt ≤ 5 → agr o ka na la nb → (0 < o ∨ ∃ k, i ≤ k ∧ k < len ∧ t k ≠ 33) → (∃ f' at2 o2 pt2 la2 nb2 ka2 na2 a b c d e, f ≤ f' ∧ p_CMf_X9_reads_41 (pj_CMf_X9_reads F) pasts lai len i 4294967295 o pt now held past t la nb = p_CMf_X9_reads_64 (pj_CMf_X9_reads f') pasts lai at2 4294967295 o2 pt2 now held past t la2 nb2 ∧ 0 < o2 ∧ o2 ≤ 27 ∧ agr o2 ka2 na2 la2 nb2 ∧ FF t len i o 0 nm du sn pt ka na (4294967295, o2, a, b, c, d, e, ka2, na2)) ∨ (∃ f' at2 q o2 pt2 la2 nb2 rest, f ≤ f' ∧ p_CMf_X9_reads_41 (pj_CMf_X9_reads F) pasts lai len i 4294967295 o pt now held past t la nb = p_CMf_X9_reads_64 (pj_CMf_X9_reads f') pasts lai at2 q o2 pt2 now held past t la2 nb2 ∧ q ≤ len ∧ FF t len i o 0 nm du sn pt ka na (q, rest)) := by
  intro w
  induction w using Nat.strongRecOn with
  | ind w ih =>
    intro f F i o nm du sn pt ka na la nb hi hF ho hp1 hp5 ha hpos
    obtain ⟨i', a1, a2, a3, a4⟩ := here_ok hl hk (show i ≤ len by omega)
    have skip : ∀ res, FF t len i' o 0 nm du sn pt ka na res → FF t len i o 0 nm du sn pt ka na res := fun res h => FF_skip hl (i' - i) i (by omega) (fun k h1 h2 => a3 k h1 (by omega)) (by rw [show i + (i' - i) = i' by omega]; exact h)
    rcases a4 with ⟨e1, e2⟩ | ⟨e1, c, c1, c2, c3, e2⟩
    · have h0 : 0 < o := by
        rcases hpos with h | ⟨k, k1, k2, k3⟩
        · exact h
        · exact absurd (a3 k k1 (by omega)) k3
      left
      refine ⟨F, len, o, pt, la, nb, ka, na, 0, nm, du, sn, pt, by omega, ?_, h0, by omega, ha, skip _ (by
        have := FF_end (t := t) (o := o) (kd := 0) (nm := nm) (du := du) (sn := sn) (pt := pt) (ka := ka) (na := na) hl e1 (by omega)
        rw [if_pos ⟨rfl, h0⟩] at this
        exact this)⟩
      unfold p_CMf_X9_reads_41
      rw [pb_t (Nat.beq_refl _)]
      unfold p_CMf_X9_reads_49
      rw [po2_s e2, pb_t (Nat.beq_refl _)]
    · have step : ∀ (r : Nat × Nat × Nat × Nat × (Nat → Nat) × (Nat → Nat)), P_CMf_X9_readOrder len i' 4294967295 o pt t la nb = some r → ∀ F', F = F' + 1 → p_CMf_X9_reads_41 (pj_CMf_X9_reads F) pasts lai len i 4294967295 o pt now held past t la nb = p_CMf_X9_reads_41 (pj_CMf_X9_reads F') pasts lai len r.1 r.2.1 r.2.2.1 r.2.2.2.1 now held past t r.2.2.2.2.1 r.2.2.2.2.2 := fun r hr F' hF' => by
        subst hF'
        rw [show p_CMf_X9_reads_41 (pj_CMf_X9_reads (F' + 1)) pasts lai len i 4294967295 o pt now held past t la nb = p_CMf_X9_reads_57 (pj_CMf_X9_reads (F' + 1)) pasts lai len i' 4294967295 o pt now held past t la nb by
          unfold p_CMf_X9_reads_41
          rw [pb_t (Nat.beq_refl _)]
          unfold p_CMf_X9_reads_49
          rw [po2_s e2, pb_f (be_f (by omega))]]
        unfold p_CMf_X9_reads_57
        rw [hr, rdj1]
        rfl
      obtain ⟨F', hF'⟩ : ∃ F', F = F' + 1 := ⟨F - 1, by omega⟩
      have ho26 : o < 27 := by omega
      · rcases ord_both hl hk (nm := nm) (du := du) (sn := sn) e1 c3 c1 ho26 hp1 hp5 ha with ⟨i2, pt2, nm2, sn2, ka2, na2, la2, nb2, q1, q2, q3, q4, q5, q6, q7⟩ | ⟨i2, q, o2, pt2, la2, nb2, rest, q1, q2, q3⟩
        · have s1 := step _ q1 F' hF'
          rcases ih (len - i2) (by omega) f F' i2 (o + 1) nm2 0 sn2 pt2 ka2 na2 la2 nb2 (by omega) (by omega) (by omega) q4 q5 q6 (Or.inl (by omega)) with ⟨f', at2, o2, pt3, la3, nb3, ka3, na3, b1, b2, b3, b4, b5, z1, z2, z3, z4, z5, z6⟩ | ⟨f', at2, q, o2, pt3, la3, nb3, rest, z1, z2, z3, z4⟩
          · exact Or.inl ⟨f', at2, o2, pt3, la3, nb3, ka3, na3, b1, b2, b3, b4, b5, z1, s1.trans z2, z3, z4, z5, skip _ (q7 _ z6)⟩
          · exact Or.inr ⟨f', at2, q, o2, pt3, la3, nb3, rest, z1, s1.trans z2, z3, skip _ (q7 _ z4)⟩
        · have s1 := step _ q1 F' hF'
          refine Or.inr ⟨F', i2, q, o2, pt2, la2, nb2, rest, by omega, s1.trans ?_, q2, skip _ q3⟩
          unfold p_CMf_X9_reads_41
          rw [pb_f (be_f (by show q ≠ 4294967295; omega))]
end TW
