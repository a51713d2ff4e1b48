/-! ===== which numbers are moves ===== -/
theorem slt_neg {a b : Nat} (h : 2147483648 ≤ a) (ha : a < 4294967296) (hb : b < 2147483648) : s_lt a b = true := by
  show Nat.blt ((a + 2147483648) % 4294967296) ((b + 2147483648) % 4294967296) = true
  rw [show a + 2147483648 = (a - 2147483648) + 4294967296 by omega, Nat.add_mod_right, Nat.mod_eq_of_lt (by omega), Nat.mod_eq_of_lt (by omega)]
  exact bl_t (by omega)
/-- the figures that are there, as bits -/
def snb (d : Nat → Nat) : Nat → Nat
  | 0 => 0
  | k + 1 => Nat.lor (snb d k) (Nat.pow 2 (d k))
theorem snb_lt {d : Nat → Nat} : ∀ k, (∀ p, p < k → d p < 10) → snb d k < 2 ^ 10
  | 0, _ => Nat.pow_pos (by omega)
  | k + 1, h => by
    show (snb d k ||| 2 ^ d k) < 2 ^ 10
    exact Nat.or_lt_two_pow (snb_lt k (fun p hp => h p (by omega))) (Nat.pow_lt_pow_right (by omega) (h k (by omega)))
theorem snb_bit {d : Nat → Nat} : ∀ k p, p < k → (snb d k).testBit (d p) = true
  | k + 1, p, hp => by
    show (snb d k ||| 2 ^ d k).testBit (d p) = true
    rw [Nat.testBit_or]
    by_cases e : p = k
    · subst e
      simp [Nat.testBit_two_pow_self]
    · rw [snb_bit k p (by omega)]
      rfl
noncomputable def bitsOk (N c : Nat) : Nat := Bool.rec 0 1 (Nat.beq (snb (dgc N c) N) (Nat.sub (Nat.pow 2 N) 1))
/-- the row of all moves of N points -/
def sNof (N : Nat) : Nat := [0, 0, 2, 8, 38, 194].getD N 0
noncomputable def chkc (N c : Nat) : Option Unit := po1 (P_CX_X5_isMove_3 N c) fun b => eqs b (bitsOk N c) <| pg_eq (some ()) (atc (rw_ (sNof N)) N c fun _ => some ()) b
theorem vok1 : (alN 1 fun a => chkc 1 a).isSome = true := by decide +kernel
theorem vok2 : (alN 2 fun a => alN 2 fun b => chkc 2 (Nat.add (Nat.mul 10 a) b)).isSome = true := by decide +kernel
theorem vok3 : (alN 3 fun a => alN 3 fun b => alN 3 fun c => chkc 3 (Nat.add (Nat.mul 10 (Nat.add (Nat.mul 10 a) b)) c)).isSome = true := by decide +kernel
theorem vok4 : (alN 4 fun a => alN 4 fun b => alN 4 fun c => alN 4 fun d => chkc 4 (Nat.add (Nat.mul 10 (Nat.add (Nat.mul 10 (Nat.add (Nat.mul 10 a) b)) c)) d)).isSome = true := by decide +kernel
theorem vok5 : (alN 5 fun a => alN 5 fun b => alN 5 fun c => alN 5 fun d => alN 5 fun e => chkc 5 (Nat.add (Nat.mul 10 (Nat.add (Nat.mul 10 (Nat.add (Nat.mul 10 (Nat.add (Nat.mul 10 a) b)) c)) d)) e)).isSome = true := by decide +kernel
theorem vok {N c : Nat} (h1 : 1 ≤ N) (h5 : N ≤ 5) (hc : c < 10 ^ N) (hd : ∀ p, p < N → dgc N c p < N) : chkc N c = some () := by
  have hs := cfold_self hc
  obtain rfl | rfl | rfl | rfl | rfl : N = 1 ∨ N = 2 ∨ N = 3 ∨ N = 4 ∨ N = 5 := by omega
  · have := alN_some _ (isS vok1) (dgc 1 c 0) (hd 0 (by omega))
    rw [show dgc 1 c 0 = c by simpa [cfold] using hs] at this
    exact this
  · have := alN_some _ (alN_some _ (isS vok2) (dgc 2 c 0) (hd 0 (by omega))) (dgc 2 c 1) (hd 1 (by omega))
    rw [show Nat.add (Nat.mul 10 (dgc 2 c 0)) (dgc 2 c 1) = c by simpa [cfold] using hs] at this
    exact this
  · have := alN_some _ (alN_some _ (alN_some _ (isS vok3) (dgc 3 c 0) (hd 0 (by omega))) (dgc 3 c 1) (hd 1 (by omega))) (dgc 3 c 2) (hd 2 (by omega))
    rw [show Nat.add (Nat.mul 10 (Nat.add (Nat.mul 10 (dgc 3 c 0)) (dgc 3 c 1))) (dgc 3 c 2) = c by simpa [cfold] using hs] at this
    exact this
  · have := alN_some _ (alN_some _ (alN_some _ (alN_some _ (isS vok4) (dgc 4 c 0) (hd 0 (by omega))) (dgc 4 c 1) (hd 1 (by omega))) (dgc 4 c 2) (hd 2 (by omega))) (dgc 4 c 3) (hd 3 (by omega))
    rw [show Nat.add (Nat.mul 10 (Nat.add (Nat.mul 10 (Nat.add (Nat.mul 10 (dgc 4 c 0)) (dgc 4 c 1))) (dgc 4 c 2))) (dgc 4 c 3) = c by simpa [cfold] using hs] at this
    exact this
  · have := alN_some _ (alN_some _ (alN_some _ (alN_some _ (alN_some _ (isS vok5) (dgc 5 c 0) (hd 0 (by omega))) (dgc 5 c 1) (hd 1 (by omega))) (dgc 5 c 2) (hd 2 (by omega))) (dgc 5 c 3) (hd 3 (by omega))) (dgc 5 c 4) (hd 4 (by omega))
    rw [show Nat.add (Nat.mul 10 (Nat.add (Nat.mul 10 (Nat.add (Nat.mul 10 (Nat.add (Nat.mul 10 (dgc 5 c 0)) (dgc 5 c 1))) (dgc 5 c 2))) (dgc 5 c 3))) (dgc 5 c 4) = c by simpa [cfold] using hs] at this
    exact this
/-- the class says no, where a figure is no point or there are too many -/
theorem cl_no {N c : Nat} (h5 : N ≤ 5) (hc : c < 2147483648) : ∀ (w f p sn : Nat), p + w = N → w < f → sn < 32 → ((∃ q, p ≤ q ∧ q < N ∧ N ≤ c / 10 ^ q % 10) ∨ 10 ^ N ≤ c) → pj_CX_X5_isMove_3 f N (c / 10 ^ p) sn p = some 0
  | 0, f + 1, p, sn, hp, _, hs, hb => by
    have e : p = N := by omega
    subst e
    show p_CX_X5_isMove_3_13 _ p _ sn p = _
    unfold p_CX_X5_isMove_3_13
    rw [pb_f (slt_f (Nat.le_refl _) (by omega))]
    unfold p_CX_X5_isMove_3_66
    have h0 : c / 10 ^ p ≠ 0 := by
      rcases hb with ⟨q, h1, h2, -⟩ | hb
      · omega
      · have := Nat.div_pos hb (Nat.pow_pos (by omega))
        omega
    rw [pgeq_s h0]
    rfl
  | w + 1, f + 1, p, sn, hp, hf, hs, hb => by
    have hc2 : c / 10 ^ p < 2147483648 := Nat.lt_of_le_of_lt (Nat.div_le_self _ _) hc
    show p_CX_X5_isMove_3_13 (pj_CX_X5_isMove_3 f) N _ sn p = _
    unfold p_CX_X5_isMove_3_13
    rw [pb_t (slt_t (by omega) (by omega))]
    unfold p_CX_X5_isMove_3_22
    rw [ks (nrm hc2)]
    by_cases hx : c / 10 ^ p % 10 < N
    · rw [pb_t (slt_t hx (by omega))]
      unfold p_CX_X5_isMove_3_37
      rw [pq_t (bl_t (by omega)), pq_t (bl_t (by omega)), kseq_eq, kseq_eq]
      generalize n_and _ 1 = z
      by_cases hz : z = 0
      · rw [pgeq_0 hz]
        unfold p_CX_X5_isMove_3_48
        have hp2 : 2 ^ (c / 10 ^ p % 10) < 2 ^ 5 := Nat.pow_lt_pow_right (by omega) (by omega)
        rw [pq_t (bl_t (by omega)), ks (show Nat.mod (Nat.mul 1 (Nat.pow 2 (c / 10 ^ p % 10))) 4294967296 = 2 ^ (c / 10 ^ p % 10) from by
          show (1 * 2 ^ (c / 10 ^ p % 10)) % 4294967296 = _
          rw [Nat.one_mul]
          exact Nat.mod_eq_of_lt (by omega)), ks (rfl : n_or sn (2 ^ (c / 10 ^ p % 10)) = sn ||| 2 ^ (c / 10 ^ p % 10)), ks (ndv hc2), ks (ninc (by omega)), Nat.div_div_eq_div_mul, ← Nat.pow_succ]
        refine cl_no h5 hc w f (p + 1) _ (by omega) (by omega) (Nat.or_lt_two_pow (n := 5) hs hp2) ?_
        rcases hb with ⟨q, q1, q2, q3⟩ | hb
        · refine Or.inl ⟨q, ?_, q2, q3⟩
          have : q ≠ p := fun e => by rw [e] at q3; omega
          omega
        · exact Or.inr hb
      · rw [pgeq_s hz]
        rfl
    · rw [pb_f (slt_f (by omega) (by omega))]
      rfl
theorem imj1 (k : Nat) : (pj_CMf_X9_isMove (k + 1)).1 = p_CMf_X9_isMove_4 (pj_CMf_X9_isMove k) := by rw [pjs_CMf_X9_isMove]
theorem imj2 (k : Nat) : (pj_CMf_X9_isMove (k + 1)).2 = p_CMf_X9_isMove_43 (pj_CMf_X9_isMove k) := by rw [pjs_CMf_X9_isMove]
section IM
variable {N : Nat} {nw : Nat → Nat}
theorem im_a (h5 : N ≤ 5) (h0 : nw 0 = N + 1) {c : Nat} : ∀ (w f p : Nat), p + w = N → p_CMf_X9_isMove_4 (pj_CMf_X9_isMove (f + w)) nw c (10 ^ p) p = p_CMf_X9_isMove_25 (pj_CMf_X9_isMove f) nw c (10 ^ N)
  | 0, f, p, hp => by
    unfold p_CMf_X9_isMove_4
    rw [pq_t (bl_t (by omega)), pn_s h0, pb_f (slt_f (by omega) (by omega)), show p = N by omega]
    rfl
  | w + 1, f, p, hp => by
    have h4 : 10 ^ p ≤ 10 ^ 5 := Nat.pow_le_pow_right (by omega) (by omega)
    rw [← im_a h5 h0 w f (p + 1) (by omega)]
    rw [show p_CMf_X9_isMove_4 (pj_CMf_X9_isMove (f + (w + 1))) nw c (10 ^ p) p = p_CMf_X9_isMove_14 (pj_CMf_X9_isMove (f + (w + 1))) nw c (10 ^ p) p by
      unfold p_CMf_X9_isMove_4
      rw [pq_t (bl_t (by omega)), pn_s h0, pb_t (slt_t (by omega) (by omega))]]
    unfold p_CMf_X9_isMove_14
    rw [ks (nm (by omega)), ks (ninc (by omega)), show f + (w + 1) = (f + w) + 1 from rfl, imj1, Nat.pow_succ]
theorem im_s (h5 : N ≤ 5) (h0 : nw 0 = N + 1) {c : Nat} (hc : c < 2147483648) : ∀ (w f p : Nat), p + w = N → p_CMf_X9_isMove_43 (pj_CMf_X9_isMove (f + w)) nw c (snb (dgc N c) p) p = p_CMf_X9_isMove_72 (pj_CMf_X9_isMove f) nw (snb (dgc N c) N)
  | 0, f, p, hp => by
    unfold p_CMf_X9_isMove_43
    rw [pq_t (bl_t (by omega)), pn_s h0, pb_f (slt_f (by omega) (by omega)), show p = N by omega]
    rfl
  | w + 1, f, p, hp => by
    have hd : dgc N c p < 10 := Nat.mod_lt _ (by omega)
    have hp2 : 2 ^ (dgc N c p) < 2 ^ 10 := Nat.pow_lt_pow_right (by omega) hd
    rw [← im_s h5 h0 hc w f (p + 1) (by omega)]
    rw [show p_CMf_X9_isMove_43 (pj_CMf_X9_isMove (f + (w + 1))) nw c (snb (dgc N c) p) p = p_CMf_X9_isMove_54 (pj_CMf_X9_isMove (f + (w + 1))) nw c (snb (dgc N c) p) p by
      unfold p_CMf_X9_isMove_43
      rw [pq_t (bl_t (by omega)), pn_s h0, pb_t (slt_t (by omega) (by omega))]]
    unfold p_CMf_X9_isMove_54
    rw [po1_s (to_ok h5 h0 (p := p) (by omega) hc), pq_t (bl_t (by omega)), ks (show Nat.mod (Nat.mul 1 (Nat.pow 2 (dgc N c p))) 4294967296 = 2 ^ (dgc N c p) from by
      show (1 * 2 ^ (dgc N c p)) % 4294967296 = _
      rw [Nat.one_mul]
      exact Nat.mod_eq_of_lt (by omega)), kseq_eq, ks (ninc (by omega)), show f + (w + 1) = (f + w) + 1 from rfl, imj2]
    rfl
theorem in_ok {c m : Nat} (hc : c < 4294967296) (hm : m < 2147483648) : P_CMf_X9_in c 0 m = some (if c ≤ m then 1 else 0) := by
  unfold P_CMf_X9_in p_CMf_X9_in_0
  by_cases h1 : 2147483648 ≤ c
  · rw [pb_t (slt_neg h1 hc (by omega)), if_neg (by omega)]
    rfl
  · rw [pb_f (slt_f (by omega) (by omega))]
    unfold p_CMf_X9_in_5
    by_cases h2 : c ≤ m
    · rw [pb_f (show s_gt c m = false from slt_f h2 hm), if_pos h2]
      rfl
    · rw [pb_t (show s_gt c m = true from slt_t (by omega) (by omega)), if_neg h2]
      rfl
theorem im_ok (h1 : 1 ≤ N) (h5 : N ≤ 5) (h0 : nw 0 = N + 1) {c : Nat} (hc : c < 4294967296) : P_CMf_X9_isMove nw c = some (if c < 10 ^ N then bitsOk N c else 0) := by
  have h4 : 10 ^ N ≤ 10 ^ 5 := Nat.pow_le_pow_right (by omega) (by omega)
  have h6 : 0 < 10 ^ N := Nat.pow_pos (by omega)
  have e1 := im_a h5 h0 (c := c) N (20 - N) 0 (by omega)
  rw [show 20 - N + N = 20 by omega] at e1
  unfold P_CMf_X9_isMove p_CMf_X9_isMove_0
  have e1 : p_CMf_X9_isMove_4 (pj_CMf_X9_isMove 20) nw c 1 0 = p_CMf_X9_isMove_25 (pj_CMf_X9_isMove (20 - N)) nw c (10 ^ N) := e1
  rw [e1]
  unfold p_CMf_X9_isMove_25
  rw [ks (nsb (by omega) (by omega)), po1_s (in_ok hc (by omega))]
  by_cases hlt : c < 10 ^ N
  · rw [if_pos (by omega), pgeq_s (by omega), if_pos hlt]
    have e2 := im_s h5 h0 (c := c) (by omega) N (20 - N - N) 0 (by omega)
    rw [show 20 - N - N + N = 20 - N by omega] at e2
    unfold p_CMf_X9_isMove_38
    have e2 : p_CMf_X9_isMove_43 (pj_CMf_X9_isMove (20 - N)) nw c 0 0 = _ := e2
    rw [e2]
    unfold p_CMf_X9_isMove_72
    have hp2 : 2 ^ N ≤ 2 ^ 5 := Nat.pow_le_pow_right (by omega) (by omega)
    have hp3 : 0 < 2 ^ N := Nat.pow_pos (by omega)
    rw [pq_t (bl_t (by omega)), pn_s h0, pq_t (bl_t (by omega)), ks (show Nat.mod (Nat.mul 1 (Nat.pow 2 N)) 4294967296 = 2 ^ N from by
      show (1 * 2 ^ N) % 4294967296 = _
      rw [Nat.one_mul]
      exact Nat.mod_eq_of_lt (by omega)), ks (nsb (by omega) (by omega))]
    unfold bitsOk
    show pb (Nat.beq (snb (dgc N c) N) (Nat.sub (Nat.pow 2 N) 1)) _ _ = _
    cases hb : Nat.beq (snb (dgc N c) N) (Nat.sub (Nat.pow 2 N) 1) with
    | true => rfl
    | false => rfl
  · rw [if_neg (by omega), pgeq_0 rfl, if_neg hlt]
    rfl
end IM
/-- both say the same; where they say yes, it is one of all moves -/
theorem move_ok {N c : Nat} (h1 : 1 ≤ N) (h5 : N ≤ 5) (hc : c < 4294967296) : ∃ b, b ≤ 1 ∧ P_CX_X5_isMove_3 N c = some b ∧ (∀ nw : Nat → Nat, nw 0 = N + 1 → P_CMf_X9_isMove nw c = some b) ∧ (b = 1 → ∃ y, y < rn (rw_ (sNof N)) ∧ rcode (rw_ (sNof N)) y = c) := by
  have h4 : 10 ^ N ≤ 10 ^ 5 := Nat.pow_le_pow_right (by omega) (by omega)
  by_cases hlt : c < 10 ^ N
  · by_cases hd : ∀ p, p < N → dgc N c p < N
    · have hv := vok h1 h5 hlt hd
      unfold chkc at hv
      obtain ⟨b, e1, hv⟩ := po1_some hv
      obtain ⟨e2, hv⟩ := eqs_some hv
      have hb : bitsOk N c ≤ 1 := by
        unfold bitsOk
        cases Nat.beq (snb (dgc N c) N) (Nat.sub (Nat.pow 2 N) 1) with
        | true => exact Nat.le_refl _
        | false => exact Nat.zero_le _
      refine ⟨b, by omega, e1, fun nw h0 => by rw [im_ok h1 h5 h0 hc, if_pos hlt, e2], fun hb1 => ?_⟩
      rw [pgeq_s (by omega)] at hv
      obtain ⟨i, i1, i2, -⟩ := atc_some hv
      exact ⟨i, i1, code_of i2⟩
    · have hd : ∃ p, p < N ∧ N ≤ dgc N c p := by
        refine Classical.byContradiction fun hn => hd fun p hp => Classical.byContradiction fun hq => hn ⟨p, hp, by omega⟩
      obtain ⟨p, hp, hpd⟩ := hd
      refine ⟨0, by omega, ?_, fun nw h0 => ?_, fun h => by omega⟩
      · unfold P_CX_X5_isMove_3 p_CX_X5_isMove_3_0
        rw [pglt_n (by omega)]
        have := cl_no (N := N) (c := c) h5 (by omega) N 11 0 0 (by omega) (by omega) (by omega) (Or.inl ⟨N - 1 - p, by omega, by omega, hpd⟩)
        rw [Nat.pow_zero, Nat.div_one] at this
        exact this
      · rw [im_ok h1 h5 h0 hc, if_pos hlt]
        unfold bitsOk
        have hb := snb_bit (d := dgc N c) N p hp
        rw [be_f (fun e => by
          rw [e] at hb
          have hb : (2 ^ N - 1).testBit (dgc N c p) = true := hb
          rw [Nat.testBit_two_pow_sub_one] at hb
          simp at hb
          omega)]
  · refine ⟨0, by omega, ?_, fun nw h0 => by rw [im_ok h1 h5 h0 hc, if_neg hlt], fun h => by omega⟩
    unfold P_CX_X5_isMove_3 p_CX_X5_isMove_3_0
    by_cases hneg : 2147483648 ≤ c
    · rw [pglt_p hneg]
      rfl
    · rw [pglt_n (by omega)]
      have := cl_no (N := N) (c := c) h5 (by omega) N 11 0 0 (by omega) (by omega) (by omega) (Or.inr (by omega))
      rw [Nat.pow_zero, Nat.div_one] at this
      exact this
/-! the sets that moves make -/
theorem sN_is : ∀ N, N < 6 → 1 ≤ N → sNof N < 195 ∧ rN (rw_ (sNof N)) = N := by decide +kernel
def g0of (N : Nat) : Nat := [0, 0, 1, 3, 9, 39].getD N 0
theorem g0_is : ∀ N, N < 6 → 1 ≤ N → g0of N < 195 ∧ rN (rw_ (g0of N)) = N ∧ rn (rw_ (g0of N)) = 1 ∧ (JDS.getD (g0of N) []).getD 0 0 = sNof N := by decide +kernel
theorem close_ok {N : Nat} (h1 : 1 ≤ N) (h5 : N ≤ 5) (y : Nat → Nat) : ∀ cnt, (∀ h, h < cnt → y h < rn (rw_ (sNof N))) → ∃ g a, g < 195 ∧ rN (rw_ g) = N ∧ (JDS.getD g []).getD 0 0 = sNof N ∧ (∀ h, h < cnt → a h < rn (rw_ g) ∧ rcode (rw_ g) (a h) = rcode (rw_ (sNof N)) (y h)) ∧ genR (rw_ g) a cnt
  | 0, _ => by
    obtain ⟨e1, e2, e3, e4⟩ := g0_is N (by omega) h1
    refine ⟨g0of N, fun _ => 0, e1, e2, e4, fun h hh => by omega, fun X hX _ z hz => ?_⟩
    rw [e3] at hz
    rw [show z = 0 by omega]
    exact hX
  | cnt + 1, hy => by
    obtain ⟨g, a, e1, e2, e3, e4, e5⟩ := close_ok h1 h5 y cnt (fun h hh => hy h (by omega))
    obtain ⟨sN, f1, f2, f3, f4⟩ := join_ok e1
    rw [e3] at f3
    subst f3
    obtain ⟨g', a', k1, k2, k3, k4, k5, k6, k7⟩ := f4 cnt a (y cnt) (fun h hh => (e4 h hh).1) e5 (hy cnt (by omega))
    refine ⟨g', a', k1, k2.trans e2, k3, fun h hh => ?_, k7⟩
    by_cases e : h = cnt
    · subst e
      exact ⟨k5, k6⟩
    · exact ⟨(k4 h (by omega)).1, by rw [(k4 h (by omega)).2, (e4 h (by omega)).2]⟩
