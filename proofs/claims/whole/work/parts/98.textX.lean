/-! ===== the text: the class's reading, byte by byte ===== -/
section TX
theorem n_a {a b : Nat} (h : a + b < 4294967296) : n_add a b = a + b := Nat.mod_eq_of_lt h
theorem n_m {a b : Nat} (h : a * b < 4294967296) : n_mul a b = a * b := Nat.mod_eq_of_lt h
variable {o kd nm_ du sn pt : Nat} {ka na : Nat → Nat} {c : Nat}
theorem blw_t {i n : Nat} (h : i < n) (hn : n < 2147483648) : P_CX_X8_isBelow i n = some 1 := by
  unfold P_CX_X8_isBelow p_CX_X8_isBelow_0
  rw [pglt_n (by omega)]
  unfold p_CX_X8_isBelow_4
  rw [pb_t (slt_t h hn)]
  rfl
theorem blw_f {i n : Nat} (h : n ≤ i) (hn : n < 2147483648) (hi : i < 4294967296) : P_CX_X8_isBelow i n = some 0 := by
  unfold P_CX_X8_isBelow p_CX_X8_isBelow_0
  by_cases h2 : i < 2147483648
  · rw [pglt_n h2]
    unfold p_CX_X8_isBelow_4
    rw [pb_f (slt_f h h2)]
    rfl
  · rw [pglt_p (by omega)]
    rfl
/-- a letter -/
theorem tk_open (h : c = 110 ∨ c = 109 ∨ c = 120) : P_CX_X4_takes_17 o 0 nm_ du sn pt ka na c = some (1, o, c, 0, if c = 109 then pt else 1, 0, pt, ka, na) := by
  unfold P_CX_X4_takes_17 p_CX_X4_takes_17_0
  rw [pgeq_0 rfl]
  rcases h with rfl | rfl | rfl <;> rfl
theorem tk_noopen (h1 : c ≠ 110) (h2 : c ≠ 109) (h3 : c ≠ 120) : P_CX_X4_takes_17 o 0 nm_ du sn pt ka na c = some (0, o, 0, nm_, du, sn, pt, ka, na) := by
  unfold P_CX_X4_takes_17 p_CX_X4_takes_17_0
  rw [pgeq_0 rfl]
  unfold p_CX_X4_takes_17_7 P_CX_X4_opens_17 p_CX_X4_opens_17_0
  rw [pb_f (be_f h1)]
  unfold p_CX_X4_opens_17_6
  rw [pb_f (be_f h2)]
  unfold p_CX_X4_opens_17_12
  rw [pb_f (be_f h3)]
  rfl
/-- a figure -/
def figOk (kd sn pt v : Nat) : Prop := v < 10 ∧ (kd = 110 → 1 ≤ v ∧ v ≤ 5) ∧ (kd = 109 → v < pt ∧ Nat.land (sn / 2 ^ v) 1 = 0)
theorem tk_fig (hk : kd ≠ 0) (hd : 0 < du) (hd2 : du < 100) (hs : sn < 1024) (hnm : nm_ < 100000) {v : Nat} (hv : n_sub c 48 = v) (hv2 : v < 4294967296) (hpt : pt < 100) (h : figOk kd sn pt v) : P_CX_X4_takes_17 o kd nm_ du sn pt ka na c = some (1, o, kd, 10 * nm_ + v, du - 1, sn ||| 2 ^ v, pt, ka, na) := by
  obtain ⟨h1, h2, h3⟩ := h
  have hp : 2 ^ v < 2 ^ 10 := Nat.pow_lt_pow_right (by omega) h1
  have e62 : p_CX_X4_takesFigure_17_62 nm_ du sn v = some (1, 10 * nm_ + v, du - 1, sn ||| 2 ^ v) := by
    unfold p_CX_X4_takesFigure_17_62
    rw [pq_t (bl_t (by omega)), ks (show Nat.mod (Nat.mul 1 (Nat.pow 2 v)) 4294967296 = 2 ^ v from by
      show (1 * 2 ^ v) % 4294967296 = _
      rw [Nat.one_mul]
      exact Nat.mod_eq_of_lt (by omega)), kseq_eq, ks (n_m (by omega)), ks (n_a (by omega)), ks (nsb (by omega) (by omega))]
    rfl
  have e32 : p_CX_X4_takesFigure_17_32 kd nm_ du sn pt v = some (1, 10 * nm_ + v, du - 1, sn ||| 2 ^ v) := by
    unfold p_CX_X4_takesFigure_17_32
    by_cases hk9 : kd = 109
    · obtain ⟨q1, q2⟩ := h3 hk9
      rw [pb_t (by rw [hk9]; exact Nat.beq_refl _)]
      unfold p_CX_X4_takesFigure_17_41
      rw [pb_t (slt_t q1 (by omega))]
      unfold p_CX_X4_takesFigure_17_49
      rw [pq_t (bl_t (by omega)), pq_t (bl_t (by omega)), kseq_eq, kseq_eq, pgeq_0 (a := n_and (Nat.div sn (Nat.pow 2 v)) 1) q2]
      exact e62
    · rw [pb_f (be_f hk9)]
      exact e62
  unfold P_CX_X4_takes_17 p_CX_X4_takes_17_0
  rw [pgeq_s hk]
  unfold p_CX_X4_takes_17_13
  rw [pggt_s hd (by omega)]
  unfold p_CX_X4_takes_17_20
  rw [ks hv]
  have e : P_CX_X4_takesFigure_17 kd nm_ du sn pt v = some (1, 10 * nm_ + v, du - 1, sn ||| 2 ^ v) := by
    unfold P_CX_X4_takesFigure_17 p_CX_X4_takesFigure_17_0
    rw [po1_s (blw_t h1 (by omega)), pgeq_s (by omega)]
    unfold p_CX_X4_takesFigure_17_11
    by_cases hk0 : kd = 110
    · obtain ⟨q1, q2⟩ := h2 hk0
      rw [pb_t (by rw [hk0]; exact Nat.beq_refl _)]
      unfold p_CX_X4_takesFigure_17_20
      rw [pb_f (slt_f q1 (by omega))]
      unfold p_CX_X4_takesFigure_17_25
      rw [pb_f (show s_gt v 5 = false from slt_f q2 (by omega))]
      exact e32
    · rw [pb_f (be_f hk0)]
      exact e32
  rw [po4_s e]
  rfl
theorem tk_nofig (hk : kd ≠ 0) (hd : 0 < du) (hd2 : du < 100) (hs : sn < 1024) {v : Nat} (hv : n_sub c 48 = v) (hv2 : v < 4294967296) (hpt : pt < 100) (h : ¬ figOk kd sn pt v) : P_CX_X4_takes_17 o kd nm_ du sn pt ka na c = some (0, o, kd, nm_, du, sn, pt, ka, na) := by
  unfold P_CX_X4_takes_17 p_CX_X4_takes_17_0
  rw [pgeq_s hk]
  unfold p_CX_X4_takes_17_13
  rw [pggt_s hd (by omega)]
  unfold p_CX_X4_takes_17_20
  rw [ks hv]
  have e : P_CX_X4_takesFigure_17 kd nm_ du sn pt v = some (0, nm_, du, sn) := by
    unfold P_CX_X4_takesFigure_17 p_CX_X4_takesFigure_17_0
    by_cases h1 : v < 10
    · rw [po1_s (blw_t h1 (by omega)), pgeq_s (by omega)]
      have hp : 2 ^ v < 2 ^ 10 := Nat.pow_lt_pow_right (by omega) h1
      unfold p_CX_X4_takesFigure_17_11
      by_cases hk0 : kd = 110
      · rw [pb_t (by rw [hk0]; exact Nat.beq_refl _)]
        unfold p_CX_X4_takesFigure_17_20
        by_cases q1 : v < 1
        · rw [pb_t (slt_t q1 (by omega))]
          rfl
        · rw [pb_f (slt_f (by omega) (by omega))]
          unfold p_CX_X4_takesFigure_17_25
          have q2 : 5 < v := by
            refine Nat.lt_of_not_le fun q => h ⟨h1, fun _ => ⟨by omega, q⟩, fun e => by omega⟩
          rw [pb_t (show s_gt v 5 = true from slt_t q2 (by omega))]
          rfl
      · rw [pb_f (be_f hk0)]
        unfold p_CX_X4_takesFigure_17_32
        have hk9 : kd = 109 := Classical.byContradiction fun q => h ⟨h1, fun e => absurd e hk0, fun e => absurd e q⟩
        rw [pb_t (by rw [hk9]; exact Nat.beq_refl _)]
        unfold p_CX_X4_takesFigure_17_41
        by_cases q1 : v < pt
        · rw [pb_t (slt_t q1 (by omega))]
          unfold p_CX_X4_takesFigure_17_49
          have q2 : Nat.land (sn / 2 ^ v) 1 ≠ 0 := fun q => h ⟨h1, fun e => absurd e hk0, fun _ => ⟨q1, q⟩⟩
          rw [pq_t (bl_t (by omega)), pq_t (bl_t (by omega)), kseq_eq, kseq_eq, pgeq_s (a := n_and (Nat.div sn (Nat.pow 2 v)) 1) q2]
          rfl
        · rw [pb_f (slt_f (by omega) (by omega))]
          rfl
    · rw [po1_s (blw_f (by omega) (by omega) hv2), pgeq_0 rfl]
      rfl
  rw [po4_s e]
  rfl
/-- the end of an order -/
theorem tk_close (hk : kd ≠ 0) (ho : o < 27) : P_CX_X4_takes_17 o kd nm_ 0 sn pt ka na 59 = some (1, o + 1, 0, nm_, 0, sn, if kd = 110 then nm_ else pt, uf ka o (kd + 1), uf na o (nm_ + 1)) := by
  unfold P_CX_X4_takes_17 p_CX_X4_takes_17_0
  rw [pgeq_s hk]
  unfold p_CX_X4_takes_17_13
  rw [pggt_0]
  unfold p_CX_X4_takes_17_31
  have e : P_CX_X4_closes_17 o kd nm_ pt ka na 59 = some (1, o + 1, 0, if kd = 110 then nm_ else pt, uf ka o (kd + 1), uf na o (nm_ + 1)) := by
    unfold P_CX_X4_closes_17 p_CX_X4_closes_17_0
    rw [pb_t (Nat.beq_refl _)]
    unfold p_CX_X4_closes_17_6
    rw [pb_t (slt_t ho (by omega))]
    unfold p_CX_X4_closes_17_17
    rw [pq_t (bl_t ho), pq_t (bl_t ho), ks (n_a (by omega))]
    by_cases hk0 : kd = 110
    · rw [pb_t (by rw [hk0]; exact Nat.beq_refl _), if_pos hk0]
      rfl
    · rw [pb_f (be_f hk0), if_neg hk0]
      rfl
  rw [show ∀ (k : Nat → Nat → Nat → Nat → (Nat → Nat) → (Nat → Nat) → Option (Nat × Nat × Nat × Nat × Nat × Nat × Nat × (Nat → Nat) × (Nat → Nat))), po6 (P_CX_X4_closes_17 o kd nm_ pt ka na 59) k = k 1 (o + 1) 0 (if kd = 110 then nm_ else pt) (uf ka o (kd + 1)) (uf na o (nm_ + 1)) from fun k => by rw [e]; rfl]
  rfl
theorem tk_noclose (hk : kd ≠ 0) (hc : c ≠ 59) : P_CX_X4_takes_17 o kd nm_ 0 sn pt ka na c = some (0, o, kd, nm_, 0, sn, pt, ka, na) := by
  unfold P_CX_X4_takes_17 p_CX_X4_takes_17_0
  rw [pgeq_s hk]
  unfold p_CX_X4_takes_17_13
  rw [pggt_0]
  unfold p_CX_X4_takes_17_31
  have e : P_CX_X4_closes_17 o kd nm_ pt ka na c = some (0, o, kd, pt, ka, na) := by
    unfold P_CX_X4_closes_17 p_CX_X4_closes_17_0
    rw [pb_f (be_f hc)]
    rfl
  rw [show ∀ (k : Nat → Nat → Nat → Nat → (Nat → Nat) → (Nat → Nat) → Option (Nat × Nat × Nat × Nat × Nat × Nat × Nat × (Nat → Nat) × (Nat → Nat))), po6 (P_CX_X4_closes_17 o kd nm_ pt ka na c) k = k 0 o kd pt ka na from fun k => by rw [e]; rfl]
  rfl
end TX
