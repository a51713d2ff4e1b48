/-! ===== the text: both readings ===== -/
abbrev FRes : Type := Nat × Nat × Nat × Nat × Nat × Nat × Nat × (Nat → Nat) × (Nat → Nat)
/-- the class comes from byte i to this end -/
def FF (t : Nat → Nat) (len i o kd nm du sn pt : Nat) (ka na : Nat → Nat) (res : FRes) : Prop := ∀ f, len < i + f → pj_CX_X4_findFault_17 f len o kd nm du sn pt t ka na i = some res
section TY
variable {t : Nat → Nat} {len i o kd nm du sn pt : Nat} {ka na : Nat → Nat}
theorem FF_end (hl : len ≤ 80) (hi : i = len) (ho : o < 100) : FF t len i o kd nm du sn pt ka na (if kd = 0 ∧ 0 < o then 4294967295 else len, o, kd, nm, du, sn, pt, ka, na) := by
  intro f hf
  obtain ⟨f, rfl⟩ : ∃ f', f = f' + 1 := ⟨f - 1, by omega⟩
  show p_CX_X4_findFault_17_17 (pj_CX_X4_findFault_17 f) len o kd nm du sn pt t ka na i = _
  unfold p_CX_X4_findFault_17_17
  rw [pb_f (slt_f (by omega) (by omega))]
  unfold p_CX_X4_findFault_17_54
  by_cases hk : kd = 0
  · rw [pgeq_0 hk]
    unfold p_CX_X4_findFault_17_61
    by_cases h0 : 0 < o
    · rw [pggt_s h0 (by omega), if_pos ⟨hk, h0⟩]
      rfl
    · rw [show o = 0 by omega, pggt_0, if_neg (by omega)]
      rfl
  · rw [pgeq_s hk, if_neg (fun h => hk h.1)]
    rfl
theorem FF_blank {res : FRes} (hl : len ≤ 80) (hi : i < len) (ht : t i = 33) (h : FF t len (i + 1) o kd nm du sn pt ka na res) : FF t len i o kd nm du sn pt ka na res := by
  intro f hf
  obtain ⟨f, rfl⟩ : ∃ f', f = f' + 1 := ⟨f - 1, by omega⟩
  show p_CX_X4_findFault_17_17 (pj_CX_X4_findFault_17 f) len o kd nm du sn pt t ka na i = _
  unfold p_CX_X4_findFault_17_17
  rw [pb_t (slt_t hi (by omega))]
  unfold p_CX_X4_findFault_17_25
  rw [pq_t (bl_t (by omega)), pn_s ht, pb_t (Nat.beq_refl _)]
  unfold p_CX_X4_findFault_17_48
  rw [ks (ninc (by omega))]
  exact h f (by omega)
theorem FF_skip {res : FRes} (hl : len ≤ 80) : ∀ (w i : Nat), i + w ≤ len → (∀ k, i ≤ k → k < i + w → t k = 33) → FF t len (i + w) o kd nm du sn pt ka na res → FF t len i o kd nm du sn pt ka na res
  | 0, i, _, _, h => h
  | w + 1, i, hi, ht, h => FF_blank hl (by omega) (ht i (Nat.le_refl _) (by omega)) (FF_skip hl w (i + 1) (by omega) (fun k h1 h2 => ht k (by omega) (by omega)) (by rw [show i + 1 + w = i + (w + 1) by omega]; exact h))
theorem FF_take {res : FRes} {c o' kd' nm' du' sn' pt' : Nat} {ka' na' : Nat → Nat} (hl : len ≤ 80) (hi : i < len) (ht : t i = c + 1) (hc : c ≠ 32) (hp : P_CX_X4_takes_17 o kd nm du sn pt ka na c = some (1, o', kd', nm', du', sn', pt', ka', na')) (h : FF t len (i + 1) o' kd' nm' du' sn' pt' ka' na' res) : FF t len i o kd nm du sn pt ka na res := by
  intro f hf
  obtain ⟨f, rfl⟩ : ∃ f', f = f' + 1 := ⟨f - 1, by omega⟩
  show p_CX_X4_findFault_17_17 (pj_CX_X4_findFault_17 f) len o kd nm du sn pt t ka na i = _
  unfold p_CX_X4_findFault_17_17
  rw [pb_t (slt_t hi (by omega))]
  unfold p_CX_X4_findFault_17_25
  rw [pq_t (bl_t (by omega)), pn_s ht, pb_f (be_f hc)]
  unfold p_CX_X4_findFault_17_38
  rw [hp]
  show pg_eq (p_CX_X4_findFault_17_46 (pj_CX_X4_findFault_17 f) o' kd' nm' du' sn' pt' t ka' na' i) (p_CX_X4_findFault_17_48 (pj_CX_X4_findFault_17 f) len o' kd' nm' du' sn' pt' t ka' na' i) 1 = _
  rw [pgeq_s (by omega)]
  unfold p_CX_X4_findFault_17_48
  rw [ks (ninc (by omega))]
  exact h f (by omega)
theorem FF_fail {c o' kd' nm' du' sn' pt' : Nat} {ka' na' : Nat → Nat} (hl : len ≤ 80) (hi : i < len) (ht : t i = c + 1) (hc : c ≠ 32) (hp : P_CX_X4_takes_17 o kd nm du sn pt ka na c = some (0, o', kd', nm', du', sn', pt', ka', na')) : FF t len i o kd nm du sn pt ka na (i, o', kd', nm', du', sn', pt', ka', na') := by
  intro f hf
  obtain ⟨f, rfl⟩ : ∃ f', f = f' + 1 := ⟨f - 1, by omega⟩
  show p_CX_X4_findFault_17_17 (pj_CX_X4_findFault_17 f) len o kd nm du sn pt t ka na i = _
  unfold p_CX_X4_findFault_17_17
  rw [pb_t (slt_t hi (by omega))]
  unfold p_CX_X4_findFault_17_25
  rw [pq_t (bl_t (by omega)), pn_s ht, pb_f (be_f hc)]
  unfold p_CX_X4_findFault_17_38
  rw [hp]
  rfl
/-! the reference's small steps -/
theorem here_loop (hl : len ≤ 80) (hk : ∀ k, k < len → ∃ b, t k = b + 1 ∧ b < 128) : ∀ (w f i : Nat), i + w = len → w < f → ∃ i', i ≤ i' ∧ i' ≤ len ∧ (∀ k, i ≤ k → k < i' → t k = 33) ∧ ((i' = len ∧ pj_CMf_X9_here f len i t = some (4294967295, len)) ∨ (i' < len ∧ ∃ c, c ≠ 32 ∧ c < 128 ∧ t i' = c + 1 ∧ pj_CMf_X9_here f len i t = some (c, i')))
  | 0, f + 1, i, hi, _ => by
    refine ⟨i, Nat.le_refl _, by omega, fun k h1 h2 => by omega, Or.inl ⟨by omega, ?_⟩⟩
    show p_CMf_X9_here_0 (pj_CMf_X9_here f) len i t = _
    unfold p_CMf_X9_here_0
    rw [pb_f (slt_f (by omega) (by omega))]
    unfold p_CMf_X9_here_38
    rw [pb_f (slt_f (by omega) (by omega)), show i = len by omega]
    rfl
  | w + 1, f + 1, i, hi, hf => by
    obtain ⟨c, hc, hc2⟩ := hk i (by omega)
    by_cases h32 : c = 32
    · obtain ⟨i', a1, a2, a3, a4⟩ := here_loop hl hk w f (i + 1) (by omega) (by omega)
      have e : pj_CMf_X9_here (f + 1) len i t = pj_CMf_X9_here f len (i + 1) t := by
        show p_CMf_X9_here_0 (pj_CMf_X9_here f) len i t = _
        unfold p_CMf_X9_here_0
        rw [pb_t (slt_t (by omega) (by omega))]
        unfold p_CMf_X9_here_11
        rw [pq_t (bl_t (by omega)), pn_s hc, pb_t (by rw [h32]; exact Nat.beq_refl _)]
        unfold p_CMf_X9_here_25
        rw [ks (n_a (by omega))]
      refine ⟨i', by omega, a2, fun k h1 h2 => ?_, ?_⟩
      · by_cases ek : k = i
        · rw [ek, hc, h32]
        · exact a3 k (by omega) h2
      · rw [e]
        exact a4
    · refine ⟨i, Nat.le_refl _, by omega, fun k h1 h2 => by omega, Or.inr ⟨by omega, c, h32, hc2, hc, ?_⟩⟩
      show p_CMf_X9_here_0 (pj_CMf_X9_here f) len i t = _
      unfold p_CMf_X9_here_0
      rw [pb_t (slt_t (by omega) (by omega))]
      unfold p_CMf_X9_here_11
      rw [pq_t (bl_t (by omega)), pn_s hc, pb_f (be_f h32)]
      unfold p_CMf_X9_here_38
      rw [pb_t (slt_t (by omega) (by omega))]
      unfold p_CMf_X9_here_49
      rw [pq_t (bl_t (by omega)), pn_s hc]
      rfl
theorem here_ok (hl : len ≤ 80) (hk : ∀ k, k < len → ∃ b, t k = b + 1 ∧ b < 128) (hi : i ≤ len) : ∃ i', i ≤ i' ∧ i' ≤ len ∧ (∀ k, i ≤ k → k < i' → t k = 33) ∧ ((i' = len ∧ P_CMf_X9_here len i t = some (4294967295, len)) ∨ (i' < len ∧ ∃ c, c ≠ 32 ∧ c < 128 ∧ t i' = c + 1 ∧ P_CMf_X9_here len i t = some (c, i'))) := here_loop hl hk (len - i) 91 i (by omega) (by omega)
theorem must_1 {a : Nat} (ha : a < 4294967295) : P_CMf_X9_must a 4294967295 1 = some (a + 1, 4294967295) := by
  unfold P_CMf_X9_must p_CMf_X9_must_0
  rw [pb_t (Nat.beq_refl _)]
  unfold p_CMf_X9_must_8
  rw [pgeq_s (by omega)]
  unfold p_CMf_X9_must_12
  rw [ks (n_a (by omega))]
  rfl
theorem must_0 {a : Nat} : P_CMf_X9_must a 4294967295 0 = some (a, a) := rfl
theorem must_x {a f l : Nat} (hf : f ≠ 4294967295) : P_CMf_X9_must a f l = some (a, f) := by
  unfold P_CMf_X9_must p_CMf_X9_must_0
  rw [pb_f (be_f hf)]
  rfl
theorem in_gen {v lo hi : Nat} (hv : v < 4294967296) (h : lo ≤ hi) (hh : hi < 2147483648) : P_CMf_X9_in v lo hi = some (if lo ≤ v ∧ v ≤ hi then 1 else 0) := by
  unfold P_CMf_X9_in p_CMf_X9_in_0
  by_cases h1 : 2147483648 ≤ v
  · rw [pb_t (slt_neg h1 hv (by omega)), if_neg (by omega)]
    rfl
  · by_cases h2 : v < lo
    · rw [pb_t (slt_t h2 (by omega)), if_neg (by omega)]
      rfl
    · rw [pb_f (slt_f (by omega) (by omega))]
      unfold p_CMf_X9_in_5
      by_cases h3 : v ≤ hi
      · rw [pb_f (show s_gt v hi = false from slt_f h3 hh), if_pos ⟨by omega, h3⟩]
        rfl
      · rw [pb_t (show s_gt v hi = true from slt_t (by omega) (by omega)), if_neg (by omega)]
        rfl
end TY
