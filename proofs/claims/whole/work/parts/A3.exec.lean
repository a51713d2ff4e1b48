/-! ===== the orders of a text, done by both ===== -/
theorem obey_both {pts cnt lai kd num k : Nat} {tc nw la nb : Nat → Nat} (hs : stR pts cnt tc nw) (hv : vS pts cnt tc) (hk : kd = 110 ∨ kd = 109 ∨ kd = 120) (hn : num < 100000) (hk40 : k < 40) (hla : la k = kd + 1) (hnb : nb k = num + 1) : ∃ ret pts' cnt' tc' lai' nw', P_CX_X4_obey_3 pts cnt tc kd num = some (ret, pts', cnt', tc') ∧ P_CMf_X9_doOrder lai nw la nb k = some (ret, lai', nw') ∧ opR pts cnt tc lai nw ret pts' cnt' tc' lai' nw' := by
  unfold P_CX_X4_obey_3 p_CX_X4_obey_3_0 P_CMf_X9_doOrder p_CMf_X9_doOrder_0
  rw [pq_t (bl_t hk40), pn_s hla]
  rcases hk with rfl | rfl | rfl
  · obtain ⟨ret, pts', cnt', lai', nw', e1, e2, e3⟩ := op_points (lai := lai) hs hv (show num < 4294967296 by omega)
    refine ⟨ret, pts', cnt', tc, lai', nw', ?_, ?_, e3⟩
    · rw [pb_f (be_f (by omega)), pb_t (Nat.beq_refl _)]
      unfold p_CX_X4_obey_3_28
      rw [po3_s e1]
    · rw [pb_t (Nat.beq_refl _)]
      unfold p_CMf_X9_doOrder_11
      rw [pq_t (bl_t hk40), pn_s hnb, po3_s e2]
      rfl
  · obtain ⟨ret, cnt', tc', lai', nw', e1, e2, e3⟩ := op_moves (lai := lai) hs hv (show num < 4294967296 by omega)
    refine ⟨ret, pts, cnt', tc', lai', nw', ?_, ?_, e3⟩
    · rw [pb_t (Nat.beq_refl _)]
      unfold p_CX_X4_obey_3_34
      rw [po3_s e1]
    · rw [pb_f (be_f (by omega))]
      unfold p_CMf_X9_doOrder_24
      rw [pq_t (bl_t hk40), pn_s hla, pb_t (Nat.beq_refl _)]
      unfold p_CMf_X9_doOrder_35
      rw [pq_t (bl_t hk40), pn_s hnb, po3_s e2]
      rfl
  · obtain ⟨ret, cnt', tc', lai', nw', e1, e2, e3⟩ := op_drops (lai := lai) hs hv (show num < 4294967296 by omega)
    refine ⟨ret, pts, cnt', tc', lai', nw', ?_, ?_, e3⟩
    · rw [pb_f (be_f (by omega)), pb_f (be_f (by omega))]
      unfold p_CX_X4_obey_3_40
      rw [po3_s e1]
    · rw [pb_f (be_f (by omega))]
      unfold p_CMf_X9_doOrder_24
      rw [pq_t (bl_t hk40), pn_s hla, pb_f (be_f (by omega))]
      unfold p_CMf_X9_doOrder_48
      rw [pq_t (bl_t hk40), pn_s hnb, po3_s e2]
      rfl
theorem rdj2 (k : Nat) : (pj_CMf_X9_reads (k + 1)).2.1 = p_CMf_X9_reads_86 (pj_CMf_X9_reads k) := by rw [pjs_CMf_X9_reads]
theorem rdj3 (k : Nat) : (pj_CMf_X9_reads (k + 1)).2.2 = p_CMf_X9_reads_104 (pj_CMf_X9_reads k) := by rw [pjs_CMf_X9_reads]
theorem exec_both {o a1 a2 a3 a4 a5 pasts at2 fl ptm : Nat} {t ka na la nb held past : Nat → Nat} (ho : o ≤ 27) (hag : agr o ka na la nb) : ∀ (w f F Fx l pts cnt lai : Nat) (tc nw : Nat → Nat), l + w = o → w < Fx → w + f ≤ F → stR pts cnt tc nw → vS pts cnt tc → (∃ pts' cnt' tc' lai' nw' f', pj_CX_X4_carryOut_17_3 Fx pts cnt tc o a1 a2 a3 a4 a5 t ka na l = some (o, pts', cnt', tc', o, a1, a2, a3, a4, a5, ka, na) ∧ f ≤ f' ∧ p_CMf_X9_reads_86 (pj_CMf_X9_reads F) pasts lai at2 fl o ptm nw held past t la nb l = p_CMf_X9_reads_144 (pj_CMf_X9_reads f') pasts lai' at2 fl o ptm nw' held past t la nb ∧ stR pts' cnt' tc' nw' ∧ vS pts' cnt' tc' ∧ (lai' = 0 ∨ (w = 0 ∧ lai' = lai))) ∨ (∃ k pts' cnt' tc' nw' f', k < 27 ∧ pj_CX_X4_carryOut_17_3 Fx pts cnt tc o a1 a2 a3 a4 a5 t ka na l = some (4294966296 - k, pts', cnt', tc', o, a1, a2, a3, a4, a5, ka, na) ∧ f ≤ f' ∧ p_CMf_X9_reads_86 (pj_CMf_X9_reads F) pasts lai at2 fl o ptm nw held past t la nb l = p_CMf_X9_reads_102 (pj_CMf_X9_reads f') pasts at2 fl o ptm nw' held past t la nb k)
  | 0, f, F, Fx + 1, l, pts, cnt, lai, tc, nw, hl, hx, hF, hs, hv => by
    left
    refine ⟨pts, cnt, tc, lai, nw, F, ?_, by omega, ?_, hs, hv, Or.inr ⟨rfl, rfl⟩⟩
    · show p_CX_X4_carryOut_17_3_21 (pj_CX_X4_carryOut_17_3 Fx) pts cnt tc o a1 a2 a3 a4 a5 t ka na l = _
      unfold p_CX_X4_carryOut_17_3_21
      rw [pb_f (slt_f (by omega) (by omega))]
      rfl
    · unfold p_CMf_X9_reads_86
      rw [pb_f (slt_f (by omega) (by omega))]
  | w + 1, f, F, Fx + 1, l, pts, cnt, lai, tc, nw, hl, hx, hF, hs, hv => by
    obtain ⟨kd, num, k1, k2, k3, k4, k5, k6⟩ := hag l (by omega)
    obtain ⟨ret, pts', cnt', tc', lai', nw', e1, e2, e3⟩ := obey_both (lai := lai) hs hv k5 k6 (show l < 40 by omega) k2 k4
    have hX : pj_CX_X4_carryOut_17_3 (Fx + 1) pts cnt tc o a1 a2 a3 a4 a5 t ka na l = pg_lt (p_CX_X4_carryOut_17_3_48 (pj_CX_X4_carryOut_17_3 Fx) pts' cnt' tc' o a1 a2 a3 a4 a5 t ka na l) (p_CX_X4_carryOut_17_3_54 (pj_CX_X4_carryOut_17_3 Fx) pts' cnt' tc' o a1 a2 a3 a4 a5 t ka na l) ret := by
      show p_CX_X4_carryOut_17_3_21 (pj_CX_X4_carryOut_17_3 Fx) pts cnt tc o a1 a2 a3 a4 a5 t ka na l = _
      unfold p_CX_X4_carryOut_17_3_21
      rw [pb_t (slt_t (by omega) (by omega))]
      unfold p_CX_X4_carryOut_17_3_29
      rw [pq_t (bl_t (by omega)), pn_s k1, pq_t (bl_t (by omega)), pn_s k3, po4_s e1]
    have hM : p_CMf_X9_reads_86 (pj_CMf_X9_reads F) pasts lai at2 fl o ptm nw held past t la nb l = pg_lt (p_CMf_X9_reads_102 (pj_CMf_X9_reads F) pasts at2 fl o ptm nw' held past t la nb l) (p_CMf_X9_reads_138 (pj_CMf_X9_reads F) pasts lai' at2 fl o ptm nw' held past t la nb l) ret := by
      unfold p_CMf_X9_reads_86
      rw [pb_t (slt_t (by omega) (by omega))]
      unfold p_CMf_X9_reads_94
      rw [po3_s e2]
    rcases e3 with ⟨r1, -⟩ | ⟨r1, r2, r3, r4⟩
    · right
      refine ⟨l, pts', cnt', tc', nw', F, by omega, ?_, by omega, ?_⟩
      · rw [hX, pglt_p r1]
        unfold p_CX_X4_carryOut_17_3_48
        rw [ks (nsb (by omega) (by omega))]
      · rw [hM, pglt_p r1]
    · obtain ⟨F', rfl⟩ : ∃ F', F = F' + 1 := ⟨F - 1, by omega⟩
      have hX2 : pj_CX_X4_carryOut_17_3 (Fx + 1) pts cnt tc o a1 a2 a3 a4 a5 t ka na l = pj_CX_X4_carryOut_17_3 Fx pts' cnt' tc' o a1 a2 a3 a4 a5 t ka na (l + 1) := by
        rw [hX, pglt_n r1]
        unfold p_CX_X4_carryOut_17_3_54
        rw [ks (ninc (by omega))]
      have hM2 : p_CMf_X9_reads_86 (pj_CMf_X9_reads (F' + 1)) pasts lai at2 fl o ptm nw held past t la nb l = p_CMf_X9_reads_86 (pj_CMf_X9_reads F') pasts lai' at2 fl o ptm nw' held past t la nb (l + 1) := by
        rw [hM, pglt_n r1]
        unfold p_CMf_X9_reads_138
        rw [ks (ninc (by omega)), rdj2]
      rcases exec_both ho hag w f F' Fx (l + 1) pts' cnt' lai' tc' nw' (by omega) (by omega) (by omega) r3 r4 with ⟨p2, c2, t2, l2, n2, f2, b1, b2, b3, b4, b5, b6⟩ | ⟨k, p2, c2, t2, n2, f2, b0, b1, b2, b3⟩
      · left
        refine ⟨p2, c2, t2, l2, n2, f2, hX2.trans b1, b2, hM2.trans b3, b4, b5, Or.inl ?_⟩
        rcases b6 with b6 | ⟨-, b6⟩
        · exact b6
        · rw [b6, r2]
      · exact Or.inr ⟨k, p2, c2, t2, n2, f2, b0, hX2.trans b1, b2, hM2.trans b3⟩
