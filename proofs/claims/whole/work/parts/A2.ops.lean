/-! ===== points, moves, drops: the class's trial beside the reference's state ===== -/
def stR (pts cnt : Nat) (tc nw : Nat → Nat) : Prop := nw 0 = pts + 1 ∧ nw 1 = cnt + 1 ∧ ∀ j, j < 3 → nw (2 + j) = tc j
def vS (pts cnt : Nat) (tc : Nat → Nat) : Prop := 1 ≤ pts ∧ pts ≤ 5 ∧ cnt ≤ 3 ∧ (∀ j, j < 3 → ∃ c, tc j = c + 1) ∧ ∀ h, h < cnt → ∃ c, tc h = c + 1 ∧ isMv pts c
/-- an operation, done by both: refused by both (nothing changes), or done by both -/
def opR (pts cnt : Nat) (tc : Nat → Nat) (lai : Nat) (nw : Nat → Nat) (ret pts' cnt' : Nat) (tc' : Nat → Nat) (lai' : Nat) (nw' : Nat → Nat) : Prop := (2147483648 ≤ ret ∧ (ret = 4294967294 ∨ ret = 4294967292) ∧ pts' = pts ∧ cnt' = cnt ∧ tc' = tc ∧ lai' = lai ∧ nw' = nw) ∨ (ret < 2147483648 ∧ lai' = 0 ∧ stR pts' cnt' tc' nw' ∧ vS pts' cnt' tc')
theorem op_points {pts cnt lai v : Nat} {tc nw : Nat → Nat} (hs : stR pts cnt tc nw) (hv : vS pts cnt tc) (h : v < 4294967296) : ∃ ret pts' cnt' lai' nw', P_CX_X5_setPoints_3 pts cnt v = some (ret, pts', cnt') ∧ P_CMf_X9_doPoints lai nw v = some (ret, lai', nw') ∧ opR pts cnt tc lai nw ret pts' cnt' tc lai' nw' := by
  obtain ⟨s0, s1, s2⟩ := hs
  obtain ⟨v1, v5, v3, vk, vm⟩ := hv
  by_cases hin : 1 ≤ v ∧ v ≤ 5
  · refine ⟨pts, v, 0, 0, uf (uf nw 0 (Nat.succ v)) 1 (Nat.succ 0), ?_, ?_, Or.inr ⟨by omega, rfl, ⟨?_, ?_, fun j hj => ?_⟩, hin.1, hin.2, by omega, vk, fun h hh => by omega⟩⟩
    · unfold P_CX_X5_setPoints_3 p_CX_X5_setPoints_3_0
      rw [pb_f (slt_f hin.1 (by omega))]
      unfold p_CX_X5_setPoints_3_5
      rw [pb_f (show s_gt v 5 = false from slt_f hin.2 (by omega))]
      rfl
    · unfold P_CMf_X9_doPoints p_CMf_X9_doPoints_0
      rw [po1_s (in_gen h (by omega) (by omega)), if_pos hin, pgeq_s (by omega)]
      unfold p_CMf_X9_doPoints_12
      rw [pq_t (bl_t (by omega)), pn_s s0, pq_t (bl_t (by omega)), pq_t (bl_t (by omega)), pq_t (bl_t (by omega))]
    · rw [uf_ne (by omega), uf_same rfl]
    · rw [uf_same rfl]
    · rw [uf_ne (by omega), uf_ne (by omega)]
      exact s2 j hj
  · refine ⟨4294967294, pts, cnt, lai, nw, ?_, ?_, Or.inl ⟨by omega, Or.inl rfl, rfl, rfl, rfl, rfl, rfl⟩⟩
    · unfold P_CX_X5_setPoints_3 p_CX_X5_setPoints_3_0
      by_cases hneg : 2147483648 ≤ v
      · rw [pb_t (slt_neg hneg h (by omega))]
        rfl
      · by_cases h0 : v < 1
        · rw [pb_t (slt_t h0 (by omega))]
          rfl
        · rw [pb_f (slt_f (by omega) (by omega))]
          unfold p_CX_X5_setPoints_3_5
          rw [pb_t (show s_gt v 5 = true from slt_t (by omega) (by omega))]
          rfl
    · unfold P_CMf_X9_doPoints p_CMf_X9_doPoints_0
      rw [po1_s (in_gen h (by omega) (by omega)), if_neg hin, pgeq_0 rfl]
      rfl
theorem op_moves {pts cnt lai v : Nat} {tc nw : Nat → Nat} (hs : stR pts cnt tc nw) (hv : vS pts cnt tc) (h : v < 4294967296) : ∃ ret cnt' tc' lai' nw', P_CX_X5_addGenerator_3 pts cnt tc v = some (ret, cnt', tc') ∧ P_CMf_X9_doMoves lai nw v = some (ret, lai', nw') ∧ opR pts cnt tc lai nw ret pts cnt' tc' lai' nw' := by
  obtain ⟨s0, s1, s2⟩ := hs
  obtain ⟨v1, v5, v3, vk, vm⟩ := hv
  obtain ⟨b, hb, b1, b2, b3⟩ := move_ok v1 v5 h
  unfold P_CX_X5_addGenerator_3 p_CX_X5_addGenerator_3_0 P_CMf_X9_doMoves p_CMf_X9_doMoves_0
  rw [po1_s b1, po1_s (b2 nw s0)]
  by_cases hb0 : b = 0
  · rw [pgeq_0 hb0, pgeq_0 hb0]
    exact ⟨4294967294, cnt, tc, lai, nw, rfl, rfl, Or.inl ⟨by omega, Or.inl rfl, rfl, rfl, rfl, rfl, rfl⟩⟩
  · have hmv := b3 (by omega)
    rw [pgeq_s hb0, pgeq_s hb0]
    unfold p_CX_X5_addGenerator_3_11 p_CMf_X9_doMoves_11
    rw [pq_t (bl_t (show 1 < 5 by omega)), pn_s s1]
    by_cases hc3 : cnt = 3
    · rw [pb_f (slt_f (by omega) (by omega)), pb_t (by rw [hc3]; exact Nat.beq_refl _)]
      exact ⟨4294967292, cnt, tc, lai, nw, rfl, rfl, Or.inl ⟨by omega, Or.inr rfl, rfl, rfl, rfl, rfl, rfl⟩⟩
    · rw [pb_t (slt_t (by omega) (by omega)), pb_f (be_f hc3)]
      refine ⟨cnt, cnt + 1, uf tc cnt (Nat.succ v), 0, uf (uf nw (2 + cnt) (Nat.succ v)) 1 (Nat.succ (cnt + 1)), ?_, ?_, Or.inr ⟨by omega, rfl, ⟨?_, ?_, fun j hj => ?_⟩, v1, v5, by omega, fun j hj => ?_, fun g hg => ?_⟩⟩
      · unfold p_CX_X5_addGenerator_3_22
        rw [pq_t (bl_t (by omega)), ks (na (by omega)), ks (nsb (by omega) (by omega)), show cnt + 1 - 1 = cnt by omega]
      · unfold p_CMf_X9_doMoves_24
        rw [pq_t (bl_t (by omega)), pn_s s1, ks (na (by omega)), pq_t (bl_t (by omega)), pq_t (bl_t (by omega)), pn_s (v := cnt) (by rw [uf_ne (by omega)]; exact s1), ks (na (by omega)), pq_t (bl_t (by omega)), pq_t (bl_t (by omega)), pq_t (bl_t (by omega)), pn_s (v := cnt + 1) (uf_same rfl), ks (nsb (by omega) (by omega)), show cnt + 1 - 1 = cnt by omega]
      · rw [uf_ne (by omega), uf_ne (by omega)]
        exact s0
      · rw [uf_same rfl]
      · rw [uf_ne (by omega)]
        by_cases e : j = cnt
        · rw [uf_same (by omega), uf_same e]
        · rw [uf_ne (by omega), uf_ne e]
          exact s2 j hj
      · by_cases e : j = cnt
        · exact ⟨v, uf_same e⟩
        · rw [uf_ne e]
          exact vk j hj
      · by_cases e : g = cnt
        · exact ⟨v, uf_same e, hmv⟩
        · rw [uf_ne e]
          exact vm g (by omega)
theorem dropX {cnt : Nat} (hc : cnt ≤ 3) : ∀ (w f g : Nat) (tc : Nat → Nat), g + w = cnt → 1 ≤ g → w < f → (∀ j, j < 3 → ∃ c, tc j = c + 1) → ∃ tc', pj_CX_X5_dropGenerator_3 f cnt tc g = some (cnt - 1, cnt - 1, tc') ∧ ∀ j, tc' j = if g ≤ j + 1 ∧ j + 1 < cnt then tc (j + 1) else tc j
  | 0, f + 1, g, tc, hg, h1, _, hk => by
    refine ⟨tc, ?_, fun j => by rw [if_neg (by omega)]⟩
    show p_CX_X5_dropGenerator_3_18 (pj_CX_X5_dropGenerator_3 f) cnt tc g = _
    unfold p_CX_X5_dropGenerator_3_18
    rw [pb_f (slt_f (by omega) (by omega))]
    unfold p_CX_X5_dropGenerator_3_46
    rw [ks (nsb (by omega) (by omega))]
  | w + 1, f + 1, g, tc, hg, h1, hf, hk => by
    obtain ⟨c, hcg⟩ := hk g (by omega)
    obtain ⟨tc', e1, e2⟩ := dropX hc w f (g + 1) (uf tc (g - 1) (Nat.succ c)) (by omega) (by omega) (by omega) (fun j hj => by
      by_cases e : j = g - 1
      · exact ⟨c, uf_same e⟩
      · rw [uf_ne e]
        exact hk j hj)
    refine ⟨tc', ?_, fun j => ?_⟩
    · show p_CX_X5_dropGenerator_3_18 (pj_CX_X5_dropGenerator_3 f) cnt tc g = _
      unfold p_CX_X5_dropGenerator_3_18
      rw [pb_t (slt_t (by omega) (by omega))]
      unfold p_CX_X5_dropGenerator_3_26
      rw [ks (nsb h1 (by omega)), pq_t (bl_t (by omega)), pn_s hcg, pq_t (bl_t (by omega)), ks (ninc (by omega))]
      exact e1
    · rw [e2 j]
      by_cases a1 : j = g - 1
      · rw [if_neg (by omega), if_pos (by omega), uf_same a1, show j + 1 = g by omega, hcg]
      · by_cases a2 : g ≤ j + 1 ∧ j + 1 < cnt
        · rw [if_pos (by omega), if_pos a2, uf_ne (by omega)]
        · rw [if_neg (by omega), if_neg a2, uf_ne a1]
theorem dropM {cnt : Nat} (hc : cnt ≤ 2) : ∀ (w f k : Nat) (nw : Nat → Nat), k + w = cnt → w < f → nw 1 = cnt + 1 → (∀ j, j < 3 → ∃ c, nw (2 + j) = c + 1) → ∃ nw', pj_CMf_X9_doDrops f nw k = some (cnt, 0, nw') ∧ nw' 0 = nw 0 ∧ nw' 1 = nw 1 ∧ ∀ j, nw' (2 + j) = if k ≤ j ∧ j < cnt then nw (3 + j) else nw (2 + j)
  | 0, f + 1, k, nw, hk, _, h1, hn => by
    refine ⟨nw, ?_, rfl, rfl, fun j => by rw [if_neg (by omega)]⟩
    show p_CMf_X9_doDrops_31 (pj_CMf_X9_doDrops f) nw k = _
    unfold p_CMf_X9_doDrops_31
    rw [pq_t (bl_t (by omega)), pn_s h1, pb_f (slt_f (by omega) (by omega))]
    unfold p_CMf_X9_doDrops_63
    rw [pq_t (bl_t (by omega)), pq_t (bl_t (by omega)), pn_s h1]
  | w + 1, f + 1, k, nw, hk, hf, h1, hn => by
    obtain ⟨c, hcg⟩ := hn (k + 1) (by omega)
    obtain ⟨nw', e1, e2, e3, e4⟩ := dropM hc w f (k + 1) (uf nw (2 + k) (Nat.succ c)) (by omega) (by omega) (by rw [uf_ne (by omega)]; exact h1) (fun j hj => by
      by_cases e : j = k
      · exact ⟨c, uf_same (by omega)⟩
      · rw [uf_ne (by omega)]
        exact hn j hj)
    refine ⟨nw', ?_, by rw [e2, uf_ne (by omega)], by rw [e3, uf_ne (by omega)], fun j => ?_⟩
    · show p_CMf_X9_doDrops_31 (pj_CMf_X9_doDrops f) nw k = _
      unfold p_CMf_X9_doDrops_31
      rw [pq_t (bl_t (by omega)), pn_s h1, pb_t (slt_t (by omega) (by omega))]
      unfold p_CMf_X9_doDrops_41
      rw [ks (na (by omega)), ks (na (by omega)), pq_t (bl_t (by omega)), pn_s (v := c) (by rw [show 3 + k = 2 + (k + 1) by omega]; exact hcg), pq_t (bl_t (by omega)), ks (ninc (by omega))]
      exact e1
    · rw [e4 j]
      by_cases a1 : j = k
      · rw [if_neg (by omega), if_pos (by omega), uf_same (by omega), show 3 + j = 2 + (k + 1) by omega, hcg]
      · by_cases a2 : k ≤ j ∧ j < cnt
        · rw [if_pos (by omega), if_pos a2, uf_ne (by omega)]
        · rw [if_neg (by omega), if_neg a2, uf_ne (by omega)]
theorem op_drops {pts cnt lai v : Nat} {tc nw : Nat → Nat} (hs : stR pts cnt tc nw) (hv : vS pts cnt tc) (h : v < 4294967296) : ∃ ret cnt' tc' lai' nw', P_CX_X5_dropGenerator_3 cnt tc v = some (ret, cnt', tc') ∧ P_CMf_X9_doDrops lai nw v = some (ret, lai', nw') ∧ opR pts cnt tc lai nw ret pts cnt' tc' lai' nw' := by
  obtain ⟨s0, s1, s2⟩ := hs
  obtain ⟨v1, v5, v3, vk, vm⟩ := hv
  unfold P_CX_X5_dropGenerator_3 p_CX_X5_dropGenerator_3_0 P_CMf_X9_doDrops p_CMf_X9_doDrops_0
  by_cases hlt : v < cnt
  · rw [po1_s (blw_t hlt (by omega)), pgeq_s (by omega), pq_t (bl_t (by omega)), pn_s s1, ks (nsb (by omega) (by omega)), po1_s (in_gen h (by omega) (by omega)), if_pos ⟨by omega, by omega⟩, pgeq_s (by omega)]
    obtain ⟨tc', e1, e2⟩ := dropX v3 (cnt - (v + 1)) 11 (v + 1) tc (by omega) (by omega) (by omega) vk
    obtain ⟨nw', f1, f2, f3, f4⟩ := dropM (cnt := cnt - 1) (by omega) (cnt - 1 - v) 11 v (uf nw 1 (Nat.succ (cnt - 1))) (by omega) (by omega) (uf_same rfl) (fun j hj => by
      rw [uf_ne (by omega), s2 j hj]
      exact vk j hj)
    have t2 : ∀ j, j < 3 → tc' j = if v ≤ j ∧ j < cnt - 1 then tc (j + 1) else tc j := fun j hj => by
      rw [e2 j]
      by_cases a : v ≤ j ∧ j < cnt - 1
      · rw [if_pos a, if_pos (by omega)]
      · rw [if_neg a, if_neg (by omega)]
    refine ⟨cnt - 1, cnt - 1, tc', 0, nw', ?_, ?_, Or.inr ⟨by omega, rfl, ⟨by rw [f2, uf_ne (by omega)]; exact s0, by rw [f3, uf_same rfl], fun j hj => ?_⟩, v1, v5, by omega, fun j hj => ?_, fun g hg => ?_⟩⟩
    · unfold p_CX_X5_dropGenerator_3_14
      rw [ks (na (by omega))]
      exact e1
    · unfold p_CMf_X9_doDrops_19
      rw [pq_t (bl_t (by omega)), pn_s s1, ks (nsb (by omega) (by omega)), pq_t (bl_t (by omega))]
      exact f1
    · rw [f4 j, t2 j hj]
      by_cases a : v ≤ j ∧ j < cnt - 1
      · rw [if_pos a, if_pos a, uf_ne (by omega), show 3 + j = 2 + (j + 1) by omega]
        exact s2 (j + 1) (by omega)
      · rw [if_neg a, if_neg a, uf_ne (by omega)]
        exact s2 j hj
    · rw [t2 j hj]
      by_cases a : v ≤ j ∧ j < cnt - 1
      · rw [if_pos a]
        exact vk (j + 1) (by omega)
      · rw [if_neg a]
        exact vk j hj
    · rw [t2 g (by omega)]
      by_cases a : v ≤ g ∧ g < cnt - 1
      · rw [if_pos a]
        exact vm (g + 1) (by omega)
      · rw [if_neg a]
        exact vm g (by omega)
  · refine ⟨4294967294, cnt, tc, lai, nw, ?_, ?_, Or.inl ⟨by omega, Or.inl rfl, rfl, rfl, rfl, rfl, rfl⟩⟩
    · rw [po1_s (blw_f (by omega) (by omega) h), pgeq_0 rfl]
      rfl
    · rw [pq_t (bl_t (by omega)), pn_s s1]
      by_cases h0 : cnt = 0
      · have : P_CMf_X9_in v 0 (n_sub cnt 1) = some 0 := by
          rw [h0]
          show P_CMf_X9_in v 0 4294967295 = some 0
          unfold P_CMf_X9_in p_CMf_X9_in_0
          by_cases hneg : 2147483648 ≤ v
          · rw [pb_t (slt_neg hneg h (by omega))]
            rfl
          · rw [pb_f (slt_f (by omega) (by omega))]
            unfold p_CMf_X9_in_5
            rw [pb_t (show s_gt v 4294967295 = true from slt_neg (by omega) (by omega) (by omega))]
            rfl
        rw [kseq_eq, po1_s this, pgeq_0 rfl]
        rfl
      · rw [ks (nsb (by omega) (by omega)), po1_s (in_gen h (by omega) (by omega)), if_neg (by omega), pgeq_0 rfl]
        rfl
