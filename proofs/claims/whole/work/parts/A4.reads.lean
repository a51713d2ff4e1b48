/-! ===== reads, by both; what the reference keeps ===== -/
theorem po9_s {α1 α2 α3 α4 α5 α6 α7 α8 α9 β : Type} {x : Option (α1 × α2 × α3 × α4 × α5 × α6 × α7 × α8 × α9)} {a1 : α1} {a2 : α2} {a3 : α3} {a4 : α4} {a5 : α5} {a6 : α6} {a7 : α7} {a8 : α8} {a9 : α9} {k : α1 → α2 → α3 → α4 → α5 → α6 → α7 → α8 → α9 → Option β} (h : x = some (a1, a2, a3, a4, a5, a6, a7, a8, a9)) : po9 x k = k a1 a2 a3 a4 a5 a6 a7 a8 a9 := by rw [h]; rfl
theorem hold_loop {nw : Nat → Nat} (hk : ∀ k, k < 5 → ∃ c, nw k = c + 1) : ∀ (w f k : Nat) (hd : Nat → Nat), k + w = 5 → w < f → (∀ j, j < k → hd j = nw j) → ∃ hd', pj_CMf_X9_hold f nw hd k = some hd' ∧ ∀ j, j < 5 → hd' j = nw j
  | 0, f + 1, k, hd, hw, _, h => by
    refine ⟨hd, ?_, fun j hj => h j (by omega)⟩
    show p_CMf_X9_hold_2 (pj_CMf_X9_hold f) nw hd k = _
    unfold p_CMf_X9_hold_2
    rw [pb_f (slt_f (by omega) (by omega))]
    rfl
  | w + 1, f + 1, k, hd, hw, hf, h => by
    obtain ⟨c, hc⟩ := hk k (by omega)
    obtain ⟨hd', e1, e2⟩ := hold_loop hk w f (k + 1) (uf hd k (Nat.succ c)) (by omega) (by omega) (fun j hj => by
      by_cases e : j = k
      · rw [uf_same e, e, hc]
      · rw [uf_ne e]
        exact h j (by omega))
    refine ⟨hd', ?_, e2⟩
    show p_CMf_X9_hold_2 (pj_CMf_X9_hold f) nw hd k = _
    unfold p_CMf_X9_hold_2
    rw [pb_t (slt_t (by omega) (by omega))]
    unfold p_CMf_X9_hold_7
    rw [pq_t (bl_t (by omega)), pn_s hc, pq_t (bl_t (by omega)), ks (ninc (by omega))]
    exact e1
theorem hold_ok {nw : Nat → Nat} (hk : ∀ k, k < 5 → ∃ c, nw k = c + 1) (hd : Nat → Nat) : ∃ hd', P_CMf_X9_hold nw hd = some hd' ∧ ∀ j, j < 5 → hd' j = nw j := hold_loop hk 5 11 0 hd (by omega) (by omega) (fun j hj => by omega)
theorem puj1 (k : Nat) : (pj_CMf_X9_push (k + 1)).1 = p_CMf_X9_push_10 (pj_CMf_X9_push k) := by rw [pjs_CMf_X9_push]
theorem puj2 (k : Nat) : (pj_CMf_X9_push (k + 1)).2 = p_CMf_X9_push_48 (pj_CMf_X9_push k) := by rw [pjs_CMf_X9_push]
theorem push_b {hd : Nat → Nat} (hk : ∀ k, k < 5 → ∃ c, hd k = c + 1) {q : Nat} (hq : q < 5) : ∀ (w f k : Nat) (ps : Nat → Nat), k + w = 5 → w ≤ f → ∃ ps', p_CMf_X9_push_48 (pj_CMf_X9_push f) q hd ps k = some (q + 1, ps') ∧ (∀ j, k ≤ j → j < 5 → ps' (5 * q + j) = hd j) ∧ ∀ j, j < 5 * q + k → ps' j = ps j
  | 0, f, k, ps, hw, _ => by
    refine ⟨ps, ?_, fun j h1 h2 => by omega, fun _ _ => rfl⟩
    unfold p_CMf_X9_push_48
    rw [pb_f (slt_f (by omega) (by omega))]
    unfold p_CMf_X9_push_78
    rw [ks (na (by omega))]
  | w + 1, f, k, ps, hw, hf => by
    obtain ⟨f, rfl⟩ : ∃ f', f = f' + 1 := ⟨f - 1, by omega⟩
    obtain ⟨c, hc⟩ := hk k (by omega)
    obtain ⟨ps', e1, e2, e3⟩ := push_b hk hq w f (k + 1) (uf ps (5 * q + k) (Nat.succ c)) (by omega) (by omega)
    refine ⟨ps', ?_, fun j h1 h2 => ?_, fun j hj => by rw [e3 j (by omega), uf_ne (by omega)]⟩
    · unfold p_CMf_X9_push_48
      rw [pb_t (slt_t (by omega) (by omega))]
      unfold p_CMf_X9_push_53
      rw [ks (nm (by omega)), ks (na (by omega)), pq_t (bl_t (by omega)), pn_s hc, pq_t (bl_t (by omega)), ks (ninc (by omega)), puj2]
      exact e1
    · by_cases e : j = k
      · rw [e3 _ (by omega), uf_same (by omega), e, hc]
      · exact e2 j (by omega) h2
theorem push_a {hd : Nat → Nat} : ∀ (w f k : Nat) (ps : Nat → Nat), k + w = 20 → (∀ j, k + 5 ≤ j → j < 25 → ∃ c, ps j = c + 1) → ∃ ps', p_CMf_X9_push_10 (pj_CMf_X9_push (f + w)) 5 hd ps k = p_CMf_X9_push_36 (pj_CMf_X9_push f) 5 hd ps' ∧ (∀ j, k ≤ j → j < 20 → ps' j = ps (j + 5)) ∧ ∀ j, j < k → ps' j = ps j
  | 0, f, k, ps, hw, _ => by
    refine ⟨ps, ?_, fun j h1 h2 => by omega, fun _ _ => rfl⟩
    unfold p_CMf_X9_push_10
    rw [pb_f (slt_f (by omega) (by omega))]
    rfl
  | w + 1, f, k, ps, hw, hk => by
    obtain ⟨c, hc⟩ := hk (k + 5) (by omega) (by omega)
    obtain ⟨ps', e1, e2, e3⟩ := push_a w f (k + 1) (uf ps k (Nat.succ c)) (by omega) (fun j h1 h2 => by rw [uf_ne (by omega)]; exact hk j (by omega) h2)
    refine ⟨ps', ?_, fun j h1 h2 => ?_, fun j hj => by rw [e3 j (by omega), uf_ne (by omega)]⟩
    · rw [← e1]
      rw [show p_CMf_X9_push_10 (pj_CMf_X9_push (f + (w + 1))) 5 hd ps k = p_CMf_X9_push_16 (pj_CMf_X9_push (f + (w + 1))) 5 hd ps k from pb_t (slt_t (by omega) (by omega))]
      unfold p_CMf_X9_push_16
      rw [ks (na (by omega)), pq_t (bl_t (by omega)), pn_s hc, pq_t (bl_t (by omega)), ks (ninc (by omega)), show f + (w + 1) = (f + w) + 1 from rfl, puj1]
    · by_cases e : j = k
      · rw [e3 _ (by omega), uf_same e, e, hc]
      · rw [e2 j (by omega) h2, uf_ne (by omega)]
/-- one more state is kept, the oldest is lost -/
theorem push_ok {hd ps : Nat → Nat} {n : Nat} (hn : n ≤ 5) (hk : ∀ k, k < 5 → ∃ c, hd k = c + 1) (hp : ∀ j, j < 5 * n → ∃ c, ps j = c + 1) : ∃ ps', P_CMf_X9_push n hd ps = some ((if n = 5 then 4 else n) + 1, ps') ∧ (∀ k, k < 5 → ps' (5 * (if n = 5 then 4 else n) + k) = hd k) ∧ ∀ j, j < 5 * (if n = 5 then 4 else n) → ps' j = ps (j + (if n = 5 then 5 else 0)) := by
  unfold P_CMf_X9_push p_CMf_X9_push_0
  by_cases h5 : n = 5
  · subst h5
    rw [pb_t (Nat.beq_refl _), if_pos rfl, if_pos rfl]
    unfold p_CMf_X9_push_8
    obtain ⟨ps1, e1, e2, -⟩ := push_a (hd := hd) 20 10 0 ps (by omega) (fun j h1 h2 => hp j (by omega))
    obtain ⟨ps', f1, f2, f3⟩ := push_b hk (q := 4) (by omega) 5 10 0 ps1 (by omega) (by omega)
    refine ⟨ps', ?_, fun k hk => f2 k (Nat.zero_le _) hk, fun j hj => ?_⟩
    · have e1 : p_CMf_X9_push_10 (pj_CMf_X9_push 30) 5 hd ps 0 = p_CMf_X9_push_36 (pj_CMf_X9_push 10) 5 hd ps1 := e1
      rw [e1]
      unfold p_CMf_X9_push_36
      rw [ks (nsb (by omega) (by omega))]
      exact f1
    · rw [f3 j (by omega)]
      exact e2 j (Nat.zero_le _) (by omega)
  · rw [pb_f (be_f h5), if_neg h5, if_neg h5]
    obtain ⟨ps', f1, f2, f3⟩ := push_b hk (q := n) (by omega) 5 30 0 ps (by omega) (by omega)
    exact ⟨ps', f1, fun k hk => f2 k (Nat.zero_le _) hk, fun j hj => f3 j (by omega)⟩
theorem back_loop {q : Nat} (hq : q < 5) {ps : Nat → Nat} (hp : ∀ k, k < 5 → ∃ c, ps (5 * q + k) = c + 1) {ref : Nat} : ∀ (w f k : Nat) (nw : Nat → Nat), k + w = 5 → w < f → (∀ j, j < k → nw j = ps (5 * q + j)) → ∃ nw', pj_CMf_X9_back f q nw ps ref k = some (q, q, 0, nw', ref) ∧ ∀ j, j < 5 → nw' j = ps (5 * q + j)
  | 0, f + 1, k, nw, hw, _, h => by
    refine ⟨nw, ?_, fun j hj => h j (by omega)⟩
    show p_CMf_X9_back_26 (pj_CMf_X9_back f) q nw ps ref k = _
    unfold p_CMf_X9_back_26
    rw [pb_f (slt_f (by omega) (by omega))]
    rfl
  | w + 1, f + 1, k, nw, hw, hf, h => by
    obtain ⟨c, hc⟩ := hp k (by omega)
    obtain ⟨nw', e1, e2⟩ := back_loop hq hp (ref := ref) w f (k + 1) (uf nw k (Nat.succ c)) (by omega) (by omega) (fun j hj => by
      by_cases e : j = k
      · rw [uf_same e, e, hc]
      · rw [uf_ne e]
        exact h j (by omega))
    refine ⟨nw', ?_, e2⟩
    show p_CMf_X9_back_26 (pj_CMf_X9_back f) q nw ps ref k = _
    unfold p_CMf_X9_back_26
    rw [pb_t (slt_t (by omega) (by omega))]
    unfold p_CMf_X9_back_31
    rw [ks (nm (by omega)), ks (na (by omega)), pq_t (bl_t (by omega)), pn_s hc, pq_t (bl_t (by omega)), ks (ninc (by omega))]
    exact e1
theorem back_ok {n lai ref : Nat} {nw ps : Nat → Nat} (h0 : 0 < n) (hn : n ≤ 5) (hp : ∀ j, j < 5 * n → ∃ c, ps j = c + 1) : ∃ nw', P_CMf_X9_back n lai nw ps ref = some (n - 1, n - 1, 0, nw', ref) ∧ ∀ k, k < 5 → nw' k = ps (5 * (n - 1) + k) := by
  obtain ⟨nw', e1, e2⟩ := back_loop (q := n - 1) (by omega) (ps := ps) (fun k hk => hp _ (by omega)) (ref := ref) 5 301 0 nw (by omega) (by omega) (fun j hj => by omega)
  refine ⟨nw', ?_, e2⟩
  unfold P_CMf_X9_back p_CMf_X9_back_0
  rw [pgeq_s (by omega)]
  unfold p_CMf_X9_back_14
  rw [ks (nsb (by omega) (by omega))]
  exact e1
theorem undo_loop {held : Nat → Nat} (hk : ∀ k, k < 5 → ∃ c, held k = c + 1) {pasts a b o pt x : Nat} {past t la nb : Nat → Nat} (hx : x < 27) : ∀ (w f k : Nat) (nw : Nat → Nat), k + w = 5 → w ≤ f → (∀ j, j < k → nw j = held j) → ∃ nw', p_CMf_X9_reads_104 (pj_CMf_X9_reads f) pasts a b o pt nw held past t la nb x k = some (4294966296 - x, pasts, 0, a, b, o, pt, nw', held, past, la, nb) ∧ ∀ j, j < 5 → nw' j = held j
  | 0, f, k, nw, hw, _, h => by
    refine ⟨nw, ?_, fun j hj => h j (by omega)⟩
    unfold p_CMf_X9_reads_104
    rw [pb_f (slt_f (by omega) (by omega))]
    unfold p_CMf_X9_reads_127
    rw [pq_t (bl_t (by omega)), ks (nsb (by omega) (by omega))]
  | w + 1, f, k, nw, hw, hf, h => by
    obtain ⟨f, rfl⟩ : ∃ f', f = f' + 1 := ⟨f - 1, by omega⟩
    obtain ⟨c, hc⟩ := hk k (by omega)
    obtain ⟨nw', e1, e2⟩ := undo_loop hk (pasts := pasts) (a := a) (b := b) (o := o) (pt := pt) (past := past) (t := t) (la := la) (nb := nb) hx w f (k + 1) (uf nw k (Nat.succ c)) (by omega) (by omega) (fun j hj => by
      by_cases e : j = k
      · rw [uf_same e, e, hc]
      · rw [uf_ne e]
        exact h j (by omega))
    refine ⟨nw', ?_, e2⟩
    unfold p_CMf_X9_reads_104
    rw [pb_t (slt_t (by omega) (by omega))]
    unfold p_CMf_X9_reads_109
    rw [pq_t (bl_t (by omega)), pn_s hc, pq_t (bl_t (by omega)), ks (ninc (by omega)), rdj3]
    exact e1
theorem st_known {pts cnt : Nat} {tc nw : Nat → Nat} (hs : stR pts cnt tc nw) (hv : vS pts cnt tc) : ∀ k, k < 5 → ∃ c, nw k = c + 1 := by
  intro k hk
  match k with
  | 0 => exact ⟨_, hs.1⟩
  | 1 => exact ⟨_, hs.2.1⟩
  | k + 2 =>
    have := hs.2.2 k (by omega)
    rw [show 2 + k = k + 2 by omega] at this
    rw [this]
    exact hv.2.2.2.1 k (by omega)
/-- reads: both answer the same; either nothing has changed, or both have come to the same state -/
theorem reads_both {t : Nat → Nat} {len pts cnt lai pasts num du sn : Nat} {tc nw held past ka na la nb : Nat → Nat} (hl : len ≤ 80) (hk : ∀ k, k < len → ∃ b, t k = b + 1 ∧ b < 128) (hs : stR pts cnt tc nw) (hv : vS pts cnt tc) (hn : pasts ≤ 5) (hp : ∀ j, j < 5 * pasts → ∃ c, past j = c + 1) : ∃ ret pts' cnt' tc' o2 c1 c2 c3 c4 c5 ka' na' pasts' lai' a1 a2 a3 a4 nw' held' past' la' nb', P_CX_X4_carryOut_17_3 pts cnt tc len num du sn t ka na = some (ret, pts', cnt', tc', o2, c1, c2, c3, c4, c5, ka', na') ∧ P_CMf_X9_reads pasts lai len nw held past t la nb = some (ret, pasts', lai', a1, a2, a3, a4, nw', held', past', la', nb') ∧ ret < 4294967296 ∧ ((2147483648 ≤ ret ∧ pasts' = pasts ∧ past' = past ∧ (lai' = lai ∨ lai' = 0) ∧ ∀ k, k < 5 → nw' k = nw k) ∨ (ret < 2147483648 ∧ lai' = 0 ∧ stR pts' cnt' tc' nw' ∧ vS pts' cnt' tc' ∧ pasts' = (if pasts = 5 then 4 else pasts) + 1 ∧ (∀ k, k < 5 → past' (5 * (if pasts = 5 then 4 else pasts) + k) = nw k) ∧ ∀ j, j < 5 * (if pasts = 5 then 4 else pasts) → past' j = past (j + (if pasts = 5 then 5 else 0)))) := by
  have hv0 := hv
  obtain ⟨v1, v5, v3, vk, vm⟩ := hv0
  have hkn := st_known hs hv
  -- the class's end out of its reading
  have clF : ∀ q rest, FF t len 0 0 0 num du sn pts ka na (q, rest) → q ≤ len → ∃ o2 c1 c2 c3 c4 c5 ka' na', P_CX_X4_carryOut_17_3 pts cnt tc len num du sn t ka na = some (4294967286 - q, pts, cnt, tc, o2, c1, c2, c3, c4, c5, ka', na') := fun q rest h hq => by
    have h1 : P_CX_X4_findFault_17 len num du sn t ka na pts = some (q, rest) := h 91 (by omega)
    obtain ⟨o2, c1, c2, c3, c4, c5, ka', na'⟩ := rest
    refine ⟨o2, c1, c2, c3, c4, c5, ka', na', ?_⟩
    unfold P_CX_X4_carryOut_17_3 p_CX_X4_carryOut_17_3_0
    rw [h1]
    show pb (Nat.beq q 4294967295) (p_CX_X4_carryOut_17_3_19 (pj_CX_X4_carryOut_17_3 30) pts cnt tc o2 c1 c2 c3 c4 c5 t ka' na') (p_CX_X4_carryOut_17_3_14 (pj_CX_X4_carryOut_17_3 30) pts cnt tc o2 c1 c2 c3 c4 c5 t ka' na' q) = _
    rw [pb_f (be_f (by omega))]
    unfold p_CX_X4_carryOut_17_3_14
    rw [ks (nsb (by omega) (by omega))]
  obtain ⟨i', a1, a2, a3, a4⟩ := here_ok hl hk (Nat.zero_le len)
  rcases a4 with ⟨e1, e2⟩ | ⟨e1, c, c1, c2, c3, e2⟩
  · -- nothing but blanks
    have hff := FF_skip (o := 0) (kd := 0) (nm := num) (du := du) (sn := sn) (pt := pts) (ka := ka) (na := na) hl len 0 (by omega) (fun k h1 h2 => a3 k h1 (by omega)) (FF_end (t := t) (i := 0 + len) hl (by omega) (by omega))
    rw [if_neg (by omega)] at hff
    obtain ⟨o2, z1, z2, z3, z4, z5, ka', na', hX⟩ := clF len _ hff (Nat.le_refl _)
    refine ⟨_, _, _, _, _, _, _, _, _, _, _, _, pasts, lai, len, 4294967295, 0, pts, nw, held, past, la, nb, hX, ?_, by omega, Or.inl ⟨by omega, rfl, rfl, Or.inl rfl, fun _ _ => rfl⟩⟩
    unfold P_CMf_X9_reads p_CMf_X9_reads_0
    rw [pq_t (bl_t (by omega)), pn_s hs.1, po2_s e2, pb_t (Nat.beq_refl _)]
    unfold p_CMf_X9_reads_33
    rw [ks (nsb (by omega) (by omega))]
  · have skip : ∀ res, FF t len i' 0 0 num du sn pts ka na res → FF t len 0 0 0 num du sn pts ka na res := fun res h => FF_skip hl i' 0 (by omega) (fun k h1 h2 => a3 k h1 (by omega)) (by rw [show 0 + i' = i' by omega]; exact h)
    have hM : P_CMf_X9_reads pasts lai len nw held past t la nb = p_CMf_X9_reads_41 (pj_CMf_X9_reads 200) pasts lai len i' 4294967295 0 pts nw held past t la nb := by
      unfold P_CMf_X9_reads p_CMf_X9_reads_0
      rw [pq_t (bl_t (by omega)), pn_s hs.1, po2_s e2, pb_f (be_f (by omega))]
    rcases parse_both hl hk (pasts := pasts) (lai := lai) (now := nw) (held := held) (past := past) (len - i') 100 200 i' 0 num du sn pts ka na la nb (by omega) (by omega) (by omega) v1 v5 (fun k hk => by omega) (Or.inr ⟨i', Nat.le_refl _, e1, by omega⟩) with ⟨f', at2, o2, pt2, la2, nb2, ka2, na2, b1, b2, b3, b4, b5, z1, z2, z3, z4, z5, z6⟩ | ⟨f', at2, q, o2, pt2, la2, nb2, rest, z1, z2, z3, z4⟩
    · obtain ⟨hd', g1, g2⟩ := hold_ok hkn held
      have hdk : ∀ k, k < 5 → ∃ c, hd' k = c + 1 := fun k hk => by rw [g2 k hk]; exact hkn k hk
      have hX0 : P_CX_X4_findFault_17 len num du sn t ka na pts = some (4294967295, o2, b1, b2, b3, b4, b5, ka2, na2) := skip _ z6 91 (by omega)
      have hX : P_CX_X4_carryOut_17_3 pts cnt tc len num du sn t ka na = pj_CX_X4_carryOut_17_3 31 pts cnt tc o2 b1 b2 b3 b4 b5 t ka2 na2 0 := by
        unfold P_CX_X4_carryOut_17_3 p_CX_X4_carryOut_17_3_0
        rw [po9_s hX0, pb_t (Nat.beq_refl _)]
        unfold p_CX_X4_carryOut_17_3_19
        rw [show (31 : Nat) = 30 + 1 from rfl, pjs_CX_X4_carryOut_17_3 30]
      have hM2 : P_CMf_X9_reads pasts lai len nw held past t la nb = p_CMf_X9_reads_86 (pj_CMf_X9_reads f') pasts lai at2 4294967295 o2 pt2 nw hd' past t la2 nb2 0 := by
        rw [hM, z2]
        unfold p_CMf_X9_reads_64
        rw [pb_t (Nat.beq_refl _)]
        unfold p_CMf_X9_reads_80
        rw [po1_s g1]
      rcases exec_both (a1 := b1) (a2 := b2) (a3 := b3) (a4 := b4) (a5 := b5) (pasts := pasts) (at2 := at2) (fl := 4294967295) (ptm := pt2) (t := t) (held := hd') (past := past) z4 z5 o2 10 f' 31 0 pts cnt lai tc nw (by omega) (by omega) (by omega) hs hv with ⟨p2, k2, t2, l2, n2, f2, r1, r2, r3, r4, r5, r6⟩ | ⟨x, p2, k2, t2, n2, f2, r0, r1, r2, r3⟩
      · obtain ⟨ps', u1, u2, u3⟩ := push_ok hn hdk hp
        refine ⟨_, _, _, _, _, _, _, _, _, _, _, _, (if pasts = 5 then 4 else pasts) + 1, l2, at2, 4294967295, o2, pt2, n2, hd', ps', la2, nb2, hX.trans r1, ?_, by omega, Or.inr ⟨by omega, ?_, r4, r5, rfl, fun k hk => by rw [u2 k hk, g2 k hk], u3⟩⟩
        · rw [hM2, r3]
          unfold p_CMf_X9_reads_144
          rw [po2_s u1]
        · rcases r6 with r6 | ⟨r6, -⟩
          · exact r6
          · omega
      · obtain ⟨nw', u1, u2⟩ := undo_loop hdk (pasts := pasts) (a := at2) (b := 4294967295) (o := o2) (pt := pt2) (past := past) (t := t) (la := la2) (nb := nb2) r0 5 f2 0 n2 (by omega) (by omega) (fun j hj => by omega)
        refine ⟨_, _, _, _, _, _, _, _, _, _, _, _, pasts, 0, at2, 4294967295, o2, pt2, nw', hd', past, la2, nb2, hX.trans r1, ?_, by omega, Or.inl ⟨by omega, rfl, rfl, Or.inr rfl, fun k hk => by rw [u2 k hk, g2 k hk]⟩⟩
        rw [hM2, r3]
        exact u1
    · obtain ⟨o3, y1, y2, y3, y4, y5, ka', na', hX⟩ := clF q _ (skip _ z4) z3
      refine ⟨_, _, _, _, _, _, _, _, _, _, _, _, pasts, lai, at2, q, o2, pt2, nw, held, past, la2, nb2, hX, ?_, by omega, Or.inl ⟨by omega, rfl, rfl, Or.inl rfl, fun _ _ => rfl⟩⟩
      rw [hM, z2]
      unfold p_CMf_X9_reads_64
      rw [pb_f (be_f (by omega))]
      unfold p_CMf_X9_reads_72
      rw [ks (nsb (by omega) (by omega))]
