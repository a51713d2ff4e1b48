/-! ===== the reference: figures, products, places ===== -/
theorem cfold_dg {d : Nat → Nat} : ∀ (N : Nat), (∀ p, p < N → d p < 10) → ∀ p, p < N → dgc N (cfold d N) p = d p
  | 0, _, p, hp => by omega
  | N + 1, h, p, hp => by
    have hN := h N (by omega)
    show (10 * cfold d N + d N) / 10 ^ (N + 1 - 1 - p) % 10 = d p
    by_cases hpN : p = N
    · subst hpN
      rw [show p + 1 - 1 - p = 0 by omega, Nat.pow_zero, Nat.div_one]
      omega
    · have ih := cfold_dg N (fun q hq => h q (by omega)) p (by omega)
      have ih : cfold d N / 10 ^ (N - 1 - p) % 10 = d p := ih
      rw [show N + 1 - 1 - p = (N - 1 - p) + 1 by omega, Nat.pow_succ', ← Nat.div_div_eq_div_mul, show (10 * cfold d N + d N) / 10 = cfold d N by omega]
      exact ih
theorem to_loop {nw : Nat → Nat} {p : Nat} : ∀ (w f v : Nat), p + w < 100 → w < f → v < 2147483648 → pj_CMf_X9_to f nw p v (p + w) = some (v / 10 ^ w % 10)
  | 0, f + 1, v, _, _, hv => by
    show p_CMf_X9_to_12 _ nw p v p = _
    unfold p_CMf_X9_to_12
    rw [pb_f (show s_gt p p = false from slt_f (Nat.le_refl _) (by omega))]
    unfold p_CMf_X9_to_29
    rw [ks (nrm hv), Nat.pow_zero, Nat.div_one]
  | w + 1, f + 1, v, hb, hf, hv => by
    have hd : v / 10 < 2147483648 := Nat.lt_of_le_of_lt (Nat.div_le_self v 10) hv
    show p_CMf_X9_to_12 (pj_CMf_X9_to f) nw p v (p + (w + 1)) = _
    unfold p_CMf_X9_to_12
    rw [pb_t (show s_gt (p + (w + 1)) p = true from slt_t (by omega) (by omega))]
    unfold p_CMf_X9_to_18
    rw [ks (ndv hv), ks (ndec (by omega) (by omega)), show p + (w + 1) - 1 = p + w by omega, to_loop w f (v / 10) (by omega) (by omega) hd, Nat.pow_succ', Nat.div_div_eq_div_mul]
theorem to_ok {N : Nat} (h5 : N ≤ 5) {nw : Nat → Nat} (h0 : nw 0 = N + 1) {c p : Nat} (hp : p < N) (hc : c < 2147483648) : P_CMf_X9_to nw c p = some (dgc N c p) := by
  unfold P_CMf_X9_to p_CMf_X9_to_0
  rw [pq_t (bl_t (by omega)), pn_s h0, ks (nsb (by omega) (by omega))]
  have := to_loop (nw := nw) (p := p) (N - 1 - p) 11 c (by omega) (by omega) hc
  rw [show p + (N - 1 - p) = N - 1 by omega] at this
  exact this
theorem stays_loop {N : Nat} (h5 : N ≤ 5) {nw : Nat → Nat} (h0 : nw 0 = N + 1) : ∀ (w f p : Nat), p + w = N → w < f → pj_CMf_X9_stays f nw (cfold (fun q => q) p) p = some (cfold (fun q => q) N)
  | 0, f + 1, p, hp, _ => by
    show p_CMf_X9_stays_4 _ nw _ p = _
    unfold p_CMf_X9_stays_4
    rw [pq_t (bl_t (by omega)), pn_s h0, pb_f (slt_f (by omega) (by omega)), show p = N by omega]
    rfl
  | w + 1, f + 1, p, hp, hf => by
    have hcp := cfold_lt (d := fun q => q) p (fun q hq => by show q < 10; omega)
    have h4 : 10 ^ p ≤ 10 ^ 5 := Nat.pow_le_pow_right (by omega) (by omega)
    show p_CMf_X9_stays_4 (pj_CMf_X9_stays f) nw _ p = _
    unfold p_CMf_X9_stays_4
    rw [pq_t (bl_t (by omega)), pn_s h0, pb_t (slt_t (by omega) (by omega))]
    unfold p_CMf_X9_stays_14
    rw [ks (nm (by omega)), ks (na (by omega)), ks (ninc (by omega))]
    exact stays_loop h5 h0 w f (p + 1) (by omega) (by omega)
theorem stays_ok {N : Nat} (h5 : N ≤ 5) {nw : Nat → Nat} (h0 : nw 0 = N + 1) : P_CMf_X9_stays nw = some (cfold (fun q => q) N) := stays_loop h5 h0 N 11 0 (by omega) (by omega)
theorem both_loop {N : Nat} (h5 : N ≤ 5) {nw : Nat → Nat} (h0 : nw 0 = N + 1) {b c : Nat} (hb : b < 2147483648) (hc : c < 2147483648) (hd : ∀ p, p < N → dgc N b p < N) : ∀ (w f p : Nat), p + w = N → w < f → pj_CMf_X9_both f nw b c (cfold (fun q => dgc N c (dgc N b q)) p) p = some (cfold (fun q => dgc N c (dgc N b q)) N)
  | 0, f + 1, p, hp, _ => by
    show p_CMf_X9_both_5 _ nw b c _ p = _
    unfold p_CMf_X9_both_5
    rw [pq_t (bl_t (by omega)), pn_s h0, pb_f (slt_f (by omega) (by omega)), show p = N by omega]
    rfl
  | w + 1, f + 1, p, hp, hf => by
    have hcp := cfold_lt (d := fun q => dgc N c (dgc N b q)) p (fun q hq => Nat.mod_lt _ (by omega))
    have h4 : 10 ^ p ≤ 10 ^ 5 := Nat.pow_le_pow_right (by omega) (by omega)
    have hx : dgc N c (dgc N b p) < 10 := Nat.mod_lt _ (by omega)
    show p_CMf_X9_both_5 (pj_CMf_X9_both f) nw b c _ p = _
    unfold p_CMf_X9_both_5
    rw [pq_t (bl_t (by omega)), pn_s h0, pb_t (slt_t (by omega) (by omega))]
    unfold p_CMf_X9_both_16
    rw [ks (nm (by omega)), po1_s (to_ok h5 h0 (p := p) (by omega) hb), po1_s (to_ok h5 h0 (hd p (by omega)) hc), ks (na (by omega)), ks (ninc (by omega))]
    exact both_loop h5 h0 hb hc hd w f (p + 1) (by omega) (by omega)
theorem both_ok {N : Nat} (h5 : N ≤ 5) {nw : Nat → Nat} (h0 : nw 0 = N + 1) {b c : Nat} (hb : b < 2147483648) (hc : c < 2147483648) (hd : ∀ p, p < N → dgc N b p < N) : P_CMf_X9_both nw b c = some (cfold (fun q => dgc N c (dgc N b q)) N) := both_loop h5 h0 hb hc hd N 11 0 (by omega) (by omega)
theorem find_loop {o : Nat} (ho : o ≤ 120) {el e : Nat → Nat} (he : ∀ i, i < o → el i = e i + 1) {c t : Nat} (ht : t ≤ o) (hno : ∀ i, i < t → e i ≠ c) (hyes : t < o → e t = c) : ∀ (w f i : Nat), i + w = t → w < f → pj_CMf_X9_find f o el c i = some t
  | 0, f + 1, i, hi, _ => by
    have e0 : i = t := by omega
    subst e0
    show p_CMf_X9_find_2 _ o el c i = _
    unfold p_CMf_X9_find_2
    by_cases hio : i < o
    · rw [pb_t (slt_t hio (by omega))]
      unfold p_CMf_X9_find_10
      rw [pq_t (bl_t (by omega)), pn_s (he i hio), pb_t (by rw [hyes hio]; exact Nat.beq_refl c)]
      rfl
    · rw [pb_f (slt_f (by omega) (by omega))]
      rfl
  | w + 1, f + 1, i, hi, hf => by
    show p_CMf_X9_find_2 (pj_CMf_X9_find f) o el c i = _
    unfold p_CMf_X9_find_2
    rw [pb_t (slt_t (by omega) (by omega))]
    unfold p_CMf_X9_find_10
    rw [pq_t (bl_t (by omega)), pn_s (he i (by omega)), pb_f (be_f (hno i (by omega)))]
    unfold p_CMf_X9_find_20
    rw [ks (ninc (by omega))]
    exact find_loop ho he ht hno hyes w f (i + 1) (by omega) (by omega)
theorem find_ok {o : Nat} (ho : o ≤ 120) {el e : Nat → Nat} (he : ∀ i, i < o → el i = e i + 1) {c t : Nat} (ht : t ≤ o) (hno : ∀ i, i < t → e i ≠ c) (hyes : t < o → e t = c) : P_CMf_X9_find o el c = some t := find_loop ho he ht hno hyes t 131 0 (by omega) (by omega)
section BM
variable {N n : Nat} {dig : Nat → Nat → Nat} {key code : Nat → Nat} {M : Nat → Nat → Nat}
theorem gf_code (G : GF N n dig key code M) {z : Nat} (hz : z < n) : code z < 100000 ∧ ∀ p, p < N → dgc N (code z) p = dig z p := by
  obtain ⟨h1, h5, hn1, hn2, hd, -, -, -, -, hcd, -⟩ := G
  rw [hcd z hz]
  have a1 := cfold_lt (d := dig z) N (fun p hp => by have := hd z hz p hp; omega)
  have a2 : 10 ^ N ≤ 10 ^ 5 := Nat.pow_le_pow_right (by omega) (by omega)
  exact ⟨by omega, cfold_dg N (fun p hp => by have := hd z hz p hp; omega)⟩
theorem gf_inj (G : GF N n dig key code M) {z w : Nat} (hz : z < n) (hw : w < n) (h : code z = code w) : z = w := by
  have hm := G.2.2.2.2.2.2.2.2.2.2
  rcases Nat.lt_trichotomy z w with q | q | q
  · have := hm z w q hw
    omega
  · exact q
  · have := hm w z q hz
    omega
theorem gf_lt (G : GF N n dig key code M) {z w : Nat} (hz : z < n) (hw : w < n) : code z < code w ↔ z < w := by
  have hm := G.2.2.2.2.2.2.2.2.2.2
  constructor
  · intro h
    rcases Nat.lt_trichotomy z w with q | q | q
    · exact q
    · subst q
      omega
    · have := hm w z q hz
      omega
  · intro h
    exact hm z w h hw
theorem gf_both (G : GF N n dig key code M) {nw : Nat → Nat} (h0 : nw 0 = N + 1) {z w : Nat} (hz : z < n) (hw : w < n) : P_CMf_X9_both nw (code z) (code w) = some (code (M z w)) := by
  obtain ⟨c1, c2⟩ := gf_code G hz
  obtain ⟨c3, c4⟩ := gf_code G hw
  have G0 := G
  obtain ⟨h1, h5, hn1, hn2, hd, -, hM, -, -, hcd, -⟩ := G0
  rw [both_ok h5 h0 (by omega) (by omega) (fun p hp => by rw [c2 p hp]; exact hd z hz p hp), hcd _ (hM z w hz hw).1]
  congr 1
  exact cfold_eq N (fun p hp => by
    show dgc N (code w) (dgc N (code z) p) = _
    rw [c2 p hp, c4 _ (hd z hz p hp), (hM z w hz hw).2 p hp])
theorem gf_stays (G : GF N n dig key code M) {nw : Nat → Nat} (h0 : nw 0 = N + 1) : P_CMf_X9_stays nw = some (code 0) := by
  obtain ⟨h1, h5, hn1, hn2, hd, hid, -, -, -, hcd, -⟩ := G
  rw [stays_ok h5 h0, hcd 0 (by omega)]
  congr 1
  exact cfold_eq N (fun p hp => (hid p hp).symm)
/-- the elements beside the list of places -/
def elR (code : Nat → Nat) (L : List Nat) (el : Nat → Nat) : Prop := ∀ (i z : Nat), L[i]? = some z → el i = code z + 1
theorem find_in (G : GF N n dig key code M) {L : List Nat} (hn : L.Nodup) (hL : ∀ z ∈ L, z < n) {el : Nat → Nat} (he : elR code L el) {z : Nat} (hz : z < n) : ∃ t, P_CMf_X9_find L.length el (code z) = some t ∧ (z ∈ L → t < L.length) ∧ (z ∉ L → t = L.length) := by
  have hlen := nodup_le n L hn hL
  have hn2 := G.2.2.2.1
  have he' : ∀ i, i < L.length → el i = code (L.getD i 0) + 1 := fun i hi => by
    rw [List.getD_eq_getElem?_getD, List.getElem?_eq_getElem hi]
    exact he i _ (List.getElem?_eq_getElem hi)
  by_cases hm : z ∈ L
  · obtain ⟨t, ht, hz2⟩ := List.getElem_of_mem hm
    refine ⟨t, find_ok (by omega) he' (by omega) (fun i hi => ?_) (fun _ => ?_), fun _ => ht, fun h => absurd hm h⟩
    · rw [List.getD_eq_getElem?_getD, List.getElem?_eq_getElem (by omega)]
      show code (L[i]'(by omega)) ≠ code z
      intro h
      have h2 := gf_inj G (hL _ (List.getElem_mem (by omega))) hz h
      rw [← hz2] at h2
      have : i = t := nd_inj hn (List.getElem?_eq_getElem (by omega)) ((List.getElem?_eq_getElem ht).trans (congrArg some h2.symm))
      omega
    · rw [List.getD_eq_getElem?_getD, List.getElem?_eq_getElem ht, ← hz2]
      rfl
  · refine ⟨L.length, find_ok (by omega) he' (Nat.le_refl _) (fun i hi => ?_) (fun h => by omega), fun h => absurd h hm, fun _ => rfl⟩
    rw [List.getD_eq_getElem?_getD, List.getElem?_eq_getElem hi]
    show code L[i] ≠ code z
    intro h
    have h2 := gf_inj G (hL _ (List.getElem_mem hi)) hz h
    exact hm (h2 ▸ List.getElem_mem hi)
end BM
