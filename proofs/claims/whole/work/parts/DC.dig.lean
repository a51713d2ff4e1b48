/-! ===== digest: both fold the same values ===== -/
theorem eq2_some {x y : Option Nat} (h : (po1 x fun a => po1 y fun b => eqs a b <| some ()) = some ()) : ∃ r, x = some r ∧ y = some r := by
  obtain ⟨a, e1, h⟩ := po1_some h
  obtain ⟨b, e2, h⟩ := po1_some h
  obtain ⟨q, -⟩ := eqs_some h
  subst q
  exact ⟨_, e1, e2⟩
theorem dataD {g k A : Nat} (hg : g < 195) (hk : k < 4) (hA : A = anw (rg g 0) k) : (∀ w, w < 8 → ∃ r, P_CXr_X8_wholeAnswer k (Nat.succ (rg g 6)) (rg g 6) (rg g 10) (rg g 1) (rg g 8) (rg g 16) (rg g 17) (tg g 8) w = some r ∧ P_CMt_X9_ofAll 1 (rg g 1) (rg g 6) (rg g 10) (rg g 16) (rg g 17) A (rg g 8) (rg g 26) w = some r) ∧ (∀ i w, i < (rg g 6) → w < 6 → ∃ r, P_CXr_X8_sortAnswer (rg g 8) (rg g 11) (rg g 9) (rg g 12) (rg g 13) (rg g 15) i w = some r ∧ P_CMt_X9_ofSort A (rg g 2) (rg g 20) (rg g 22) (rg g 5) (rg g 21) (rg g 8) (rg g 9) i w = some r) ∧ ∀ q, q < (rg g 6) → (∃ d, pk 8 (tg g 8) q = d + 1 ∧ pk 8 (rg g 26) q = d + 1) ∧ (∀ i, i < (rg g 6) → ∃ x v, pk 16 (tg g 20) (Nat.add (Nat.mul 8 52) q) = x + 1 ∧ inb 57 42 x = true ∧ pk 8 (tg g 19) (Nat.add (Nat.mul 8 x) i) = v + 1 ∧ pk 8 (rg g 27) (8 * q + i) = v + 1) ∧ ∃ r, P_CXr_X3_mirrorSign_21 (Nat.succ (rg g 6)) (rg g 1) (rg g 8) (rg g 11) (rg g 15) (rg g 16) (rg g 18) (tg g 19) (tg g 20) q = some r ∧ P_CMt_X9_mirrorOf (rg g 1) (rg g 6) (rg g 16) A (rg g 2) (rg g 20) (rg g 22) (rg g 5) (rg g 21) (rg g 8) (rg g 9) (rg g 27) q = some r := by
  have h := isS (allD g hg)
  unfold chkD at h
  iterate 28 replace h := ps_some h
  iterate 4 replace h := ps_some h
  simp only [kget_eq] at h
  have h := ps_some (alN_some _ h k hk)
  have hA2 : A = Nat.add (Nat.succ (rg g 0)) (Nat.mul (Nat.succ k) (Nat.pow 2 40)) := hA
  clear hA
  have hA3 : Nat.add (Nat.succ ((RGS.getD g []).getD 0 0)) (Nat.mul (Nat.succ k) (Nat.pow 2 40)) = A := hA2.symm
  rw [hA3] at h
  clear hA2 hA3
  obtain ⟨_, e1, h⟩ := po1_some h
  obtain ⟨_, e2, h⟩ := po1_some h
  refine ⟨fun w hw => eq2_some (alN_some _ e1 w hw), fun i w hi hw => eq2_some (alN_some _ (alN_some _ e2 i hi) w hw), fun q hq => ?_⟩
  have h := alN_some _ h q hq
  obtain ⟨_, e3, h⟩ := po1_some h
  obtain ⟨_, e4, h⟩ := po1_some h
  obtain ⟨d, q1, e3⟩ := pn_some e3
  refine ⟨⟨d, q1, (eqs_some e3).1⟩, fun i hi => ?_, eq2_some h⟩
  have e4 := alN_some _ e4 i hi
  obtain ⟨x, q2, e4⟩ := pn_some e4
  obtain ⟨q3, e4⟩ := pq_some e4
  obtain ⟨v, q4, e4⟩ := pn_some e4
  exact ⟨x, v, q2, q3, q4, (eqs_some e4).1⟩
noncomputable def mixv (h v : Nat) : Nat := l_add (l_mul 31 h) (n_i2l v)
/-- k values from the w-th on -/
noncomputable def fm (V : Nat → Nat) : Nat → Nat → Nat → Nat
  | 0, _, h => h
  | k + 1, w, h => fm V k (w + 1) (mixv h (V w))
noncomputable def fsd (S : Nat → Nat → Nat) : Nat → Nat → Nat → Nat
  | 0, _, h => h
  | k + 1, i, h => fsd S k (i + 1) (fm (S i) 6 0 h)
noncomputable def frd (Dg Mi : Nat → Nat) (V : Nat → Nat → Nat) (n : Nat) : Nat → Nat → Nat → Nat
  | 0, _, h => h
  | k + 1, r, h => frd Dg Mi V n k (r + 1) (mixv (fm (V r) n 0 (mixv h (Dg r))) (Mi r))
theorem fm_add (V : Nat → Nat) : ∀ (a b w h : Nat), fm V (a + b) w h = fm V b (w + a) (fm V a w h)
  | 0, b, w, h => by rw [Nat.zero_add]; rfl
  | a + 1, b, w, h => by
    rw [show a + 1 + b = (a + b) + 1 by omega]
    show fm V (a + b) (w + 1) _ = fm V b (w + (a + 1)) (fm V a (w + 1) _)
    rw [fm_add V a b (w + 1), show w + 1 + a = w + (a + 1) by omega]
theorem fm_eq {V U : Nat → Nat} : ∀ (k v w h : Nat), (∀ j, j < k → V (v + j) = U (w + j)) → fm V k v h = fm U k w h
  | 0, _, _, _, _ => rfl
  | k + 1, v, w, h, e => by
    show fm V k (v + 1) (mixv h (V v)) = fm U k (w + 1) (mixv h (U w))
    have e0 := e 0 (by omega)
    rw [Nat.add_zero, Nat.add_zero] at e0
    rw [e0]
    exact fm_eq k (v + 1) (w + 1) _ (fun j hj => by
      have := e (j + 1) (by omega)
      rw [show v + 1 + j = v + (j + 1) by omega, show w + 1 + j = w + (j + 1) by omega]
      exact this)
theorem fsd_fm (S : Nat → Nat → Nat) : ∀ (k i h : Nat), fsd S k i h = fm (fun j => S (j / 6) (j % 6)) (6 * k) (6 * i) h
  | 0, _, _ => rfl
  | k + 1, i, h => by
    show fsd S k (i + 1) (fm (S i) 6 0 h) = _
    rw [fsd_fm S k (i + 1), show 6 * (k + 1) = 6 + 6 * k by omega, fm_add, show 6 * (i + 1) = 6 * i + 6 by omega]
    congr 1
    refine fm_eq 6 0 (6 * i) h (fun j hj => ?_)
    show S i (0 + j) = S ((6 * i + j) / 6) ((6 * i + j) % 6)
    rw [show (6 * i + j) / 6 = i by omega, show (6 * i + j) % 6 = 0 + j by omega]
section DGP
variable {g N cnt c len A : Nat} {R : Nat → Nat} {T Wv Dg Mi : Nat → Nat} {S V : Nat → Nat → Nat}
set_option maxRecDepth 100000 in
theorem dx1  (hT : ∀ w, w < 7 → P_CXr_X8_told N cnt c len R w = some (T w, R)) : ∀ (k f w h : Nat), w + k = 7 → p_CXr_X8_digest_10 (pj_CXr_X8_digest (f + k)) N cnt c len (Nat.succ (rg g 6)) (rg g 6) (rg g 10) (rg g 1) (rg g 8) (rg g 11) (rg g 9) (rg g 12) (rg g 13) (rg g 15) (rg g 16) (rg g 17) (rg g 18) (tg g 8) R (tg g 19) (tg g 20) h w = p_CXr_X8_digest_35 (pj_CXr_X8_digest (f)) cnt (Nat.succ (rg g 6)) (rg g 6) (rg g 10) (rg g 1) (rg g 8) (rg g 11) (rg g 9) (rg g 12) (rg g 13) (rg g 15) (rg g 16) (rg g 17) (rg g 18) (tg g 8) R (tg g 19) (tg g 20) (fm T k w h)
  | 0, f, w, h, hw => by
    unfold p_CXr_X8_digest_10
    rw [pb_f (slt_f (by omega) (by omega))]
    rfl
  | k + 1, f, w, h, hw => by
    have ej : (pj_CXr_X8_digest (f + (k + 1))).1 = p_CXr_X8_digest_10 (pj_CXr_X8_digest (f + k)) := by rw [show f + (k + 1) = (f + k) + 1 from rfl, pjs_CXr_X8_digest]
    unfold p_CXr_X8_digest_10
    rw [pb_t (slt_t (by omega) (by omega))]
    unfold p_CXr_X8_digest_16
    rw [kseq_eq, po2_s (hT w (by omega)), kseq_eq, kseq_eq, ks (ninc (a := w) (c := 1) (by omega)), ej]
    exact dx1 hT k f (w + 1) _ (by omega)
set_option maxRecDepth 100000 in
theorem dx2  (hW : ∀ w, w < 8 → P_CXr_X8_wholeAnswer cnt (Nat.succ (rg g 6)) (rg g 6) (rg g 10) (rg g 1) (rg g 8) (rg g 16) (rg g 17) (tg g 8) w = some (Wv w)) : ∀ (k f w h : Nat), w + k = 8 → p_CXr_X8_digest_37 (pj_CXr_X8_digest (f + k)) cnt (Nat.succ (rg g 6)) (rg g 6) (rg g 10) (rg g 1) (rg g 8) (rg g 11) (rg g 9) (rg g 12) (rg g 13) (rg g 15) (rg g 16) (rg g 17) (rg g 18) (tg g 8) R (tg g 19) (tg g 20) h w = p_CXr_X8_digest_62 (pj_CXr_X8_digest (f)) (Nat.succ (rg g 6)) (rg g 6) (rg g 1) (rg g 8) (rg g 11) (rg g 9) (rg g 12) (rg g 13) (rg g 15) (rg g 16) (rg g 18) (tg g 8) R (tg g 19) (tg g 20) (fm Wv k w h)
  | 0, f, w, h, hw => by
    unfold p_CXr_X8_digest_37
    rw [pb_f (slt_f (by omega) (by omega))]
    rfl
  | k + 1, f, w, h, hw => by
    have ej : (pj_CXr_X8_digest (f + (k + 1))).2.1 = p_CXr_X8_digest_37 (pj_CXr_X8_digest (f + k)) := by rw [show f + (k + 1) = (f + k) + 1 from rfl, pjs_CXr_X8_digest]
    unfold p_CXr_X8_digest_37
    rw [pb_t (slt_t (by omega) (by omega))]
    unfold p_CXr_X8_digest_43
    rw [kseq_eq, po1_s (hW w (by omega)), kseq_eq, kseq_eq, ks (ninc (a := w) (c := 1) (by omega)), ej]
    exact dx2 hW k f (w + 1) _ (by omega)
set_option maxRecDepth 100000 in
theorem dx3  (hc : rg g 6 ≤ 7) (hS : ∀ i w, i < rg g 6 → w < 6 → P_CXr_X8_sortAnswer (rg g 8) (rg g 11) (rg g 9) (rg g 12) (rg g 13) (rg g 15) i w = some (S i w)) {i : Nat} (hi : i < rg g 6) : ∀ (k f w h : Nat), w + k = 6 → p_CXr_X8_digest_81 (pj_CXr_X8_digest (f + k)) (Nat.succ (rg g 6)) (rg g 6) (rg g 1) (rg g 8) (rg g 11) (rg g 9) (rg g 12) (rg g 13) (rg g 15) (rg g 16) (rg g 18) (tg g 8) R (tg g 19) (tg g 20) h i w = p_CXr_X8_digest_109 (pj_CXr_X8_digest (f)) (Nat.succ (rg g 6)) (rg g 6) (rg g 1) (rg g 8) (rg g 11) (rg g 9) (rg g 12) (rg g 13) (rg g 15) (rg g 16) (rg g 18) (tg g 8) R (tg g 19) (tg g 20) (fm (S i) k w h) i
  | 0, f, w, h, hw => by
    unfold p_CXr_X8_digest_81
    rw [pb_f (slt_f (by omega) (by omega))]
    rfl
  | k + 1, f, w, h, hw => by
    have ej : (pj_CXr_X8_digest (f + (k + 1))).2.2.2.1 = p_CXr_X8_digest_81 (pj_CXr_X8_digest (f + k)) := by rw [show f + (k + 1) = (f + k) + 1 from rfl, pjs_CXr_X8_digest]
    unfold p_CXr_X8_digest_81
    rw [pb_t (slt_t (by omega) (by omega))]
    unfold p_CXr_X8_digest_88
    rw [kseq_eq, po1_s (hS i w hi (by omega)), kseq_eq, kseq_eq, ks (ninc (a := w) (c := 1) (by omega)), ej]
    exact dx3 hc hS hi k f (w + 1) _ (by omega)
set_option maxRecDepth 100000 in
theorem dx4  (hc : rg g 6 ≤ 7) (hS : ∀ i w, i < rg g 6 → w < 6 → P_CXr_X8_sortAnswer (rg g 8) (rg g 11) (rg g 9) (rg g 12) (rg g 13) (rg g 15) i w = some (S i w)) : ∀ (k f i h : Nat), i + k = rg g 6 → p_CXr_X8_digest_64 (pj_CXr_X8_digest (f + 7 * k)) (Nat.succ (rg g 6)) (rg g 6) (rg g 1) (rg g 8) (rg g 11) (rg g 9) (rg g 12) (rg g 13) (rg g 15) (rg g 16) (rg g 18) (tg g 8) R (tg g 19) (tg g 20) h i = p_CXr_X8_digest_115 (pj_CXr_X8_digest (f)) (Nat.succ (rg g 6)) (rg g 1) (rg g 8) (rg g 11) (rg g 9) (rg g 12) (rg g 13) (rg g 15) (rg g 16) (rg g 18) (tg g 8) R (tg g 19) (tg g 20) (fsd S k i h)
  | 0, f, i, h, hi => by
    unfold p_CXr_X8_digest_64
    rw [pb_f (slt_f (by omega) (by omega))]
    rfl
  | k + 1, f, i, h, hi => by
    unfold p_CXr_X8_digest_64
    rw [pb_t (slt_t (by omega) (by omega))]
    unfold p_CXr_X8_digest_78
    rw [show f + 7 * (k + 1) = (f + 7 * k + 1) + 6 by omega, dx3 hc hS (by omega) 6 (f + 7 * k + 1) 0 h rfl]
    unfold p_CXr_X8_digest_109
    have ej : (pj_CXr_X8_digest (f + 7 * k + 1)).2.2.1 = p_CXr_X8_digest_64 (pj_CXr_X8_digest (f + 7 * k)) := by rw [pjs_CXr_X8_digest]
    rw [ks (ninc (a := i) (c := 1) (by omega)), ej]
    exact dx4 hc hS k f (i + 1) _ (by omega)
set_option maxRecDepth 100000 in
theorem dx5  (hc : rg g 6 ≤ 7) (hV : ∀ q i, q < rg g 6 → i < rg g 6 → ∃ x, pk 16 (tg g 20) (Nat.add (Nat.mul 8 52) q) = x + 1 ∧ inb 57 42 x = true ∧ pk 8 (tg g 19) (Nat.add (Nat.mul 8 x) i) = V q i + 1) {q : Nat} (hq : q < rg g 6) : ∀ (k f i h : Nat), i + k = rg g 6 → p_CXr_X8_digest_148 (pj_CXr_X8_digest (f + k)) (Nat.succ (rg g 6)) (rg g 1) (rg g 8) (rg g 11) (rg g 9) (rg g 12) (rg g 13) (rg g 15) (rg g 16) (rg g 18) (tg g 8) R (tg g 19) (tg g 20) h q i = p_CXr_X8_digest_186 (pj_CXr_X8_digest (f)) (Nat.succ (rg g 6)) (rg g 1) (rg g 8) (rg g 11) (rg g 9) (rg g 12) (rg g 13) (rg g 15) (rg g 16) (rg g 18) (tg g 8) R (tg g 19) (tg g 20) (fm (V q) k i h) q
  | 0, f, i, h, hi => by
    unfold p_CXr_X8_digest_148
    rw [pn_s (show Nat.succ (rg g 6) = rg g 6 + 1 from rfl), pb_f (slt_f (by omega) (by omega))]
    rfl
  | k + 1, f, i, h, hi => by
    have ej : (pj_CXr_X8_digest (f + (k + 1))).2.2.2.2.2 = p_CXr_X8_digest_148 (pj_CXr_X8_digest (f + k)) := by rw [show f + (k + 1) = (f + k) + 1 from rfl, pjs_CXr_X8_digest]
    obtain ⟨x, v1, v2, v3⟩ := hV q i hq (by omega)
    unfold p_CXr_X8_digest_148
    rw [pn_s (show Nat.succ (rg g 6) = rg g 6 + 1 from rfl), pb_t (slt_t (by omega) (by omega))]
    unfold p_CXr_X8_digest_160
    rw [kseq_eq, pq_t (show inb 51 6 52 = true from rfl), pq_t (bl_t (by omega)), pn_s v1, pq_t v2, pq_t (bl_t (by omega)), pn_s v3, kseq_eq, kseq_eq, ks (ninc (a := i) (c := 1) (by omega)), ej]
    exact dx5 hc hV hq k f (i + 1) _ (by omega)
set_option maxRecDepth 100000 in
theorem dx6  (hc : rg g 6 ≤ 7) (hV : ∀ q i, q < rg g 6 → i < rg g 6 → ∃ x, pk 16 (tg g 20) (Nat.add (Nat.mul 8 52) q) = x + 1 ∧ inb 57 42 x = true ∧ pk 8 (tg g 19) (Nat.add (Nat.mul 8 x) i) = V q i + 1) (hD : ∀ q, q < rg g 6 → pk 8 (tg g 8) q = Dg q + 1) (hM : ∀ q, q < rg g 6 → P_CXr_X3_mirrorSign_21 (Nat.succ (rg g 6)) (rg g 1) (rg g 8) (rg g 11) (rg g 15) (rg g 16) (rg g 18) (tg g 19) (tg g 20) q = some (Mi q)) : ∀ (k f q h : Nat), q + k = rg g 6 → p_CXr_X8_digest_117 (pj_CXr_X8_digest (f + (rg g 6 + 1) * k)) (Nat.succ (rg g 6)) (rg g 1) (rg g 8) (rg g 11) (rg g 9) (rg g 12) (rg g 13) (rg g 15) (rg g 16) (rg g 18) (tg g 8) R (tg g 19) (tg g 20) h q = p_CXr_X8_digest_208 (pj_CXr_X8_digest (f)) (Nat.succ (rg g 6)) (rg g 8) (rg g 11) (rg g 9) (rg g 12) (rg g 13) (rg g 15) (rg g 18) (tg g 8) R (tg g 19) (tg g 20) (frd Dg Mi V (rg g 6) k q h)
  | 0, f, q, h, hq => by
    unfold p_CXr_X8_digest_117
    rw [pn_s (show Nat.succ (rg g 6) = rg g 6 + 1 from rfl), pb_f (slt_f (by omega) (by omega))]
    rfl
  | k + 1, f, q, h, hq => by
    unfold p_CXr_X8_digest_117
    rw [pn_s (show Nat.succ (rg g 6) = rg g 6 + 1 from rfl), pb_t (slt_t (by omega) (by omega))]
    unfold p_CXr_X8_digest_128
    rw [kseq_eq, pq_t (bl_t (by omega)), pn_s (hD q (by omega)), kseq_eq, kseq_eq]
    rw [show f + (rg g 6 + 1) * (k + 1) = (f + (rg g 6 + 1) * k + 1) + rg g 6 by rw [Nat.mul_succ]; omega, dx5 hc hV (by omega) (rg g 6) (f + (rg g 6 + 1) * k + 1) 0 _ (by omega)]
    unfold p_CXr_X8_digest_186
    have ej : (pj_CXr_X8_digest (f + (rg g 6 + 1) * k + 1)).2.2.2.2.1 = p_CXr_X8_digest_117 (pj_CXr_X8_digest (f + (rg g 6 + 1) * k)) := by rw [pjs_CXr_X8_digest]
    rw [kseq_eq, po1_s (hM q (by omega)), kseq_eq, kseq_eq, ks (ninc (a := q) (c := 1) (by omega)), ej]
    exact dx6 hc hV hD hM k f (q + 1) _ (by omega)
set_option maxRecDepth 100000 in
theorem dgX  (hT : ∀ w, w < 7 → P_CXr_X8_told N cnt c len R w = some (T w, R)) (hW : ∀ w, w < 8 → P_CXr_X8_wholeAnswer cnt (Nat.succ (rg g 6)) (rg g 6) (rg g 10) (rg g 1) (rg g 8) (rg g 16) (rg g 17) (tg g 8) w = some (Wv w)) (hc : rg g 6 ≤ 7) (hS : ∀ i w, i < rg g 6 → w < 6 → P_CXr_X8_sortAnswer (rg g 8) (rg g 11) (rg g 9) (rg g 12) (rg g 13) (rg g 15) i w = some (S i w)) (hV : ∀ q i, q < rg g 6 → i < rg g 6 → ∃ x, pk 16 (tg g 20) (Nat.add (Nat.mul 8 52) q) = x + 1 ∧ inb 57 42 x = true ∧ pk 8 (tg g 19) (Nat.add (Nat.mul 8 x) i) = V q i + 1) (hD : ∀ q, q < rg g 6 → pk 8 (tg g 8) q = Dg q + 1) (hM : ∀ q, q < rg g 6 → P_CXr_X3_mirrorSign_21 (Nat.succ (rg g 6)) (rg g 1) (rg g 8) (rg g 11) (rg g 15) (rg g 16) (rg g 18) (tg g 19) (tg g 20) q = some (Mi q)) : P_CXr_X8_digest 1 1 N cnt c len (Nat.succ (rg g 6)) (rg g 6) (rg g 10) (rg g 1) (rg g 8) (rg g 11) (rg g 9) (rg g 12) (rg g 13) (rg g 15) (rg g 16) (rg g 17) (rg g 18) (tg g 8) R (tg g 19) (tg g 20) = some ((frd Dg Mi V (rg g 6) (rg g 6) 0 (fsd S (rg g 6) 0 (fm Wv 8 0 (fm T 7 0 2447)))), R) := by
  unfold P_CXr_X8_digest p_CXr_X8_digest_0
  rw [po1_s (show P_CXr_X8_learnRows 1 1 = some () from rfl)]
  have h7 : (rg g 6 + 1) * rg g 6 ≤ 56 := Nat.mul_le_mul (show rg g 6 + 1 ≤ 8 by omega) hc
  generalize hF : 20000 = F
  rw [show F = (F - 7) + 7 by omega, dx1 hT 7 (F - 7) 0 2447 rfl]
  unfold p_CXr_X8_digest_35
  rw [show F - 7 = (F - 15) + 8 by omega, dx2 hW 8 (F - 15) 0 _ rfl]
  unfold p_CXr_X8_digest_62
  rw [show F - 15 = (F - 15 - 7 * rg g 6) + 7 * rg g 6 by omega, dx4 hc hS (rg g 6) (F - 15 - 7 * rg g 6) 0 _ (by omega)]
  unfold p_CXr_X8_digest_115
  rw [show F - 15 - 7 * rg g 6 = (F - 15 - 7 * rg g 6 - (rg g 6 + 1) * rg g 6) + (rg g 6 + 1) * rg g 6 by omega, dx6 hc hV hD hM (rg g 6) (F - 15 - 7 * rg g 6 - (rg g 6 + 1) * rg g 6) 0 _ (by omega)]
  rfl
theorem mixM (h v : Nat) : P_CMt_X9_mix h v = some (mixv h v) := by
  unfold P_CMt_X9_mix p_CMt_X9_mix_0
  rw [kseq_eq, kseq_eq, kseq_eq]
  rfl
set_option maxRecDepth 100000 in
theorem dm1  (hT : ∀ w, w < 7 → P_CMt_X9_toldOf c len A R w = some (T w)) : ∀ (k f w h : Nat), w + k = 7 → p_CMt_X9_digest_9 (pj_CMt_X9_digest (f + k)) c 1 (rg g 1) (rg g 6) (rg g 10) (rg g 16) (rg g 17) len h A R (rg g 2) (rg g 20) (rg g 22) (rg g 5) (rg g 21) (rg g 8) (rg g 9) (rg g 26) (rg g 27) w = p_CMt_X9_digest_30 (pj_CMt_X9_digest (f)) 1 (rg g 1) (rg g 6) (rg g 10) (rg g 16) (rg g 17) (fm T k w h) A R (rg g 2) (rg g 20) (rg g 22) (rg g 5) (rg g 21) (rg g 8) (rg g 9) (rg g 26) (rg g 27)
  | 0, f, w, h, hw => by
    unfold p_CMt_X9_digest_9
    rw [pb_f (slt_f (by omega) (by omega))]
    rfl
  | k + 1, f, w, h, hw => by
    have ej : (pj_CMt_X9_digest (f + (k + 1))).1 = p_CMt_X9_digest_9 (pj_CMt_X9_digest (f + k)) := by rw [show f + (k + 1) = (f + k) + 1 from rfl, pjs_CMt_X9_digest]
    unfold p_CMt_X9_digest_9
    rw [pb_t (slt_t (by omega) (by omega))]
    unfold p_CMt_X9_digest_15
    rw [po1_s (hT w (by omega)), po1_s (mixM _ _), ks (ninc (a := w) (c := 1) (by omega)), ej]
    exact dm1 hT k f (w + 1) _ (by omega)
set_option maxRecDepth 100000 in
theorem dm2  (hW : ∀ w, w < 8 → P_CMt_X9_ofAll 1 (rg g 1) (rg g 6) (rg g 10) (rg g 16) (rg g 17) A (rg g 8) (rg g 26) w = some (Wv w)) : ∀ (k f w h : Nat), w + k = 8 → p_CMt_X9_digest_32 (pj_CMt_X9_digest (f + k)) 1 (rg g 1) (rg g 6) (rg g 10) (rg g 16) (rg g 17) h A R (rg g 2) (rg g 20) (rg g 22) (rg g 5) (rg g 21) (rg g 8) (rg g 9) (rg g 26) (rg g 27) w = p_CMt_X9_digest_53 (pj_CMt_X9_digest (f)) (rg g 1) (rg g 6) (rg g 16) (fm Wv k w h) A R (rg g 2) (rg g 20) (rg g 22) (rg g 5) (rg g 21) (rg g 8) (rg g 9) (rg g 26) (rg g 27)
  | 0, f, w, h, hw => by
    unfold p_CMt_X9_digest_32
    rw [pb_f (slt_f (by omega) (by omega))]
    rfl
  | k + 1, f, w, h, hw => by
    have ej : (pj_CMt_X9_digest (f + (k + 1))).2.1 = p_CMt_X9_digest_32 (pj_CMt_X9_digest (f + k)) := by rw [show f + (k + 1) = (f + k) + 1 from rfl, pjs_CMt_X9_digest]
    unfold p_CMt_X9_digest_32
    rw [pb_t (slt_t (by omega) (by omega))]
    unfold p_CMt_X9_digest_38
    rw [po1_s (hW w (by omega)), po1_s (mixM _ _), ks (ninc (a := w) (c := 1) (by omega)), ej]
    exact dm2 hW k f (w + 1) _ (by omega)
set_option maxRecDepth 100000 in
theorem dm3  (hc : rg g 6 ≤ 7) (hS : ∀ i w, i < rg g 6 → w < 6 → P_CMt_X9_ofSort A (rg g 2) (rg g 20) (rg g 22) (rg g 5) (rg g 21) (rg g 8) (rg g 9) i w = some (S i w)) : ∀ (k f w h : Nat), w + k = 6 * rg g 6 → p_CMt_X9_digest_55 (pj_CMt_X9_digest (f + k)) (rg g 1) (rg g 6) (rg g 16) h A R (rg g 2) (rg g 20) (rg g 22) (rg g 5) (rg g 21) (rg g 8) (rg g 9) (rg g 26) (rg g 27) w = p_CMt_X9_digest_88 (pj_CMt_X9_digest (f)) (rg g 1) (rg g 6) (rg g 16) (fm (fun j => S (j / 6) (j % 6)) k w h) A R (rg g 2) (rg g 20) (rg g 22) (rg g 5) (rg g 21) (rg g 8) (rg g 9) (rg g 26) (rg g 27)
  | 0, f, w, h, hw => by
    unfold p_CMt_X9_digest_55
    rw [ks (nm (a := 6) (b := rg g 6) (by omega)), pb_f (slt_f (by omega) (by omega))]
    rfl
  | k + 1, f, w, h, hw => by
    have ej : (pj_CMt_X9_digest (f + (k + 1))).2.2.1 = p_CMt_X9_digest_55 (pj_CMt_X9_digest (f + k)) := by rw [show f + (k + 1) = (f + k) + 1 from rfl, pjs_CMt_X9_digest]
    have e1 : n_div w 6 = w / 6 := ndv (by omega)
    have e2 : n_rem w 6 = w % 6 := nrm (by omega)
    unfold p_CMt_X9_digest_55
    rw [ks (nm (a := 6) (b := rg g 6) (by omega)), pb_t (slt_t (by omega) (by omega))]
    unfold p_CMt_X9_digest_66
    rw [ks e1, ks e2, po1_s (hS (w / 6) (w % 6) (by omega) (by omega)), po1_s (mixM _ _), ks (ninc (a := w) (c := 1) (by omega)), ej]
    exact dm3 hc hS k f (w + 1) _ (by omega)
set_option maxRecDepth 100000 in
theorem dm5  (hc : rg g 6 ≤ 7) (hV : ∀ q i, q < rg g 6 → i < rg g 6 → pk 8 (rg g 27) (8 * q + i) = V q i + 1) {q : Nat} (hq : q < rg g 6) : ∀ (k f i h : Nat), i + k = rg g 6 → p_CMt_X9_digest_110 (pj_CMt_X9_digest (f + k)) (rg g 1) (rg g 6) (rg g 16) h A R (rg g 2) (rg g 20) (rg g 22) (rg g 5) (rg g 21) (rg g 8) (rg g 9) (rg g 26) (rg g 27) q i = p_CMt_X9_digest_139 (pj_CMt_X9_digest (f)) (rg g 1) (rg g 6) (rg g 16) (fm (V q) k i h) A R (rg g 2) (rg g 20) (rg g 22) (rg g 5) (rg g 21) (rg g 8) (rg g 9) (rg g 26) (rg g 27) q
  | 0, f, i, h, hi => by
    unfold p_CMt_X9_digest_110
    rw [pb_f (slt_f (by omega) (by omega))]
    rfl
  | k + 1, f, i, h, hi => by
    have ej : (pj_CMt_X9_digest (f + (k + 1))).2.2.2.2 = p_CMt_X9_digest_110 (pj_CMt_X9_digest (f + k)) := by rw [show f + (k + 1) = (f + k) + 1 from rfl, pjs_CMt_X9_digest]
    unfold p_CMt_X9_digest_110
    rw [pb_t (slt_t (by omega) (by omega))]
    unfold p_CMt_X9_digest_118
    rw [ks (nm (a := 8) (b := q) (by omega)), ks (na (a := 8 * q) (b := i) (by omega)), pq_t (bl_t (by omega)), pn_s (hV q i hq (by omega)), po1_s (mixM _ _), ks (ninc (a := i) (c := 1) (by omega)), ej]
    exact dm5 hc hV hq k f (i + 1) _ (by omega)
set_option maxRecDepth 100000 in
theorem dm6  (hc : rg g 6 ≤ 7) (hV : ∀ q i, q < rg g 6 → i < rg g 6 → pk 8 (rg g 27) (8 * q + i) = V q i + 1) (hD : ∀ q, q < rg g 6 → pk 8 (rg g 26) q = Dg q + 1) (hM : ∀ q, q < rg g 6 → P_CMt_X9_mirrorOf (rg g 1) (rg g 6) (rg g 16) A (rg g 2) (rg g 20) (rg g 22) (rg g 5) (rg g 21) (rg g 8) (rg g 9) (rg g 27) q = some (Mi q)) : ∀ (k f q h : Nat), q + k = rg g 6 → p_CMt_X9_digest_90 (pj_CMt_X9_digest (f + (rg g 6 + 1) * k)) (rg g 1) (rg g 6) (rg g 16) h A R (rg g 2) (rg g 20) (rg g 22) (rg g 5) (rg g 21) (rg g 8) (rg g 9) (rg g 26) (rg g 27) q = p_CMt_X9_digest_154 (pj_CMt_X9_digest (f)) (frd Dg Mi V (rg g 6) k q h) A R (rg g 2) (rg g 20) (rg g 22) (rg g 5) (rg g 21) (rg g 8) (rg g 9) (rg g 26) (rg g 27)
  | 0, f, q, h, hq => by
    unfold p_CMt_X9_digest_90
    rw [pb_f (slt_f (by omega) (by omega))]
    rfl
  | k + 1, f, q, h, hq => by
    unfold p_CMt_X9_digest_90
    rw [pb_t (slt_t (by omega) (by omega))]
    unfold p_CMt_X9_digest_98
    rw [pq_t (bl_t (by omega)), pn_s (hD q (by omega)), po1_s (mixM _ _)]
    rw [show f + (rg g 6 + 1) * (k + 1) = (f + (rg g 6 + 1) * k + 1) + rg g 6 by rw [Nat.mul_succ]; omega, dm5 hc hV (by omega) (rg g 6) (f + (rg g 6 + 1) * k + 1) 0 _ (by omega)]
    unfold p_CMt_X9_digest_139
    have ej : (pj_CMt_X9_digest (f + (rg g 6 + 1) * k + 1)).2.2.2.1 = p_CMt_X9_digest_90 (pj_CMt_X9_digest (f + (rg g 6 + 1) * k)) := by rw [pjs_CMt_X9_digest]
    rw [po1_s (hM q (by omega)), po1_s (mixM _ _), ks (ninc (a := q) (c := 1) (by omega)), ej]
    exact dm6 hc hV hD hM k f (q + 1) _ (by omega)
set_option maxRecDepth 100000 in
theorem dgM  (hT : ∀ w, w < 7 → P_CMt_X9_toldOf c len A R w = some (T w)) (hW : ∀ w, w < 8 → P_CMt_X9_ofAll 1 (rg g 1) (rg g 6) (rg g 10) (rg g 16) (rg g 17) A (rg g 8) (rg g 26) w = some (Wv w)) (hc : rg g 6 ≤ 7) (hS : ∀ i w, i < rg g 6 → w < 6 → P_CMt_X9_ofSort A (rg g 2) (rg g 20) (rg g 22) (rg g 5) (rg g 21) (rg g 8) (rg g 9) i w = some (S i w)) (hV : ∀ q i, q < rg g 6 → i < rg g 6 → pk 8 (rg g 27) (8 * q + i) = V q i + 1) (hD : ∀ q, q < rg g 6 → pk 8 (rg g 26) q = Dg q + 1) (hM : ∀ q, q < rg g 6 → P_CMt_X9_mirrorOf (rg g 1) (rg g 6) (rg g 16) A (rg g 2) (rg g 20) (rg g 22) (rg g 5) (rg g 21) (rg g 8) (rg g 9) (rg g 27) q = some (Mi q)) : P_CMt_X9_digest c 1 (rg g 1) (rg g 6) (rg g 10) (rg g 16) (rg g 17) len A R (rg g 2) (rg g 20) (rg g 22) (rg g 5) (rg g 21) (rg g 8) (rg g 9) (rg g 26) (rg g 27) = some ((frd Dg Mi V (rg g 6) (rg g 6) 0 (fsd S (rg g 6) 0 (fm Wv 8 0 (fm T 7 0 2447)))), (frd Dg Mi V (rg g 6) (rg g 6) 0 (fsd S (rg g 6) 0 (fm Wv 8 0 (fm T 7 0 2447))))) := by
  have h7 : (rg g 6 + 1) * rg g 6 ≤ 56 := Nat.mul_le_mul (show rg g 6 + 1 ≤ 8 by omega) hc
  unfold P_CMt_X9_digest p_CMt_X9_digest_0
  generalize hF : 20000 = F
  rw [show F = (F - 7) + 7 by omega, dm1 hT 7 (F - 7) 0 2447 rfl]
  unfold p_CMt_X9_digest_30
  rw [show F - 7 = (F - 15) + 8 by omega, dm2 hW 8 (F - 15) 0 _ rfl]
  unfold p_CMt_X9_digest_53
  rw [show F - 15 = (F - 15 - 6 * rg g 6) + 6 * rg g 6 by omega, dm3 hc hS (6 * rg g 6) (F - 15 - 6 * rg g 6) 0 _ (by omega)]
  unfold p_CMt_X9_digest_88
  rw [show F - 15 - 6 * rg g 6 = (F - 15 - 6 * rg g 6 - (rg g 6 + 1) * rg g 6) + (rg g 6 + 1) * rg g 6 by omega, dm6 hc hV hD hM (rg g 6) (F - 15 - 6 * rg g 6 - (rg g 6 + 1) * rg g 6) 0 _ (by omega), fsd_fm]
  rfl
end DGP
theorem told_of {N cnt c len b n f A x : Nat} (hA0 : pk 40 A 0 = N + 1) (hA1 : pk 40 A 1 = cnt + 1) (hx : x < 7) : ∃ r, P_CXr_X8_told N cnt c len (rcf 0 b n f) x = some (r, rcf 0 b n f) ∧ P_CMt_X9_toldOf c len A (rcf 0 b n f) x = some r := by
  have hc : x = 0 ∨ x = 1 ∨ x = 2 ∨ x = 3 ∨ x = 4 ∨ x = 5 ∨ x = 6 := by omega
  rcases hc with rfl | rfl | rfl | rfl | rfl | rfl | rfl
  · exact ⟨b, rfl, rfl⟩
  · exact ⟨n, rfl, rfl⟩
  · exact ⟨f, rfl, rfl⟩
  · exact ⟨len, rfl, rfl⟩
  · refine ⟨N, rfl, ?_⟩
    show pn (pk 40 A 0) (fun x2 => p_CMt_X9_toldOf_47 A (rcf 0 b n f) x2) = _
    rw [hA0]
    rfl
  · refine ⟨cnt, rfl, ?_⟩
    show pn (pk 40 A 1) (fun x2 => p_CMt_X9_toldOf_47 A (rcf 0 b n f) x2) = _
    rw [hA1]
    rfl
  · exact ⟨c, rfl, rfl⟩
theorem digest_both {g N cnt c len b n f A : Nat} (hg : g < 195) (hN : rg g 0 = N) (hk : cnt < 4) (hA : A = anw (rg g 0) cnt) (hA0 : pk 40 A 0 = N + 1) (hA1 : pk 40 A 1 = cnt + 1) : ∃ r, P_CXr_X8_digest 1 1 N cnt c len (Nat.succ (rg g 6)) (rg g 6) (rg g 10) (rg g 1) (rg g 8) (rg g 11) (rg g 9) (rg g 12) (rg g 13) (rg g 15) (rg g 16) (rg g 17) (rg g 18) (tg g 8) (rcf 0 b n f) (tg g 19) (tg g 20) = some (r, rcf 0 b n f) ∧ P_CMt_X9_digest c 1 (rg g 1) (rg g 6) (rg g 10) (rg g 16) (rg g 17) len A (rcf 0 b n f) (rg g 2) (rg g 20) (rg g 22) (rg g 5) (rg g 21) (rg g 8) (rg g 9) (rg g 26) (rg g 27) = some (r, r) := by
  obtain ⟨⟨-, -, -, c7⟩, -, -⟩ := dataQ hg
  obtain ⟨dW, dS, dR⟩ := dataD hg hk hA
  clear hA
  have hT := fun w hw => told_of (c := c) (len := len) (b := b) (n := n) (f := f) (x := w) hA0 hA1 hw
  refine ⟨_, dgX (R := rcf 0 b n f) (T := fun w => if h : w < 7 then (hT w h).choose else 0) (Wv := fun w => if h : w < 8 then (dW w h).choose else 0) (S := fun i w => if h : i < rg g 6 ∧ w < 6 then (dS i w h.1 h.2).choose else 0) (Dg := fun q => if h : q < rg g 6 then (dR q h).1.choose else 0) (Mi := fun q => if h : q < rg g 6 then (dR q h).2.2.choose else 0) (V := fun q i => if h : q < rg g 6 ∧ i < rg g 6 then ((dR q h.1).2.1 i h.2).choose_spec.choose else 0) ?_ ?_ c7 ?_ ?_ ?_ ?_, dgM ?_ ?_ c7 ?_ ?_ ?_ ?_⟩
  · intro w hw
    simp only [hw, dif_pos]
    exact (hT w hw).choose_spec.1
  · intro w hw
    simp only [hw, dif_pos]
    exact (dW w hw).choose_spec.1
  · intro i w hi hw
    simp only [hi, hw, and_self, dif_pos]
    exact (dS i w hi hw).choose_spec.1
  · intro q i hq hi
    simp only [hq, hi, and_self, dif_pos]
    have z := ((dR q hq).2.1 i hi).choose_spec.choose_spec
    exact ⟨_, z.1, z.2.1, z.2.2.1⟩
  · intro q hq
    simp only [hq, dif_pos]
    exact (dR q hq).1.choose_spec.1
  · intro q hq
    simp only [hq, dif_pos]
    exact (dR q hq).2.2.choose_spec.1
  · intro w hw
    simp only [hw, dif_pos]
    exact (hT w hw).choose_spec.2
  · intro w hw
    simp only [hw, dif_pos]
    exact (dW w hw).choose_spec.2
  · intro i w hi hw
    simp only [hi, hw, and_self, dif_pos]
    exact (dS i w hi hw).choose_spec.2
  · intro q i hq hi
    simp only [hq, hi, and_self, dif_pos]
    exact ((dR q hq).2.1 i hi).choose_spec.choose_spec.2.2.2
  · intro q hq
    simp only [hq, dif_pos]
    exact (dR q hq).1.choose_spec.2
  · intro q hq
    simp only [hq, dif_pos]
    exact (dR q hq).2.2.choose_spec.2
