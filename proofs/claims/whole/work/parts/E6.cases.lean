/-! ===== the law's cases ===== -/
theorem nI_ex (z : Int32) : ∃ n, n < 4294967296 ∧ z = nI n := ⟨z.toBitVec.toNat, z.toBitVec.isLt, kn_ext (by rw [kn_bv]; simp)⟩
theorem cellJ {kx km : KH} (h : INV kx km) : (∃ fs, k_cell kx 0 = k_ob 8 fs) ∧ ∃ fs, k_cell km 0 = k_ob 9 fs := by
  obtain ⟨N, cnt, nowc, nw, c, pp, pc, pcd, past, len, t, b, n, f, hs, hv, hc, hp, hl, ht, hx, hm⟩ := h
  exact ⟨cellX hx, cellM hm⟩
section LAWC
variable {p : Program} {l : Launch} {e : Env} {s : State} {m : MethodId} {below : List Frame} {meth : Method} {c : Code} {D : va_G} {cI cS cM : ClassId} {cells slots : Nat} {Q : State → Prop} {H : Heap} {locs : List Loc} {ls : Array Slot} {b L i ax am : Nat} {xs : Nat → Int32} {kx km : KH}
def LA (D : va_G) (cI cS cM : ClassId) (p : Program) (s : State) (m : MethodId) (c : Code) (b L : Nat) (xs : Nat → Int32) (cells slots : Nat) : Prop := lctx D cI cS cM p s m c #[Value.ref b] ∧ b < s.heap.size ∧ va_X b L xs s s.heap ∧ L ≤ 2048 ∧ cells ≤ 600000 ∧ slots ≤ 7302250
theorem lc_points (B : LA D cI cS cM p s m c b L xs cells slots) (hV : lv_has ls 4 [(0, .ref b), (1, .ref ax), (2, .ref am), (3, .int (nI i))]) (hi : i + 4 ≤ L) (I : LI s D cI cS cM kx km ax am H locs) (J : INV kx km) (K : ∀ (kx2 km2 : KH) (H2 : Heap) (locs2 : List Loc), INV kx2 km2 → LI s D cI cS cM kx2 km2 ax am H2 locs2 → W p l e room_1 s m #[Value.ref b] below meth c H2 locs2 cells slots Q (F0 m 750 ls [])) : W p l e room_1 s m #[Value.ref b] below meth c H locs cells slots Q (F0 m 140 ls []) := by
  obtain ⟨C, hb, hX, hL, hcs⟩ := B
  have hx := C.1
  have hbc := C.2.1
  have l0 := lv_at hV 0 rfl
  have l1 := lv_at hV 1 rfl
  have l2 := lv_at hV 2 rfl
  have l3 := lv_at hV 3 rfl
  obtain ⟨⟨fsx, cx0⟩, ⟨fsm, cm0⟩⟩ := cellJ J
  have hX1 := LI_scr I hb hX
  obtain ⟨x1, g1, e1⟩ := nI_ex (xs (i + 1))
  obtain ⟨a, kx1, km1, s1, s2, kx2, km2, r1, r2, J2⟩ := step_points g1 J
  have M1 := sd_X8_points (l := l) (D := D) (cI := cI) (cS := cS) (cM := cM) _ kx [k_i a] kx1 rfl s1
  have M2 := sd_X9_points (l := l) (D := D) (cI := cI) (cS := cS) (cM := cM) _ km [k_i a] km1 rfl s2
  refine lv_aload_n hx hbc dL_law_140 rfl l1 ?_
  refine l_arg (k := 1) (z := 1) hx hbc dL_law_141 dL_law_142 dL_law_143 dL_law_144 dL_law_145 rfl rfl rfl rfl rfl rfl (by omega) hL hX1 l0 l3 ?_
  refine l_call1 (vx := [.int (xs (i + 1))]) (rest := []) (ka := [k_i x1]) dL_law_146 kw_7_17 kw_7_18 kw_7_19 rfl ok_X8_points (by decide) (by decide) M1 rfl cx0 C I hV.1 (fun as => ⟨⟨g1, by rw [e1]⟩, trivial⟩) (Nat.le_of_ble_eq_true rfl) hcs (fun v1 as1 H1 locs1 hv1 I1 => ?_)
  obtain ⟨-, rfl⟩ := hv1
  have hX2 := LI_scr I1 hb hX
  refine lv_aload_n hx hbc dL_law_149 rfl l2 ?_
  refine l_arg (k := 1) (z := 1) hx hbc dL_law_150 dL_law_151 dL_law_152 dL_law_153 dL_law_154 rfl rfl rfl rfl rfl rfl (by omega) hL hX2 l0 l3 ?_
  refine l_call2 (vx := [.int (xs (i + 1))]) (rest := [.int (nI a)]) (ka := [k_i x1]) dL_law_155 kw_9_5 kw_9_6 kw_9_7 rfl ok_X9_points (by decide) (by decide) M2 rfl cm0 C I1 hV.1 (fun as => ⟨⟨g1, by rw [e1]⟩, trivial⟩) (Nat.le_of_ble_eq_true rfl) hcs (fun v2 as2 H2 locs2 hv2 I2 => ?_)
  obtain ⟨-, rfl⟩ := hv2
  exact lv_icmp_eq (tgt := 750) hx hbc dL_law_158 (by decide) (fun _ => K kx2 km2 H2 locs2 J2 (LI_red r1 r2 I2)) (fun h => absurd rfl h)
theorem lc_moves (B : LA D cI cS cM p s m c b L xs cells slots) (hV : lv_has ls 4 [(0, .ref b), (1, .ref ax), (2, .ref am), (3, .int (nI i))]) (hi : i + 4 ≤ L) (I : LI s D cI cS cM kx km ax am H locs) (J : INV kx km) (K : ∀ (kx2 km2 : KH) (H2 : Heap) (locs2 : List Loc), INV kx2 km2 → LI s D cI cS cM kx2 km2 ax am H2 locs2 → W p l e room_1 s m #[Value.ref b] below meth c H2 locs2 cells slots Q (F0 m 750 ls [])) : W p l e room_1 s m #[Value.ref b] below meth c H locs cells slots Q (F0 m 163 ls []) := by
  obtain ⟨C, hb, hX, hL, hcs⟩ := B
  have hx := C.1
  have hbc := C.2.1
  have l0 := lv_at hV 0 rfl
  have l1 := lv_at hV 1 rfl
  have l2 := lv_at hV 2 rfl
  have l3 := lv_at hV 3 rfl
  obtain ⟨⟨fsx, cx0⟩, ⟨fsm, cm0⟩⟩ := cellJ J
  have hX1 := LI_scr I hb hX
  obtain ⟨x1, g1, e1⟩ := nI_ex (xs (i + 1))
  obtain ⟨a, kx1, km1, s1, s2, kx2, km2, r1, r2, J2⟩ := step_moves g1 J
  have M1 := sd_X8_moves (l := l) (D := D) (cI := cI) (cS := cS) (cM := cM) _ kx [k_i a] kx1 rfl s1
  have M2 := sd_X9_moves (l := l) (D := D) (cI := cI) (cS := cS) (cM := cM) _ km [k_i a] km1 rfl s2
  refine lv_aload_n hx hbc dL_law_163 rfl l1 ?_
  refine l_arg (k := 1) (z := 1) hx hbc dL_law_164 dL_law_165 dL_law_166 dL_law_167 dL_law_168 rfl rfl rfl rfl rfl rfl (by omega) hL hX1 l0 l3 ?_
  refine l_call1 (vx := [.int (xs (i + 1))]) (rest := []) (ka := [k_i x1]) dL_law_169 kw_10_10 kw_10_11 kw_10_12 rfl ok_X8_moves (by decide) (by decide) M1 rfl cx0 C I hV.1 (fun as => ⟨⟨g1, by rw [e1]⟩, trivial⟩) (Nat.le_of_ble_eq_true rfl) hcs (fun v1 as1 H1 locs1 hv1 I1 => ?_)
  obtain ⟨-, rfl⟩ := hv1
  have hX2 := LI_scr I1 hb hX
  refine lv_aload_n hx hbc dL_law_172 rfl l2 ?_
  refine l_arg (k := 1) (z := 1) hx hbc dL_law_173 dL_law_174 dL_law_175 dL_law_176 dL_law_177 rfl rfl rfl rfl rfl rfl (by omega) hL hX2 l0 l3 ?_
  refine l_call2 (vx := [.int (xs (i + 1))]) (rest := [.int (nI a)]) (ka := [k_i x1]) dL_law_178 kw_10_22 kw_10_23 kw_11_0 rfl ok_X9_moves (by decide) (by decide) M2 rfl cm0 C I1 hV.1 (fun as => ⟨⟨g1, by rw [e1]⟩, trivial⟩) (Nat.le_of_ble_eq_true rfl) hcs (fun v2 as2 H2 locs2 hv2 I2 => ?_)
  obtain ⟨-, rfl⟩ := hv2
  exact lv_icmp_eq (tgt := 750) hx hbc dL_law_181 (by decide) (fun _ => K kx2 km2 H2 locs2 J2 (LI_red r1 r2 I2)) (fun h => absurd rfl h)
theorem lc_drops (B : LA D cI cS cM p s m c b L xs cells slots) (hV : lv_has ls 4 [(0, .ref b), (1, .ref ax), (2, .ref am), (3, .int (nI i))]) (hi : i + 4 ≤ L) (I : LI s D cI cS cM kx km ax am H locs) (J : INV kx km) (K : ∀ (kx2 km2 : KH) (H2 : Heap) (locs2 : List Loc), INV kx2 km2 → LI s D cI cS cM kx2 km2 ax am H2 locs2 → W p l e room_1 s m #[Value.ref b] below meth c H2 locs2 cells slots Q (F0 m 750 ls [])) : W p l e room_1 s m #[Value.ref b] below meth c H locs cells slots Q (F0 m 186 ls []) := by
  obtain ⟨C, hb, hX, hL, hcs⟩ := B
  have hx := C.1
  have hbc := C.2.1
  have l0 := lv_at hV 0 rfl
  have l1 := lv_at hV 1 rfl
  have l2 := lv_at hV 2 rfl
  have l3 := lv_at hV 3 rfl
  obtain ⟨⟨fsx, cx0⟩, ⟨fsm, cm0⟩⟩ := cellJ J
  have hX1 := LI_scr I hb hX
  obtain ⟨x1, g1, e1⟩ := nI_ex (xs (i + 1))
  obtain ⟨a, kx1, km1, s1, s2, kx2, km2, r1, r2, J2⟩ := step_drops g1 J
  have M1 := sd_X8_drops (l := l) (D := D) (cI := cI) (cS := cS) (cM := cM) _ kx [k_i a] kx1 rfl s1
  have M2 := sd_X9_drops (l := l) (D := D) (cI := cI) (cS := cS) (cM := cM) _ km [k_i a] km1 rfl s2
  refine lv_aload_n hx hbc dL_law_186 rfl l1 ?_
  refine l_arg (k := 1) (z := 1) hx hbc dL_law_187 dL_law_188 dL_law_189 dL_law_190 dL_law_191 rfl rfl rfl rfl rfl rfl (by omega) hL hX1 l0 l3 ?_
  refine l_call1 (vx := [.int (xs (i + 1))]) (rest := []) (ka := [k_i x1]) dL_law_192 kw_11_14 kw_11_15 kw_11_16 rfl ok_X8_drops (by decide) (by decide) M1 rfl cx0 C I hV.1 (fun as => ⟨⟨g1, by rw [e1]⟩, trivial⟩) (Nat.le_of_ble_eq_true rfl) hcs (fun v1 as1 H1 locs1 hv1 I1 => ?_)
  obtain ⟨-, rfl⟩ := hv1
  have hX2 := LI_scr I1 hb hX
  refine lv_aload_n hx hbc dL_law_195 rfl l2 ?_
  refine l_arg (k := 1) (z := 1) hx hbc dL_law_196 dL_law_197 dL_law_198 dL_law_199 dL_law_200 rfl rfl rfl rfl rfl rfl (by omega) hL hX2 l0 l3 ?_
  refine l_call2 (vx := [.int (xs (i + 1))]) (rest := [.int (nI a)]) (ka := [k_i x1]) dL_law_201 kw_11_22 kw_11_23 kw_12_0 rfl ok_X9_drops (by decide) (by decide) M2 rfl cm0 C I1 hV.1 (fun as => ⟨⟨g1, by rw [e1]⟩, trivial⟩) (Nat.le_of_ble_eq_true rfl) hcs (fun v2 as2 H2 locs2 hv2 I2 => ?_)
  obtain ⟨-, rfl⟩ := hv2
  exact lv_icmp_eq (tgt := 750) hx hbc dL_law_204 (by decide) (fun _ => K kx2 km2 H2 locs2 J2 (LI_red r1 r2 I2)) (fun h => absurd rfl h)
theorem lc_of (B : LA D cI cS cM p s m c b L xs cells slots) (hV : lv_has ls 4 [(0, .ref b), (1, .ref ax), (2, .ref am), (3, .int (nI i))]) (hi : i + 4 ≤ L) (I : LI s D cI cS cM kx km ax am H locs) (J : INV kx km) (K : ∀ (kx2 km2 : KH) (H2 : Heap) (locs2 : List Loc), INV kx2 km2 → LI s D cI cS cM kx2 km2 ax am H2 locs2 → W p l e room_1 s m #[Value.ref b] below meth c H2 locs2 cells slots Q (F0 m 750 ls [])) : W p l e room_1 s m #[Value.ref b] below meth c H locs cells slots Q (F0 m 209 ls []) := by
  obtain ⟨C, hb, hX, hL, hcs⟩ := B
  have hx := C.1
  have hbc := C.2.1
  have l0 := lv_at hV 0 rfl
  have l1 := lv_at hV 1 rfl
  have l2 := lv_at hV 2 rfl
  have l3 := lv_at hV 3 rfl
  obtain ⟨⟨fsx, cx0⟩, ⟨fsm, cm0⟩⟩ := cellJ J
  have hX1 := LI_scr I hb hX
  obtain ⟨x1, g1, e1⟩ := nI_ex (xs (i + 1))
  obtain ⟨a, kx1, km1, s1, s2, kx2, km2, r1, r2, J2⟩ := step_of g1 J
  have M1 := sd_X8_of (l := l) (D := D) (cI := cI) (cS := cS) (cM := cM) _ kx [k_i a] kx1 rfl s1
  have M2 := sd_X9_of (l := l) (D := D) (cI := cI) (cS := cS) (cM := cM) _ km [k_i a] km1 rfl s2
  refine lv_aload_n hx hbc dL_law_209 rfl l1 ?_
  refine l_arg (k := 1) (z := 1) hx hbc dL_law_210 dL_law_211 dL_law_212 dL_law_213 dL_law_214 rfl rfl rfl rfl rfl rfl (by omega) hL hX1 l0 l3 ?_
  refine l_call1 (vx := [.int (xs (i + 1))]) (rest := []) (ka := [k_i x1]) dL_law_215 kw_12_6 kw_12_7 kw_12_8 rfl ok_X8_of (by decide) (by decide) M1 rfl cx0 C I hV.1 (fun as => ⟨⟨g1, by rw [e1]⟩, trivial⟩) (Nat.le_of_ble_eq_true rfl) hcs (fun v1 as1 H1 locs1 hv1 I1 => ?_)
  obtain ⟨-, rfl⟩ := hv1
  have hX2 := LI_scr I1 hb hX
  refine lv_aload_n hx hbc dL_law_218 rfl l2 ?_
  refine l_arg (k := 1) (z := 1) hx hbc dL_law_219 dL_law_220 dL_law_221 dL_law_222 dL_law_223 rfl rfl rfl rfl rfl rfl (by omega) hL hX2 l0 l3 ?_
  refine l_call2 (vx := [.int (xs (i + 1))]) (rest := [.int (nI a)]) (ka := [k_i x1]) dL_law_224 kw_22_5 kw_22_6 kw_22_7 rfl ok_X9_of (by decide) (by decide) M2 rfl cm0 C I1 hV.1 (fun as => ⟨⟨g1, by rw [e1]⟩, trivial⟩) (Nat.le_of_ble_eq_true rfl) hcs (fun v2 as2 H2 locs2 hv2 I2 => ?_)
  obtain ⟨-, rfl⟩ := hv2
  exact lv_icmp_eq (tgt := 750) hx hbc dL_law_227 (by decide) (fun _ => K kx2 km2 H2 locs2 J2 (LI_red r1 r2 I2)) (fun h => absurd rfl h)
theorem lc_element (B : LA D cI cS cM p s m c b L xs cells slots) (hV : lv_has ls 4 [(0, .ref b), (1, .ref ax), (2, .ref am), (3, .int (nI i))]) (hi : i + 4 ≤ L) (I : LI s D cI cS cM kx km ax am H locs) (J : INV kx km) (K : ∀ (kx2 km2 : KH) (H2 : Heap) (locs2 : List Loc), INV kx2 km2 → LI s D cI cS cM kx2 km2 ax am H2 locs2 → W p l e room_1 s m #[Value.ref b] below meth c H2 locs2 cells slots Q (F0 m 750 ls [])) : W p l e room_1 s m #[Value.ref b] below meth c H locs cells slots Q (F0 m 232 ls []) := by
  obtain ⟨C, hb, hX, hL, hcs⟩ := B
  have hx := C.1
  have hbc := C.2.1
  have l0 := lv_at hV 0 rfl
  have l1 := lv_at hV 1 rfl
  have l2 := lv_at hV 2 rfl
  have l3 := lv_at hV 3 rfl
  obtain ⟨⟨fsx, cx0⟩, ⟨fsm, cm0⟩⟩ := cellJ J
  have hX1 := LI_scr I hb hX
  obtain ⟨x1, g1, e1⟩ := nI_ex (xs (i + 1))
  obtain ⟨x2, g2, e2⟩ := nI_ex (xs (i + 2))
  obtain ⟨a, kx1, km1, s1, s2, kx2, km2, r1, r2, J2⟩ := step_element g1 g2 J
  have M1 := sd_X8_element (l := l) (D := D) (cI := cI) (cS := cS) (cM := cM) _ kx [k_i a] kx1 rfl s1
  have M2 := sd_X9_element (l := l) (D := D) (cI := cI) (cS := cS) (cM := cM) _ km [k_i a] km1 rfl s2
  refine lv_aload_n hx hbc dL_law_232 rfl l1 ?_
  refine l_arg (k := 1) (z := 1) hx hbc dL_law_233 dL_law_234 dL_law_235 dL_law_236 dL_law_237 rfl rfl rfl rfl rfl rfl (by omega) hL hX1 l0 l3 ?_
  refine l_arg (k := 2) (z := 2) hx hbc dL_law_238 dL_law_239 dL_law_240 dL_law_241 dL_law_242 rfl rfl rfl rfl rfl rfl (by omega) hL hX1 l0 l3 ?_
  refine l_call1 (vx := [.int (xs (i + 1)), .int (xs (i + 2))]) (rest := []) (ka := [k_i x1, k_i x2]) dL_law_243 kw_27_2 kw_27_3 kw_27_4 rfl ok_X8_element (by decide) (by decide) M1 rfl cx0 C I hV.1 (fun as => ⟨⟨g1, by rw [e1]⟩, ⟨⟨g2, by rw [e2]⟩, trivial⟩⟩) (Nat.le_of_ble_eq_true rfl) hcs (fun v1 as1 H1 locs1 hv1 I1 => ?_)
  obtain ⟨-, rfl⟩ := hv1
  have hX2 := LI_scr I1 hb hX
  refine lv_aload_n hx hbc dL_law_246 rfl l2 ?_
  refine l_arg (k := 1) (z := 1) hx hbc dL_law_247 dL_law_248 dL_law_249 dL_law_250 dL_law_251 rfl rfl rfl rfl rfl rfl (by omega) hL hX2 l0 l3 ?_
  refine l_arg (k := 2) (z := 2) hx hbc dL_law_252 dL_law_253 dL_law_254 dL_law_255 dL_law_256 rfl rfl rfl rfl rfl rfl (by omega) hL hX2 l0 l3 ?_
  refine l_call2 (vx := [.int (xs (i + 1)), .int (xs (i + 2))]) (rest := [.int (nI a)]) (ka := [k_i x1, k_i x2]) dL_law_257 kw_27_10 kw_27_11 kw_27_12 rfl ok_X9_element (by decide) (by decide) M2 rfl cm0 C I1 hV.1 (fun as => ⟨⟨g1, by rw [e1]⟩, ⟨⟨g2, by rw [e2]⟩, trivial⟩⟩) (Nat.le_of_ble_eq_true rfl) hcs (fun v2 as2 H2 locs2 hv2 I2 => ?_)
  obtain ⟨-, rfl⟩ := hv2
  exact lv_icmp_eq (tgt := 750) hx hbc dL_law_260 (by decide) (fun _ => K kx2 km2 H2 locs2 J2 (LI_red r1 r2 I2)) (fun h => absurd rfl h)
theorem lc_product (B : LA D cI cS cM p s m c b L xs cells slots) (hV : lv_has ls 4 [(0, .ref b), (1, .ref ax), (2, .ref am), (3, .int (nI i))]) (hi : i + 4 ≤ L) (I : LI s D cI cS cM kx km ax am H locs) (J : INV kx km) (K : ∀ (kx2 km2 : KH) (H2 : Heap) (locs2 : List Loc), INV kx2 km2 → LI s D cI cS cM kx2 km2 ax am H2 locs2 → W p l e room_1 s m #[Value.ref b] below meth c H2 locs2 cells slots Q (F0 m 750 ls [])) : W p l e room_1 s m #[Value.ref b] below meth c H locs cells slots Q (F0 m 265 ls []) := by
  obtain ⟨C, hb, hX, hL, hcs⟩ := B
  have hx := C.1
  have hbc := C.2.1
  have l0 := lv_at hV 0 rfl
  have l1 := lv_at hV 1 rfl
  have l2 := lv_at hV 2 rfl
  have l3 := lv_at hV 3 rfl
  obtain ⟨⟨fsx, cx0⟩, ⟨fsm, cm0⟩⟩ := cellJ J
  have hX1 := LI_scr I hb hX
  obtain ⟨x1, g1, e1⟩ := nI_ex (xs (i + 1))
  obtain ⟨x2, g2, e2⟩ := nI_ex (xs (i + 2))
  obtain ⟨a, kx1, km1, s1, s2, kx2, km2, r1, r2, J2⟩ := step_product g1 g2 J
  have M1 := sd_X8_product (l := l) (D := D) (cI := cI) (cS := cS) (cM := cM) _ kx [k_i a] kx1 rfl s1
  have M2 := sd_X9_product (l := l) (D := D) (cI := cI) (cS := cS) (cM := cM) _ km [k_i a] km1 rfl s2
  refine lv_aload_n hx hbc dL_law_265 rfl l1 ?_
  refine l_arg (k := 1) (z := 1) hx hbc dL_law_266 dL_law_267 dL_law_268 dL_law_269 dL_law_270 rfl rfl rfl rfl rfl rfl (by omega) hL hX1 l0 l3 ?_
  refine l_arg (k := 2) (z := 2) hx hbc dL_law_271 dL_law_272 dL_law_273 dL_law_274 dL_law_275 rfl rfl rfl rfl rfl rfl (by omega) hL hX1 l0 l3 ?_
  refine l_call1 (vx := [.int (xs (i + 1)), .int (xs (i + 2))]) (rest := []) (ka := [k_i x1, k_i x2]) dL_law_276 kw_27_18 kw_27_19 kw_27_20 rfl ok_X8_product (by decide) (by decide) M1 rfl cx0 C I hV.1 (fun as => ⟨⟨g1, by rw [e1]⟩, ⟨⟨g2, by rw [e2]⟩, trivial⟩⟩) (Nat.le_of_ble_eq_true rfl) hcs (fun v1 as1 H1 locs1 hv1 I1 => ?_)
  obtain ⟨-, rfl⟩ := hv1
  have hX2 := LI_scr I1 hb hX
  refine lv_aload_n hx hbc dL_law_279 rfl l2 ?_
  refine l_arg (k := 1) (z := 1) hx hbc dL_law_280 dL_law_281 dL_law_282 dL_law_283 dL_law_284 rfl rfl rfl rfl rfl rfl (by omega) hL hX2 l0 l3 ?_
  refine l_arg (k := 2) (z := 2) hx hbc dL_law_285 dL_law_286 dL_law_287 dL_law_288 dL_law_289 rfl rfl rfl rfl rfl rfl (by omega) hL hX2 l0 l3 ?_
  refine l_call2 (vx := [.int (xs (i + 1)), .int (xs (i + 2))]) (rest := [.int (nI a)]) (ka := [k_i x1, k_i x2]) dL_law_290 kw_27_23 kw_28_0 kw_28_1 rfl ok_X9_product (by decide) (by decide) M2 rfl cm0 C I1 hV.1 (fun as => ⟨⟨g1, by rw [e1]⟩, ⟨⟨g2, by rw [e2]⟩, trivial⟩⟩) (Nat.le_of_ble_eq_true rfl) hcs (fun v2 as2 H2 locs2 hv2 I2 => ?_)
  obtain ⟨-, rfl⟩ := hv2
  exact lv_icmp_eq (tgt := 750) hx hbc dL_law_293 (by decide) (fun _ => K kx2 km2 H2 locs2 J2 (LI_red r1 r2 I2)) (fun h => absurd rfl h)
theorem lc_sort (B : LA D cI cS cM p s m c b L xs cells slots) (hV : lv_has ls 4 [(0, .ref b), (1, .ref ax), (2, .ref am), (3, .int (nI i))]) (hi : i + 4 ≤ L) (I : LI s D cI cS cM kx km ax am H locs) (J : INV kx km) (K : ∀ (kx2 km2 : KH) (H2 : Heap) (locs2 : List Loc), INV kx2 km2 → LI s D cI cS cM kx2 km2 ax am H2 locs2 → W p l e room_1 s m #[Value.ref b] below meth c H2 locs2 cells slots Q (F0 m 750 ls [])) : W p l e room_1 s m #[Value.ref b] below meth c H locs cells slots Q (F0 m 298 ls []) := by
  obtain ⟨C, hb, hX, hL, hcs⟩ := B
  have hx := C.1
  have hbc := C.2.1
  have l0 := lv_at hV 0 rfl
  have l1 := lv_at hV 1 rfl
  have l2 := lv_at hV 2 rfl
  have l3 := lv_at hV 3 rfl
  obtain ⟨⟨fsx, cx0⟩, ⟨fsm, cm0⟩⟩ := cellJ J
  have hX1 := LI_scr I hb hX
  obtain ⟨x1, g1, e1⟩ := nI_ex (xs (i + 1))
  obtain ⟨x2, g2, e2⟩ := nI_ex (xs (i + 2))
  obtain ⟨a, kx1, km1, s1, s2, kx2, km2, r1, r2, J2⟩ := step_sort g1 g2 J
  have M1 := sd_X8_sort (l := l) (D := D) (cI := cI) (cS := cS) (cM := cM) _ kx [k_i a] kx1 rfl s1
  have M2 := sd_X9_sort (l := l) (D := D) (cI := cI) (cS := cS) (cM := cM) _ km [k_i a] km1 rfl s2
  refine lv_aload_n hx hbc dL_law_298 rfl l1 ?_
  refine l_arg (k := 1) (z := 1) hx hbc dL_law_299 dL_law_300 dL_law_301 dL_law_302 dL_law_303 rfl rfl rfl rfl rfl rfl (by omega) hL hX1 l0 l3 ?_
  refine l_arg (k := 2) (z := 2) hx hbc dL_law_304 dL_law_305 dL_law_306 dL_law_307 dL_law_308 rfl rfl rfl rfl rfl rfl (by omega) hL hX1 l0 l3 ?_
  refine l_call1 (vx := [.int (xs (i + 1)), .int (xs (i + 2))]) (rest := []) (ka := [k_i x1, k_i x2]) dL_law_309 kw_28_3 kw_28_4 kw_28_5 rfl ok_X8_sort (by decide) (by decide) M1 rfl cx0 C I hV.1 (fun as => ⟨⟨g1, by rw [e1]⟩, ⟨⟨g2, by rw [e2]⟩, trivial⟩⟩) (Nat.le_of_ble_eq_true rfl) hcs (fun v1 as1 H1 locs1 hv1 I1 => ?_)
  obtain ⟨-, rfl⟩ := hv1
  have hX2 := LI_scr I1 hb hX
  refine lv_aload_n hx hbc dL_law_312 rfl l2 ?_
  refine l_arg (k := 1) (z := 1) hx hbc dL_law_313 dL_law_314 dL_law_315 dL_law_316 dL_law_317 rfl rfl rfl rfl rfl rfl (by omega) hL hX2 l0 l3 ?_
  refine l_arg (k := 2) (z := 2) hx hbc dL_law_318 dL_law_319 dL_law_320 dL_law_321 dL_law_322 rfl rfl rfl rfl rfl rfl (by omega) hL hX2 l0 l3 ?_
  refine l_call2 (vx := [.int (xs (i + 1)), .int (xs (i + 2))]) (rest := [.int (nI a)]) (ka := [k_i x1, k_i x2]) dL_law_323 kw_28_19 kw_28_20 kw_28_21 rfl ok_X9_sort (by decide) (by decide) M2 rfl cm0 C I1 hV.1 (fun as => ⟨⟨g1, by rw [e1]⟩, ⟨⟨g2, by rw [e2]⟩, trivial⟩⟩) (Nat.le_of_ble_eq_true rfl) hcs (fun v2 as2 H2 locs2 hv2 I2 => ?_)
  obtain ⟨-, rfl⟩ := hv2
  exact lv_icmp_eq (tgt := 750) hx hbc dL_law_326 (by decide) (fun _ => K kx2 km2 H2 locs2 J2 (LI_red r1 r2 I2)) (fun h => absurd rfl h)
theorem lc_times (B : LA D cI cS cM p s m c b L xs cells slots) (hV : lv_has ls 4 [(0, .ref b), (1, .ref ax), (2, .ref am), (3, .int (nI i))]) (hi : i + 4 ≤ L) (I : LI s D cI cS cM kx km ax am H locs) (J : INV kx km) (K : ∀ (kx2 km2 : KH) (H2 : Heap) (locs2 : List Loc), INV kx2 km2 → LI s D cI cS cM kx2 km2 ax am H2 locs2 → W p l e room_1 s m #[Value.ref b] below meth c H2 locs2 cells slots Q (F0 m 750 ls [])) : W p l e room_1 s m #[Value.ref b] below meth c H locs cells slots Q (F0 m 331 ls []) := by
  obtain ⟨C, hb, hX, hL, hcs⟩ := B
  have hx := C.1
  have hbc := C.2.1
  have l0 := lv_at hV 0 rfl
  have l1 := lv_at hV 1 rfl
  have l2 := lv_at hV 2 rfl
  have l3 := lv_at hV 3 rfl
  obtain ⟨⟨fsx, cx0⟩, ⟨fsm, cm0⟩⟩ := cellJ J
  have hX1 := LI_scr I hb hX
  obtain ⟨x1, g1, e1⟩ := nI_ex (xs (i + 1))
  obtain ⟨x2, g2, e2⟩ := nI_ex (xs (i + 2))
  obtain ⟨x3, g3, e3⟩ := nI_ex (xs (i + 3))
  obtain ⟨a, kx1, km1, s1, s2, kx2, km2, r1, r2, J2⟩ := step_times g1 g2 g3 J
  have M1 := sd_X8_times (l := l) (D := D) (cI := cI) (cS := cS) (cM := cM) _ kx [k_i a] kx1 rfl s1
  have M2 := sd_X9_times (l := l) (D := D) (cI := cI) (cS := cS) (cM := cM) _ km [k_i a] km1 rfl s2
  refine lv_aload_n hx hbc dL_law_331 rfl l1 ?_
  refine l_arg (k := 1) (z := 1) hx hbc dL_law_332 dL_law_333 dL_law_334 dL_law_335 dL_law_336 rfl rfl rfl rfl rfl rfl (by omega) hL hX1 l0 l3 ?_
  refine l_arg (k := 2) (z := 2) hx hbc dL_law_337 dL_law_338 dL_law_339 dL_law_340 dL_law_341 rfl rfl rfl rfl rfl rfl (by omega) hL hX1 l0 l3 ?_
  refine l_arg (k := 3) (z := 3) hx hbc dL_law_342 dL_law_343 dL_law_344 dL_law_345 dL_law_346 rfl rfl rfl rfl rfl rfl (by omega) hL hX1 l0 l3 ?_
  refine l_call1 (vx := [.int (xs (i + 1)), .int (xs (i + 2)), .int (xs (i + 3))]) (rest := []) (ka := [k_i x1, k_i x2, k_i x3]) dL_law_347 kw_29_11 kw_29_12 kw_29_13 rfl ok_X8_times (by decide) (by decide) M1 rfl cx0 C I hV.1 (fun as => ⟨⟨g1, by rw [e1]⟩, ⟨⟨g2, by rw [e2]⟩, ⟨⟨g3, by rw [e3]⟩, trivial⟩⟩⟩) (Nat.le_of_ble_eq_true rfl) hcs (fun v1 as1 H1 locs1 hv1 I1 => ?_)
  obtain ⟨-, rfl⟩ := hv1
  have hX2 := LI_scr I1 hb hX
  refine lv_aload_n hx hbc dL_law_350 rfl l2 ?_
  refine l_arg (k := 1) (z := 1) hx hbc dL_law_351 dL_law_352 dL_law_353 dL_law_354 dL_law_355 rfl rfl rfl rfl rfl rfl (by omega) hL hX2 l0 l3 ?_
  refine l_arg (k := 2) (z := 2) hx hbc dL_law_356 dL_law_357 dL_law_358 dL_law_359 dL_law_360 rfl rfl rfl rfl rfl rfl (by omega) hL hX2 l0 l3 ?_
  refine l_arg (k := 3) (z := 3) hx hbc dL_law_361 dL_law_362 dL_law_363 dL_law_364 dL_law_365 rfl rfl rfl rfl rfl rfl (by omega) hL hX2 l0 l3 ?_
  refine l_call2 (vx := [.int (xs (i + 1)), .int (xs (i + 2)), .int (xs (i + 3))]) (rest := [.int (nI a)]) (ka := [k_i x1, k_i x2, k_i x3]) dL_law_366 kw_29_17 kw_29_18 kw_29_19 rfl ok_X9_times (by decide) (by decide) M2 rfl cm0 C I1 hV.1 (fun as => ⟨⟨g1, by rw [e1]⟩, ⟨⟨g2, by rw [e2]⟩, ⟨⟨g3, by rw [e3]⟩, trivial⟩⟩⟩) (Nat.le_of_ble_eq_true rfl) hcs (fun v2 as2 H2 locs2 hv2 I2 => ?_)
  obtain ⟨-, rfl⟩ := hv2
  exact lv_icmp_eq (tgt := 750) hx hbc dL_law_369 (by decide) (fun _ => K kx2 km2 H2 locs2 J2 (LI_red r1 r2 I2)) (fun h => absurd rfl h)
theorem lc_degree (B : LA D cI cS cM p s m c b L xs cells slots) (hV : lv_has ls 4 [(0, .ref b), (1, .ref ax), (2, .ref am), (3, .int (nI i))]) (hi : i + 4 ≤ L) (I : LI s D cI cS cM kx km ax am H locs) (J : INV kx km) (K : ∀ (kx2 km2 : KH) (H2 : Heap) (locs2 : List Loc), INV kx2 km2 → LI s D cI cS cM kx2 km2 ax am H2 locs2 → W p l e room_1 s m #[Value.ref b] below meth c H2 locs2 cells slots Q (F0 m 750 ls [])) : W p l e room_1 s m #[Value.ref b] below meth c H locs cells slots Q (F0 m 374 ls []) := by
  obtain ⟨C, hb, hX, hL, hcs⟩ := B
  have hx := C.1
  have hbc := C.2.1
  have l0 := lv_at hV 0 rfl
  have l1 := lv_at hV 1 rfl
  have l2 := lv_at hV 2 rfl
  have l3 := lv_at hV 3 rfl
  obtain ⟨⟨fsx, cx0⟩, ⟨fsm, cm0⟩⟩ := cellJ J
  have hX1 := LI_scr I hb hX
  obtain ⟨x1, g1, e1⟩ := nI_ex (xs (i + 1))
  obtain ⟨a, kx1, km1, s1, s2, kx2, km2, r1, r2, J2⟩ := step_degree g1 J
  have M1 := sd_X8_degree (l := l) (D := D) (cI := cI) (cS := cS) (cM := cM) _ kx [k_i a] kx1 rfl s1
  have M2 := sd_X9_degree (l := l) (D := D) (cI := cI) (cS := cS) (cM := cM) _ km [k_i a] km1 rfl s2
  refine lv_aload_n hx hbc dL_law_374 rfl l1 ?_
  refine l_arg (k := 1) (z := 1) hx hbc dL_law_375 dL_law_376 dL_law_377 dL_law_378 dL_law_379 rfl rfl rfl rfl rfl rfl (by omega) hL hX1 l0 l3 ?_
  refine l_call1 (vx := [.int (xs (i + 1))]) (rest := []) (ka := [k_i x1]) dL_law_380 kw_29_21 kw_29_22 kw_29_23 rfl ok_X8_degree (by decide) (by decide) M1 rfl cx0 C I hV.1 (fun as => ⟨⟨g1, by rw [e1]⟩, trivial⟩) (Nat.le_of_ble_eq_true rfl) hcs (fun v1 as1 H1 locs1 hv1 I1 => ?_)
  obtain ⟨-, rfl⟩ := hv1
  have hX2 := LI_scr I1 hb hX
  refine lv_aload_n hx hbc dL_law_383 rfl l2 ?_
  refine l_arg (k := 1) (z := 1) hx hbc dL_law_384 dL_law_385 dL_law_386 dL_law_387 dL_law_388 rfl rfl rfl rfl rfl rfl (by omega) hL hX2 l0 l3 ?_
  refine l_call2 (vx := [.int (xs (i + 1))]) (rest := [.int (nI a)]) (ka := [k_i x1]) dL_law_389 kw_30_3 kw_30_4 kw_30_5 rfl ok_X9_degree (by decide) (by decide) M2 rfl cm0 C I1 hV.1 (fun as => ⟨⟨g1, by rw [e1]⟩, trivial⟩) (Nat.le_of_ble_eq_true rfl) hcs (fun v2 as2 H2 locs2 hv2 I2 => ?_)
  obtain ⟨-, rfl⟩ := hv2
  exact lv_icmp_eq (tgt := 750) hx hbc dL_law_392 (by decide) (fun _ => K kx2 km2 H2 locs2 J2 (LI_red r1 r2 I2)) (fun h => absurd rfl h)
theorem lc_value (B : LA D cI cS cM p s m c b L xs cells slots) (hV : lv_has ls 4 [(0, .ref b), (1, .ref ax), (2, .ref am), (3, .int (nI i))]) (hi : i + 4 ≤ L) (I : LI s D cI cS cM kx km ax am H locs) (J : INV kx km) (K : ∀ (kx2 km2 : KH) (H2 : Heap) (locs2 : List Loc), INV kx2 km2 → LI s D cI cS cM kx2 km2 ax am H2 locs2 → W p l e room_1 s m #[Value.ref b] below meth c H2 locs2 cells slots Q (F0 m 750 ls [])) : W p l e room_1 s m #[Value.ref b] below meth c H locs cells slots Q (F0 m 397 ls []) := by
  obtain ⟨C, hb, hX, hL, hcs⟩ := B
  have hx := C.1
  have hbc := C.2.1
  have l0 := lv_at hV 0 rfl
  have l1 := lv_at hV 1 rfl
  have l2 := lv_at hV 2 rfl
  have l3 := lv_at hV 3 rfl
  obtain ⟨⟨fsx, cx0⟩, ⟨fsm, cm0⟩⟩ := cellJ J
  have hX1 := LI_scr I hb hX
  obtain ⟨x1, g1, e1⟩ := nI_ex (xs (i + 1))
  obtain ⟨x2, g2, e2⟩ := nI_ex (xs (i + 2))
  obtain ⟨a, kx1, km1, s1, s2, kx2, km2, r1, r2, J2⟩ := step_value g1 g2 J
  have M1 := sd_X8_value (l := l) (D := D) (cI := cI) (cS := cS) (cM := cM) _ kx [k_i a] kx1 rfl s1
  have M2 := sd_X9_value (l := l) (D := D) (cI := cI) (cS := cS) (cM := cM) _ km [k_i a] km1 rfl s2
  refine lv_aload_n hx hbc dL_law_397 rfl l1 ?_
  refine l_arg (k := 1) (z := 1) hx hbc dL_law_398 dL_law_399 dL_law_400 dL_law_401 dL_law_402 rfl rfl rfl rfl rfl rfl (by omega) hL hX1 l0 l3 ?_
  refine l_arg (k := 2) (z := 2) hx hbc dL_law_403 dL_law_404 dL_law_405 dL_law_406 dL_law_407 rfl rfl rfl rfl rfl rfl (by omega) hL hX1 l0 l3 ?_
  refine l_call1 (vx := [.int (xs (i + 1)), .int (xs (i + 2))]) (rest := []) (ka := [k_i x1, k_i x2]) dL_law_408 kw_30_7 kw_30_8 kw_30_9 rfl ok_X8_value (by decide) (by decide) M1 rfl cx0 C I hV.1 (fun as => ⟨⟨g1, by rw [e1]⟩, ⟨⟨g2, by rw [e2]⟩, trivial⟩⟩) (Nat.le_of_ble_eq_true rfl) hcs (fun v1 as1 H1 locs1 hv1 I1 => ?_)
  obtain ⟨-, rfl⟩ := hv1
  have hX2 := LI_scr I1 hb hX
  refine lv_aload_n hx hbc dL_law_411 rfl l2 ?_
  refine l_arg (k := 1) (z := 1) hx hbc dL_law_412 dL_law_413 dL_law_414 dL_law_415 dL_law_416 rfl rfl rfl rfl rfl rfl (by omega) hL hX2 l0 l3 ?_
  refine l_arg (k := 2) (z := 2) hx hbc dL_law_417 dL_law_418 dL_law_419 dL_law_420 dL_law_421 rfl rfl rfl rfl rfl rfl (by omega) hL hX2 l0 l3 ?_
  refine l_call2 (vx := [.int (xs (i + 1)), .int (xs (i + 2))]) (rest := [.int (nI a)]) (ka := [k_i x1, k_i x2]) dL_law_422 kw_30_12 kw_30_13 kw_30_14 rfl ok_X9_value (by decide) (by decide) M2 rfl cm0 C I1 hV.1 (fun as => ⟨⟨g1, by rw [e1]⟩, ⟨⟨g2, by rw [e2]⟩, trivial⟩⟩) (Nat.le_of_ble_eq_true rfl) hcs (fun v2 as2 H2 locs2 hv2 I2 => ?_)
  obtain ⟨-, rfl⟩ := hv2
  exact lv_icmp_eq (tgt := 750) hx hbc dL_law_425 (by decide) (fun _ => K kx2 km2 H2 locs2 J2 (LI_red r1 r2 I2)) (fun h => absurd rfl h)
theorem lc_spread (B : LA D cI cS cM p s m c b L xs cells slots) (hV : lv_has ls 4 [(0, .ref b), (1, .ref ax), (2, .ref am), (3, .int (nI i))]) (hi : i + 4 ≤ L) (I : LI s D cI cS cM kx km ax am H locs) (J : INV kx km) (K : ∀ (kx2 km2 : KH) (H2 : Heap) (locs2 : List Loc), INV kx2 km2 → LI s D cI cS cM kx2 km2 ax am H2 locs2 → W p l e room_1 s m #[Value.ref b] below meth c H2 locs2 cells slots Q (F0 m 750 ls [])) : W p l e room_1 s m #[Value.ref b] below meth c H locs cells slots Q (F0 m 430 ls []) := by
  obtain ⟨C, hb, hX, hL, hcs⟩ := B
  have hx := C.1
  have hbc := C.2.1
  have l0 := lv_at hV 0 rfl
  have l1 := lv_at hV 1 rfl
  have l2 := lv_at hV 2 rfl
  have l3 := lv_at hV 3 rfl
  obtain ⟨⟨fsx, cx0⟩, ⟨fsm, cm0⟩⟩ := cellJ J
  have hX1 := LI_scr I hb hX
  obtain ⟨x1, g1, e1⟩ := nI_ex (xs (i + 1))
  obtain ⟨x2, g2, e2⟩ := nI_ex (xs (i + 2))
  obtain ⟨a, kx1, km1, s1, s2, kx2, km2, r1, r2, J2⟩ := step_spread g1 g2 J
  have M1 := sd_X8_spread (l := l) (D := D) (cI := cI) (cS := cS) (cM := cM) _ kx [k_i a] kx1 rfl s1
  have M2 := sd_X9_spread (l := l) (D := D) (cI := cI) (cS := cS) (cM := cM) _ km [k_i a] km1 rfl s2
  refine lv_aload_n hx hbc dL_law_430 rfl l1 ?_
  refine l_arg (k := 1) (z := 1) hx hbc dL_law_431 dL_law_432 dL_law_433 dL_law_434 dL_law_435 rfl rfl rfl rfl rfl rfl (by omega) hL hX1 l0 l3 ?_
  refine l_arg (k := 2) (z := 2) hx hbc dL_law_436 dL_law_437 dL_law_438 dL_law_439 dL_law_440 rfl rfl rfl rfl rfl rfl (by omega) hL hX1 l0 l3 ?_
  refine l_call1 (vx := [.int (xs (i + 1)), .int (xs (i + 2))]) (rest := []) (ka := [k_i x1, k_i x2]) dL_law_441 kw_30_16 kw_30_17 kw_30_18 rfl ok_X8_spread (by decide) (by decide) M1 rfl cx0 C I hV.1 (fun as => ⟨⟨g1, by rw [e1]⟩, ⟨⟨g2, by rw [e2]⟩, trivial⟩⟩) (Nat.le_of_ble_eq_true rfl) hcs (fun v1 as1 H1 locs1 hv1 I1 => ?_)
  obtain ⟨-, rfl⟩ := hv1
  have hX2 := LI_scr I1 hb hX
  refine lv_aload_n hx hbc dL_law_444 rfl l2 ?_
  refine l_arg (k := 1) (z := 1) hx hbc dL_law_445 dL_law_446 dL_law_447 dL_law_448 dL_law_449 rfl rfl rfl rfl rfl rfl (by omega) hL hX2 l0 l3 ?_
  refine l_arg (k := 2) (z := 2) hx hbc dL_law_450 dL_law_451 dL_law_452 dL_law_453 dL_law_454 rfl rfl rfl rfl rfl rfl (by omega) hL hX2 l0 l3 ?_
  refine l_call2 (vx := [.int (xs (i + 1)), .int (xs (i + 2))]) (rest := [.int (nI a)]) (ka := [k_i x1, k_i x2]) dL_law_455 kw_30_21 kw_30_22 kw_30_23 rfl ok_X9_spread (by decide) (by decide) M2 rfl cm0 C I1 hV.1 (fun as => ⟨⟨g1, by rw [e1]⟩, ⟨⟨g2, by rw [e2]⟩, trivial⟩⟩) (Nat.le_of_ble_eq_true rfl) hcs (fun v2 as2 H2 locs2 hv2 I2 => ?_)
  obtain ⟨-, rfl⟩ := hv2
  exact lv_icmp_eq (tgt := 750) hx hbc dL_law_458 (by decide) (fun _ => K kx2 km2 H2 locs2 J2 (LI_red r1 r2 I2)) (fun h => absurd rfl h)
theorem lc_part (B : LA D cI cS cM p s m c b L xs cells slots) (hV : lv_has ls 4 [(0, .ref b), (1, .ref ax), (2, .ref am), (3, .int (nI i))]) (hi : i + 4 ≤ L) (I : LI s D cI cS cM kx km ax am H locs) (J : INV kx km) (K : ∀ (kx2 km2 : KH) (H2 : Heap) (locs2 : List Loc), INV kx2 km2 → LI s D cI cS cM kx2 km2 ax am H2 locs2 → W p l e room_1 s m #[Value.ref b] below meth c H2 locs2 cells slots Q (F0 m 750 ls [])) : W p l e room_1 s m #[Value.ref b] below meth c H locs cells slots Q (F0 m 463 ls []) := by
  obtain ⟨C, hb, hX, hL, hcs⟩ := B
  have hx := C.1
  have hbc := C.2.1
  have l0 := lv_at hV 0 rfl
  have l1 := lv_at hV 1 rfl
  have l2 := lv_at hV 2 rfl
  have l3 := lv_at hV 3 rfl
  obtain ⟨⟨fsx, cx0⟩, ⟨fsm, cm0⟩⟩ := cellJ J
  have hX1 := LI_scr I hb hX
  obtain ⟨x1, g1, e1⟩ := nI_ex (xs (i + 1))
  obtain ⟨x2, g2, e2⟩ := nI_ex (xs (i + 2))
  obtain ⟨x3, g3, e3⟩ := nI_ex (xs (i + 3))
  obtain ⟨a, kx1, km1, s1, s2, kx2, km2, r1, r2, J2⟩ := step_part g1 g2 g3 J
  have M1 := sd_X8_part (l := l) (D := D) (cI := cI) (cS := cS) (cM := cM) _ kx [k_i a] kx1 rfl s1
  have M2 := sd_X9_part (l := l) (D := D) (cI := cI) (cS := cS) (cM := cM) _ km [k_i a] km1 rfl s2
  refine lv_aload_n hx hbc dL_law_463 rfl l1 ?_
  refine l_arg (k := 1) (z := 1) hx hbc dL_law_464 dL_law_465 dL_law_466 dL_law_467 dL_law_468 rfl rfl rfl rfl rfl rfl (by omega) hL hX1 l0 l3 ?_
  refine l_arg (k := 2) (z := 2) hx hbc dL_law_469 dL_law_470 dL_law_471 dL_law_472 dL_law_473 rfl rfl rfl rfl rfl rfl (by omega) hL hX1 l0 l3 ?_
  refine l_arg (k := 3) (z := 3) hx hbc dL_law_474 dL_law_475 dL_law_476 dL_law_477 dL_law_478 rfl rfl rfl rfl rfl rfl (by omega) hL hX1 l0 l3 ?_
  refine l_call1 (vx := [.int (xs (i + 1)), .int (xs (i + 2)), .int (xs (i + 3))]) (rest := []) (ka := [k_i x1, k_i x2, k_i x3]) dL_law_479 kw_31_1 kw_31_2 kw_31_3 rfl ok_X8_part (by decide) (by decide) M1 rfl cx0 C I hV.1 (fun as => ⟨⟨g1, by rw [e1]⟩, ⟨⟨g2, by rw [e2]⟩, ⟨⟨g3, by rw [e3]⟩, trivial⟩⟩⟩) (Nat.le_of_ble_eq_true rfl) hcs (fun v1 as1 H1 locs1 hv1 I1 => ?_)
  obtain ⟨-, rfl⟩ := hv1
  have hX2 := LI_scr I1 hb hX
  refine lv_aload_n hx hbc dL_law_482 rfl l2 ?_
  refine l_arg (k := 1) (z := 1) hx hbc dL_law_483 dL_law_484 dL_law_485 dL_law_486 dL_law_487 rfl rfl rfl rfl rfl rfl (by omega) hL hX2 l0 l3 ?_
  refine l_arg (k := 2) (z := 2) hx hbc dL_law_488 dL_law_489 dL_law_490 dL_law_491 dL_law_492 rfl rfl rfl rfl rfl rfl (by omega) hL hX2 l0 l3 ?_
  refine l_arg (k := 3) (z := 3) hx hbc dL_law_493 dL_law_494 dL_law_495 dL_law_496 dL_law_497 rfl rfl rfl rfl rfl rfl (by omega) hL hX2 l0 l3 ?_
  refine l_call2 (vx := [.int (xs (i + 1)), .int (xs (i + 2)), .int (xs (i + 3))]) (rest := [.int (nI a)]) (ka := [k_i x1, k_i x2, k_i x3]) dL_law_498 kw_31_17 kw_31_18 kw_31_19 rfl ok_X9_part (by decide) (by decide) M2 rfl cm0 C I1 hV.1 (fun as => ⟨⟨g1, by rw [e1]⟩, ⟨⟨g2, by rw [e2]⟩, ⟨⟨g3, by rw [e3]⟩, trivial⟩⟩⟩) (Nat.le_of_ble_eq_true rfl) hcs (fun v2 as2 H2 locs2 hv2 I2 => ?_)
  obtain ⟨-, rfl⟩ := hv2
  exact lv_icmp_eq (tgt := 750) hx hbc dL_law_501 (by decide) (fun _ => K kx2 km2 H2 locs2 J2 (LI_red r1 r2 I2)) (fun h => absurd rfl h)
theorem lc_mirror (B : LA D cI cS cM p s m c b L xs cells slots) (hV : lv_has ls 4 [(0, .ref b), (1, .ref ax), (2, .ref am), (3, .int (nI i))]) (hi : i + 4 ≤ L) (I : LI s D cI cS cM kx km ax am H locs) (J : INV kx km) (K : ∀ (kx2 km2 : KH) (H2 : Heap) (locs2 : List Loc), INV kx2 km2 → LI s D cI cS cM kx2 km2 ax am H2 locs2 → W p l e room_1 s m #[Value.ref b] below meth c H2 locs2 cells slots Q (F0 m 750 ls [])) : W p l e room_1 s m #[Value.ref b] below meth c H locs cells slots Q (F0 m 506 ls []) := by
  obtain ⟨C, hb, hX, hL, hcs⟩ := B
  have hx := C.1
  have hbc := C.2.1
  have l0 := lv_at hV 0 rfl
  have l1 := lv_at hV 1 rfl
  have l2 := lv_at hV 2 rfl
  have l3 := lv_at hV 3 rfl
  obtain ⟨⟨fsx, cx0⟩, ⟨fsm, cm0⟩⟩ := cellJ J
  have hX1 := LI_scr I hb hX
  obtain ⟨x1, g1, e1⟩ := nI_ex (xs (i + 1))
  obtain ⟨a, kx1, km1, s1, s2, kx2, km2, r1, r2, J2⟩ := step_mirror g1 J
  have M1 := sd_X8_mirror (l := l) (D := D) (cI := cI) (cS := cS) (cM := cM) _ kx [k_i a] kx1 rfl s1
  have M2 := sd_X9_mirror (l := l) (D := D) (cI := cI) (cS := cS) (cM := cM) _ km [k_i a] km1 rfl s2
  refine lv_aload_n hx hbc dL_law_506 rfl l1 ?_
  refine l_arg (k := 1) (z := 1) hx hbc dL_law_507 dL_law_508 dL_law_509 dL_law_510 dL_law_511 rfl rfl rfl rfl rfl rfl (by omega) hL hX1 l0 l3 ?_
  refine l_call1 (vx := [.int (xs (i + 1))]) (rest := []) (ka := [k_i x1]) dL_law_512 kw_31_21 kw_31_22 kw_31_23 rfl ok_X8_mirror (by decide) (by decide) M1 rfl cx0 C I hV.1 (fun as => ⟨⟨g1, by rw [e1]⟩, trivial⟩) (Nat.le_of_ble_eq_true rfl) hcs (fun v1 as1 H1 locs1 hv1 I1 => ?_)
  obtain ⟨-, rfl⟩ := hv1
  have hX2 := LI_scr I1 hb hX
  refine lv_aload_n hx hbc dL_law_515 rfl l2 ?_
  refine l_arg (k := 1) (z := 1) hx hbc dL_law_516 dL_law_517 dL_law_518 dL_law_519 dL_law_520 rfl rfl rfl rfl rfl rfl (by omega) hL hX2 l0 l3 ?_
  refine l_call2 (vx := [.int (xs (i + 1))]) (rest := [.int (nI a)]) (ka := [k_i x1]) dL_law_521 kw_32_6 kw_32_7 kw_32_8 rfl ok_X9_mirror (by decide) (by decide) M2 rfl cm0 C I1 hV.1 (fun as => ⟨⟨g1, by rw [e1]⟩, trivial⟩) (Nat.le_of_ble_eq_true rfl) hcs (fun v2 as2 H2 locs2 hv2 I2 => ?_)
  obtain ⟨-, rfl⟩ := hv2
  exact lv_icmp_eq (tgt := 750) hx hbc dL_law_524 (by decide) (fun _ => K kx2 km2 H2 locs2 J2 (LI_red r1 r2 I2)) (fun h => absurd rfl h)
theorem lc_blind (B : LA D cI cS cM p s m c b L xs cells slots) (hV : lv_has ls 4 [(0, .ref b), (1, .ref ax), (2, .ref am), (3, .int (nI i))]) (hi : i + 4 ≤ L) (I : LI s D cI cS cM kx km ax am H locs) (J : INV kx km) (K : ∀ (kx2 km2 : KH) (H2 : Heap) (locs2 : List Loc), INV kx2 km2 → LI s D cI cS cM kx2 km2 ax am H2 locs2 → W p l e room_1 s m #[Value.ref b] below meth c H2 locs2 cells slots Q (F0 m 750 ls [])) : W p l e room_1 s m #[Value.ref b] below meth c H locs cells slots Q (F0 m 529 ls []) := by
  obtain ⟨C, hb, hX, hL, hcs⟩ := B
  have hx := C.1
  have hbc := C.2.1
  have l0 := lv_at hV 0 rfl
  have l1 := lv_at hV 1 rfl
  have l2 := lv_at hV 2 rfl
  have l3 := lv_at hV 3 rfl
  obtain ⟨⟨fsx, cx0⟩, ⟨fsm, cm0⟩⟩ := cellJ J
  have hX1 := LI_scr I hb hX
  obtain ⟨x1, g1, e1⟩ := nI_ex (xs (i + 1))
  obtain ⟨a, kx1, km1, s1, s2, kx2, km2, r1, r2, J2⟩ := step_blind g1 J
  have M1 := sd_X8_blind (l := l) (D := D) (cI := cI) (cS := cS) (cM := cM) _ kx [k_i a] kx1 rfl s1
  have M2 := sd_X9_blind (l := l) (D := D) (cI := cI) (cS := cS) (cM := cM) _ km [k_i a] km1 rfl s2
  refine lv_aload_n hx hbc dL_law_529 rfl l1 ?_
  refine l_arg (k := 1) (z := 1) hx hbc dL_law_530 dL_law_531 dL_law_532 dL_law_533 dL_law_534 rfl rfl rfl rfl rfl rfl (by omega) hL hX1 l0 l3 ?_
  refine l_call1 (vx := [.int (xs (i + 1))]) (rest := []) (ka := [k_i x1]) dL_law_535 kw_32_14 kw_32_15 kw_32_16 rfl ok_X8_blind (by decide) (by decide) M1 rfl cx0 C I hV.1 (fun as => ⟨⟨g1, by rw [e1]⟩, trivial⟩) (Nat.le_of_ble_eq_true rfl) hcs (fun v1 as1 H1 locs1 hv1 I1 => ?_)
  obtain ⟨-, rfl⟩ := hv1
  have hX2 := LI_scr I1 hb hX
  refine lv_aload_n hx hbc dL_law_538 rfl l2 ?_
  refine l_arg (k := 1) (z := 1) hx hbc dL_law_539 dL_law_540 dL_law_541 dL_law_542 dL_law_543 rfl rfl rfl rfl rfl rfl (by omega) hL hX2 l0 l3 ?_
  refine l_call2 (vx := [.int (xs (i + 1))]) (rest := [.int (nI a)]) (ka := [k_i x1]) dL_law_544 kw_32_22 kw_32_23 kw_33_0 rfl ok_X9_blind (by decide) (by decide) M2 rfl cm0 C I1 hV.1 (fun as => ⟨⟨g1, by rw [e1]⟩, trivial⟩) (Nat.le_of_ble_eq_true rfl) hcs (fun v2 as2 H2 locs2 hv2 I2 => ?_)
  obtain ⟨-, rfl⟩ := hv2
  exact lv_icmp_eq (tgt := 750) hx hbc dL_law_547 (by decide) (fun _ => K kx2 km2 H2 locs2 J2 (LI_red r1 r2 I2)) (fun h => absurd rfl h)
theorem lc_within (B : LA D cI cS cM p s m c b L xs cells slots) (hV : lv_has ls 4 [(0, .ref b), (1, .ref ax), (2, .ref am), (3, .int (nI i))]) (hi : i + 4 ≤ L) (I : LI s D cI cS cM kx km ax am H locs) (J : INV kx km) (K : ∀ (kx2 km2 : KH) (H2 : Heap) (locs2 : List Loc), INV kx2 km2 → LI s D cI cS cM kx2 km2 ax am H2 locs2 → W p l e room_1 s m #[Value.ref b] below meth c H2 locs2 cells slots Q (F0 m 750 ls [])) : W p l e room_1 s m #[Value.ref b] below meth c H locs cells slots Q (F0 m 552 ls []) := by
  obtain ⟨C, hb, hX, hL, hcs⟩ := B
  have hx := C.1
  have hbc := C.2.1
  have l0 := lv_at hV 0 rfl
  have l1 := lv_at hV 1 rfl
  have l2 := lv_at hV 2 rfl
  have l3 := lv_at hV 3 rfl
  obtain ⟨⟨fsx, cx0⟩, ⟨fsm, cm0⟩⟩ := cellJ J
  have hX1 := LI_scr I hb hX
  obtain ⟨x1, g1, e1⟩ := nI_ex (xs (i + 1))
  obtain ⟨x2, g2, e2⟩ := nI_ex (xs (i + 2))
  obtain ⟨x3, g3, e3⟩ := nI_ex (xs (i + 3))
  obtain ⟨a, kx1, km1, s1, s2, kx2, km2, r1, r2, J2⟩ := step_within g1 g2 g3 J
  have M1 := sd_X8_within (l := l) (D := D) (cI := cI) (cS := cS) (cM := cM) _ kx [k_i a] kx1 rfl s1
  have M2 := sd_X9_within (l := l) (D := D) (cI := cI) (cS := cS) (cM := cM) _ km [k_i a] km1 rfl s2
  refine lv_aload_n hx hbc dL_law_552 rfl l1 ?_
  refine l_arg (k := 1) (z := 1) hx hbc dL_law_553 dL_law_554 dL_law_555 dL_law_556 dL_law_557 rfl rfl rfl rfl rfl rfl (by omega) hL hX1 l0 l3 ?_
  refine l_arg (k := 2) (z := 2) hx hbc dL_law_558 dL_law_559 dL_law_560 dL_law_561 dL_law_562 rfl rfl rfl rfl rfl rfl (by omega) hL hX1 l0 l3 ?_
  refine l_arg (k := 3) (z := 3) hx hbc dL_law_563 dL_law_564 dL_law_565 dL_law_566 dL_law_567 rfl rfl rfl rfl rfl rfl (by omega) hL hX1 l0 l3 ?_
  refine l_call1 (vx := [.int (xs (i + 1)), .int (xs (i + 2)), .int (xs (i + 3))]) (rest := []) (ka := [k_i x1, k_i x2, k_i x3]) dL_law_568 kw_33_2 kw_33_3 kw_33_4 rfl ok_X8_within (by decide) (by decide) M1 rfl cx0 C I hV.1 (fun as => ⟨⟨g1, by rw [e1]⟩, ⟨⟨g2, by rw [e2]⟩, ⟨⟨g3, by rw [e3]⟩, trivial⟩⟩⟩) (Nat.le_of_ble_eq_true rfl) hcs (fun v1 as1 H1 locs1 hv1 I1 => ?_)
  obtain ⟨-, rfl⟩ := hv1
  have hX2 := LI_scr I1 hb hX
  refine lv_aload_n hx hbc dL_law_571 rfl l2 ?_
  refine l_arg (k := 1) (z := 1) hx hbc dL_law_572 dL_law_573 dL_law_574 dL_law_575 dL_law_576 rfl rfl rfl rfl rfl rfl (by omega) hL hX2 l0 l3 ?_
  refine l_arg (k := 2) (z := 2) hx hbc dL_law_577 dL_law_578 dL_law_579 dL_law_580 dL_law_581 rfl rfl rfl rfl rfl rfl (by omega) hL hX2 l0 l3 ?_
  refine l_arg (k := 3) (z := 3) hx hbc dL_law_582 dL_law_583 dL_law_584 dL_law_585 dL_law_586 rfl rfl rfl rfl rfl rfl (by omega) hL hX2 l0 l3 ?_
  refine l_call2 (vx := [.int (xs (i + 1)), .int (xs (i + 2)), .int (xs (i + 3))]) (rest := [.int (nI a)]) (ka := [k_i x1, k_i x2, k_i x3]) dL_law_587 kw_33_15 kw_33_16 kw_33_17 rfl ok_X9_within (by decide) (by decide) M2 rfl cm0 C I1 hV.1 (fun as => ⟨⟨g1, by rw [e1]⟩, ⟨⟨g2, by rw [e2]⟩, ⟨⟨g3, by rw [e3]⟩, trivial⟩⟩⟩) (Nat.le_of_ble_eq_true rfl) hcs (fun v2 as2 H2 locs2 hv2 I2 => ?_)
  obtain ⟨-, rfl⟩ := hv2
  exact lv_icmp_eq (tgt := 750) hx hbc dL_law_590 (by decide) (fun _ => K kx2 km2 H2 locs2 J2 (LI_red r1 r2 I2)) (fun h => absurd rfl h)
theorem lc_natural (B : LA D cI cS cM p s m c b L xs cells slots) (hV : lv_has ls 4 [(0, .ref b), (1, .ref ax), (2, .ref am), (3, .int (nI i))]) (hi : i + 4 ≤ L) (I : LI s D cI cS cM kx km ax am H locs) (J : INV kx km) (K : ∀ (kx2 km2 : KH) (H2 : Heap) (locs2 : List Loc), INV kx2 km2 → LI s D cI cS cM kx2 km2 ax am H2 locs2 → W p l e room_1 s m #[Value.ref b] below meth c H2 locs2 cells slots Q (F0 m 750 ls [])) : W p l e room_1 s m #[Value.ref b] below meth c H locs cells slots Q (F0 m 595 ls []) := by
  obtain ⟨C, hb, hX, hL, hcs⟩ := B
  have hx := C.1
  have hbc := C.2.1
  have l0 := lv_at hV 0 rfl
  have l1 := lv_at hV 1 rfl
  have l2 := lv_at hV 2 rfl
  have l3 := lv_at hV 3 rfl
  obtain ⟨⟨fsx, cx0⟩, ⟨fsm, cm0⟩⟩ := cellJ J
  have hX1 := LI_scr I hb hX
  obtain ⟨x1, g1, e1⟩ := nI_ex (xs (i + 1))
  obtain ⟨a, kx1, km1, s1, s2, kx2, km2, r1, r2, J2⟩ := step_natural g1 J
  have M1 := sd_X8_natural (l := l) (D := D) (cI := cI) (cS := cS) (cM := cM) _ kx [k_i a] kx1 rfl s1
  have M2 := sd_X9_natural (l := l) (D := D) (cI := cI) (cS := cS) (cM := cM) _ km [k_i a] km1 rfl s2
  refine lv_aload_n hx hbc dL_law_595 rfl l1 ?_
  refine l_arg (k := 1) (z := 1) hx hbc dL_law_596 dL_law_597 dL_law_598 dL_law_599 dL_law_600 rfl rfl rfl rfl rfl rfl (by omega) hL hX1 l0 l3 ?_
  refine l_call1 (vx := [.int (xs (i + 1))]) (rest := []) (ka := [k_i x1]) dL_law_601 kw_34_3 kw_34_4 kw_34_5 rfl ok_X8_natural (by decide) (by decide) M1 rfl cx0 C I hV.1 (fun as => ⟨⟨g1, by rw [e1]⟩, trivial⟩) (Nat.le_of_ble_eq_true rfl) hcs (fun v1 as1 H1 locs1 hv1 I1 => ?_)
  obtain ⟨-, rfl⟩ := hv1
  have hX2 := LI_scr I1 hb hX
  refine lv_aload_n hx hbc dL_law_604 rfl l2 ?_
  refine l_arg (k := 1) (z := 1) hx hbc dL_law_605 dL_law_606 dL_law_607 dL_law_608 dL_law_609 rfl rfl rfl rfl rfl rfl (by omega) hL hX2 l0 l3 ?_
  refine l_call2 (vx := [.int (xs (i + 1))]) (rest := [.int (nI a)]) (ka := [k_i x1]) dL_law_610 kw_34_7 kw_34_8 kw_34_9 rfl ok_X9_natural (by decide) (by decide) M2 rfl cm0 C I1 hV.1 (fun as => ⟨⟨g1, by rw [e1]⟩, trivial⟩) (Nat.le_of_ble_eq_true rfl) hcs (fun v2 as2 H2 locs2 hv2 I2 => ?_)
  obtain ⟨-, rfl⟩ := hv2
  exact lv_icmp_eq (tgt := 750) hx hbc dL_law_613 (by decide) (fun _ => K kx2 km2 H2 locs2 J2 (LI_red r1 r2 I2)) (fun h => absurd rfl h)
theorem lc_turned (B : LA D cI cS cM p s m c b L xs cells slots) (hV : lv_has ls 4 [(0, .ref b), (1, .ref ax), (2, .ref am), (3, .int (nI i))]) (hi : i + 4 ≤ L) (I : LI s D cI cS cM kx km ax am H locs) (J : INV kx km) (K : ∀ (kx2 km2 : KH) (H2 : Heap) (locs2 : List Loc), INV kx2 km2 → LI s D cI cS cM kx2 km2 ax am H2 locs2 → W p l e room_1 s m #[Value.ref b] below meth c H2 locs2 cells slots Q (F0 m 750 ls [])) : W p l e room_1 s m #[Value.ref b] below meth c H locs cells slots Q (F0 m 618 ls []) := by
  obtain ⟨C, hb, hX, hL, hcs⟩ := B
  have hx := C.1
  have hbc := C.2.1
  have l0 := lv_at hV 0 rfl
  have l1 := lv_at hV 1 rfl
  have l2 := lv_at hV 2 rfl
  have l3 := lv_at hV 3 rfl
  obtain ⟨⟨fsx, cx0⟩, ⟨fsm, cm0⟩⟩ := cellJ J
  have hX1 := LI_scr I hb hX
  obtain ⟨x1, g1, e1⟩ := nI_ex (xs (i + 1))
  obtain ⟨x2, g2, e2⟩ := nI_ex (xs (i + 2))
  obtain ⟨a, kx1, km1, s1, s2, kx2, km2, r1, r2, J2⟩ := step_turned g1 g2 J
  have M1 := sd_X8_turned (l := l) (D := D) (cI := cI) (cS := cS) (cM := cM) _ kx [k_i a] kx1 rfl s1
  have M2 := sd_X9_turned (l := l) (D := D) (cI := cI) (cS := cS) (cM := cM) _ km [k_i a] km1 rfl s2
  refine lv_aload_n hx hbc dL_law_618 rfl l1 ?_
  refine l_arg (k := 1) (z := 1) hx hbc dL_law_619 dL_law_620 dL_law_621 dL_law_622 dL_law_623 rfl rfl rfl rfl rfl rfl (by omega) hL hX1 l0 l3 ?_
  refine l_arg (k := 2) (z := 2) hx hbc dL_law_624 dL_law_625 dL_law_626 dL_law_627 dL_law_628 rfl rfl rfl rfl rfl rfl (by omega) hL hX1 l0 l3 ?_
  refine l_call1 (vx := [.int (xs (i + 1)), .int (xs (i + 2))]) (rest := []) (ka := [k_i x1, k_i x2]) dL_law_629 kw_34_11 kw_34_12 kw_34_13 rfl ok_X8_turned (by decide) (by decide) M1 rfl cx0 C I hV.1 (fun as => ⟨⟨g1, by rw [e1]⟩, ⟨⟨g2, by rw [e2]⟩, trivial⟩⟩) (Nat.le_of_ble_eq_true rfl) hcs (fun v1 as1 H1 locs1 hv1 I1 => ?_)
  obtain ⟨-, rfl⟩ := hv1
  have hX2 := LI_scr I1 hb hX
  refine lv_aload_n hx hbc dL_law_632 rfl l2 ?_
  refine l_arg (k := 1) (z := 1) hx hbc dL_law_633 dL_law_634 dL_law_635 dL_law_636 dL_law_637 rfl rfl rfl rfl rfl rfl (by omega) hL hX2 l0 l3 ?_
  refine l_arg (k := 2) (z := 2) hx hbc dL_law_638 dL_law_639 dL_law_640 dL_law_641 dL_law_642 rfl rfl rfl rfl rfl rfl (by omega) hL hX2 l0 l3 ?_
  refine l_call2 (vx := [.int (xs (i + 1)), .int (xs (i + 2))]) (rest := [.int (nI a)]) (ka := [k_i x1, k_i x2]) dL_law_643 kw_34_19 kw_34_20 kw_34_21 rfl ok_X9_turned (by decide) (by decide) M2 rfl cm0 C I1 hV.1 (fun as => ⟨⟨g1, by rw [e1]⟩, ⟨⟨g2, by rw [e2]⟩, trivial⟩⟩) (Nat.le_of_ble_eq_true rfl) hcs (fun v2 as2 H2 locs2 hv2 I2 => ?_)
  obtain ⟨-, rfl⟩ := hv2
  exact lv_icmp_eq (tgt := 750) hx hbc dL_law_646 (by decide) (fun _ => K kx2 km2 H2 locs2 J2 (LI_red r1 r2 I2)) (fun h => absurd rfl h)
theorem lc_type (B : LA D cI cS cM p s m c b L xs cells slots) (hV : lv_has ls 4 [(0, .ref b), (1, .ref ax), (2, .ref am), (3, .int (nI i))]) (hi : i + 4 ≤ L) (I : LI s D cI cS cM kx km ax am H locs) (J : INV kx km) (K : ∀ (kx2 km2 : KH) (H2 : Heap) (locs2 : List Loc), INV kx2 km2 → LI s D cI cS cM kx2 km2 ax am H2 locs2 → W p l e room_1 s m #[Value.ref b] below meth c H2 locs2 cells slots Q (F0 m 750 ls [])) : W p l e room_1 s m #[Value.ref b] below meth c H locs cells slots Q (F0 m 651 ls []) := by
  obtain ⟨C, hb, hX, hL, hcs⟩ := B
  have hx := C.1
  have hbc := C.2.1
  have l0 := lv_at hV 0 rfl
  have l1 := lv_at hV 1 rfl
  have l2 := lv_at hV 2 rfl
  have l3 := lv_at hV 3 rfl
  obtain ⟨⟨fsx, cx0⟩, ⟨fsm, cm0⟩⟩ := cellJ J
  have hX1 := LI_scr I hb hX
  obtain ⟨x1, g1, e1⟩ := nI_ex (xs (i + 1))
  obtain ⟨a, kx1, km1, s1, s2, kx2, km2, r1, r2, J2⟩ := step_type g1 J
  have M1 := sd_X8_type (l := l) (D := D) (cI := cI) (cS := cS) (cM := cM) _ kx [k_i a] kx1 rfl s1
  have M2 := sd_X9_type (l := l) (D := D) (cI := cI) (cS := cS) (cM := cM) _ km [k_i a] km1 rfl s2
  refine lv_aload_n hx hbc dL_law_651 rfl l1 ?_
  refine l_arg (k := 1) (z := 1) hx hbc dL_law_652 dL_law_653 dL_law_654 dL_law_655 dL_law_656 rfl rfl rfl rfl rfl rfl (by omega) hL hX1 l0 l3 ?_
  refine l_call1 (vx := [.int (xs (i + 1))]) (rest := []) (ka := [k_i x1]) dL_law_657 kw_34_23 kw_35_0 kw_35_1 rfl ok_X8_type (by decide) (by decide) M1 rfl cx0 C I hV.1 (fun as => ⟨⟨g1, by rw [e1]⟩, trivial⟩) (Nat.le_of_ble_eq_true rfl) hcs (fun v1 as1 H1 locs1 hv1 I1 => ?_)
  obtain ⟨-, rfl⟩ := hv1
  have hX2 := LI_scr I1 hb hX
  refine lv_aload_n hx hbc dL_law_660 rfl l2 ?_
  refine l_arg (k := 1) (z := 1) hx hbc dL_law_661 dL_law_662 dL_law_663 dL_law_664 dL_law_665 rfl rfl rfl rfl rfl rfl (by omega) hL hX2 l0 l3 ?_
  refine l_call2 (vx := [.int (xs (i + 1))]) (rest := [.int (nI a)]) (ka := [k_i x1]) dL_law_666 kw_35_7 kw_35_8 kw_35_9 rfl ok_X9_type (by decide) (by decide) M2 rfl cm0 C I1 hV.1 (fun as => ⟨⟨g1, by rw [e1]⟩, trivial⟩) (Nat.le_of_ble_eq_true rfl) hcs (fun v2 as2 H2 locs2 hv2 I2 => ?_)
  obtain ⟨-, rfl⟩ := hv2
  exact lv_icmp_eq (tgt := 750) hx hbc dL_law_669 (by decide) (fun _ => K kx2 km2 H2 locs2 J2 (LI_red r1 r2 I2)) (fun h => absurd rfl h)
theorem lc_clear (B : LA D cI cS cM p s m c b L xs cells slots) (hV : lv_has ls 4 [(0, .ref b), (1, .ref ax), (2, .ref am), (3, .int (nI i))]) (hi : i + 4 ≤ L) (I : LI s D cI cS cM kx km ax am H locs) (J : INV kx km) (K : ∀ (kx2 km2 : KH) (H2 : Heap) (locs2 : List Loc), INV kx2 km2 → LI s D cI cS cM kx2 km2 ax am H2 locs2 → W p l e room_1 s m #[Value.ref b] below meth c H2 locs2 cells slots Q (F0 m 750 ls [])) : W p l e room_1 s m #[Value.ref b] below meth c H locs cells slots Q (F0 m 674 ls []) := by
  obtain ⟨C, hb, hX, hL, hcs⟩ := B
  have hx := C.1
  have hbc := C.2.1
  have l0 := lv_at hV 0 rfl
  have l1 := lv_at hV 1 rfl
  have l2 := lv_at hV 2 rfl
  have l3 := lv_at hV 3 rfl
  obtain ⟨⟨fsx, cx0⟩, ⟨fsm, cm0⟩⟩ := cellJ J
  have hX1 := LI_scr I hb hX
  obtain ⟨a, kx1, km1, s1, s2, kx2, km2, r1, r2, J2⟩ := step_clear J
  have M1 := sd_X8_clear (l := l) (D := D) (cI := cI) (cS := cS) (cM := cM) _ kx [k_i a] kx1 rfl s1
  have M2 := sd_X9_clear (l := l) (D := D) (cI := cI) (cS := cS) (cM := cM) _ km [k_i a] km1 rfl s2
  refine lv_aload_n hx hbc dL_law_674 rfl l1 ?_
  refine l_call1 (vx := []) (rest := []) (ka := []) dL_law_675 kw_35_12 kw_35_13 kw_35_14 rfl ok_X8_clear (by decide) (by decide) M1 rfl cx0 C I hV.1 (fun as => trivial) (Nat.le_of_ble_eq_true rfl) hcs (fun v1 as1 H1 locs1 hv1 I1 => ?_)
  obtain ⟨-, rfl⟩ := hv1
  have hX2 := LI_scr I1 hb hX
  refine lv_aload_n hx hbc dL_law_678 rfl l2 ?_
  refine l_call2 (vx := []) (rest := [.int (nI a)]) (ka := []) dL_law_679 kw_35_20 kw_35_21 kw_35_22 rfl ok_X9_clear (by decide) (by decide) M2 rfl cm0 C I1 hV.1 (fun as => trivial) (Nat.le_of_ble_eq_true rfl) hcs (fun v2 as2 H2 locs2 hv2 I2 => ?_)
  obtain ⟨-, rfl⟩ := hv2
  exact lv_icmp_eq (tgt := 750) hx hbc dL_law_682 (by decide) (fun _ => K kx2 km2 H2 locs2 J2 (LI_red r1 r2 I2)) (fun h => absurd rfl h)
theorem lc_reads (B : LA D cI cS cM p s m c b L xs cells slots) (hV : lv_has ls 4 [(0, .ref b), (1, .ref ax), (2, .ref am), (3, .int (nI i))]) (hi : i + 4 ≤ L) (I : LI s D cI cS cM kx km ax am H locs) (J : INV kx km) (K : ∀ (kx2 km2 : KH) (H2 : Heap) (locs2 : List Loc), INV kx2 km2 → LI s D cI cS cM kx2 km2 ax am H2 locs2 → W p l e room_1 s m #[Value.ref b] below meth c H2 locs2 cells slots Q (F0 m 750 ls [])) : W p l e room_1 s m #[Value.ref b] below meth c H locs cells slots Q (F0 m 687 ls []) := by
  obtain ⟨C, hb, hX, hL, hcs⟩ := B
  have hx := C.1
  have hbc := C.2.1
  have l0 := lv_at hV 0 rfl
  have l1 := lv_at hV 1 rfl
  have l2 := lv_at hV 2 rfl
  have l3 := lv_at hV 3 rfl
  obtain ⟨⟨fsx, cx0⟩, ⟨fsm, cm0⟩⟩ := cellJ J
  have hX1 := LI_scr I hb hX
  obtain ⟨a, kx1, km1, s1, s2, kx2, km2, r1, r2, J2⟩ := step_reads J
  have M1 := sd_X8_reads (l := l) (D := D) (cI := cI) (cS := cS) (cM := cM) _ kx [k_i a] kx1 rfl s1
  have M2 := sd_X9_reads (l := l) (D := D) (cI := cI) (cS := cS) (cM := cM) _ km [k_i a] km1 rfl s2
  refine lv_aload_n hx hbc dL_law_687 rfl l1 ?_
  refine l_call1 (vx := []) (rest := []) (ka := []) dL_law_688 kw_36_0 kw_36_1 kw_36_2 rfl ok_X8_reads (by decide) (by decide) M1 rfl cx0 C I hV.1 (fun as => trivial) (Nat.le_of_ble_eq_true rfl) hcs (fun v1 as1 H1 locs1 hv1 I1 => ?_)
  obtain ⟨-, rfl⟩ := hv1
  have hX2 := LI_scr I1 hb hX
  refine lv_aload_n hx hbc dL_law_691 rfl l2 ?_
  refine l_call2 (vx := []) (rest := [.int (nI a)]) (ka := []) dL_law_692 kw_37_11 kw_37_12 kw_37_13 rfl ok_X9_reads (by decide) (by decide) M2 rfl cm0 C I1 hV.1 (fun as => trivial) (Nat.le_of_ble_eq_true rfl) hcs (fun v2 as2 H2 locs2 hv2 I2 => ?_)
  obtain ⟨-, rfl⟩ := hv2
  exact lv_icmp_eq (tgt := 750) hx hbc dL_law_695 (by decide) (fun _ => K kx2 km2 H2 locs2 J2 (LI_red r1 r2 I2)) (fun h => absurd rfl h)
theorem lc_back (B : LA D cI cS cM p s m c b L xs cells slots) (hV : lv_has ls 4 [(0, .ref b), (1, .ref ax), (2, .ref am), (3, .int (nI i))]) (hi : i + 4 ≤ L) (I : LI s D cI cS cM kx km ax am H locs) (J : INV kx km) (K : ∀ (kx2 km2 : KH) (H2 : Heap) (locs2 : List Loc), INV kx2 km2 → LI s D cI cS cM kx2 km2 ax am H2 locs2 → W p l e room_1 s m #[Value.ref b] below meth c H2 locs2 cells slots Q (F0 m 750 ls [])) : W p l e room_1 s m #[Value.ref b] below meth c H locs cells slots Q (F0 m 700 ls []) := by
  obtain ⟨C, hb, hX, hL, hcs⟩ := B
  have hx := C.1
  have hbc := C.2.1
  have l0 := lv_at hV 0 rfl
  have l1 := lv_at hV 1 rfl
  have l2 := lv_at hV 2 rfl
  have l3 := lv_at hV 3 rfl
  obtain ⟨⟨fsx, cx0⟩, ⟨fsm, cm0⟩⟩ := cellJ J
  have hX1 := LI_scr I hb hX
  obtain ⟨a, kx1, km1, s1, s2, kx2, km2, r1, r2, J2⟩ := step_back J
  have M1 := sd_X8_back (l := l) (D := D) (cI := cI) (cS := cS) (cM := cM) _ kx [k_i a] kx1 rfl s1
  have M2 := sd_X9_back (l := l) (D := D) (cI := cI) (cS := cS) (cM := cM) _ km [k_i a] km1 rfl s2
  refine lv_aload_n hx hbc dL_law_700 rfl l1 ?_
  refine l_call1 (vx := []) (rest := []) (ka := []) dL_law_701 kw_38_22 kw_38_23 kw_39_0 rfl ok_X8_back (by decide) (by decide) M1 rfl cx0 C I hV.1 (fun as => trivial) (Nat.le_of_ble_eq_true rfl) hcs (fun v1 as1 H1 locs1 hv1 I1 => ?_)
  obtain ⟨-, rfl⟩ := hv1
  have hX2 := LI_scr I1 hb hX
  refine lv_aload_n hx hbc dL_law_704 rfl l2 ?_
  refine l_call2 (vx := []) (rest := [.int (nI a)]) (ka := []) dL_law_705 kw_39_7 kw_39_8 kw_39_9 rfl ok_X9_back (by decide) (by decide) M2 rfl cm0 C I1 hV.1 (fun as => trivial) (Nat.le_of_ble_eq_true rfl) hcs (fun v2 as2 H2 locs2 hv2 I2 => ?_)
  obtain ⟨-, rfl⟩ := hv2
  exact lv_icmp_eq (tgt := 750) hx hbc dL_law_708 (by decide) (fun _ => K kx2 km2 H2 locs2 J2 (LI_red r1 r2 I2)) (fun h => absurd rfl h)
theorem lc_told (B : LA D cI cS cM p s m c b L xs cells slots) (hV : lv_has ls 4 [(0, .ref b), (1, .ref ax), (2, .ref am), (3, .int (nI i))]) (hi : i + 4 ≤ L) (I : LI s D cI cS cM kx km ax am H locs) (J : INV kx km) (K : ∀ (kx2 km2 : KH) (H2 : Heap) (locs2 : List Loc), INV kx2 km2 → LI s D cI cS cM kx2 km2 ax am H2 locs2 → W p l e room_1 s m #[Value.ref b] below meth c H2 locs2 cells slots Q (F0 m 750 ls [])) : W p l e room_1 s m #[Value.ref b] below meth c H locs cells slots Q (F0 m 713 ls []) := by
  obtain ⟨C, hb, hX, hL, hcs⟩ := B
  have hx := C.1
  have hbc := C.2.1
  have l0 := lv_at hV 0 rfl
  have l1 := lv_at hV 1 rfl
  have l2 := lv_at hV 2 rfl
  have l3 := lv_at hV 3 rfl
  obtain ⟨⟨fsx, cx0⟩, ⟨fsm, cm0⟩⟩ := cellJ J
  have hX1 := LI_scr I hb hX
  obtain ⟨x1, g1, e1⟩ := nI_ex (xs (i + 1))
  obtain ⟨a, kx1, km1, s1, s2, kx2, km2, r1, r2, J2⟩ := step_told g1 J
  have M1 := sd_X8_told (l := l) (D := D) (cI := cI) (cS := cS) (cM := cM) _ kx [k_i a] kx1 rfl s1
  have M2 := sd_X9_told (l := l) (D := D) (cI := cI) (cS := cS) (cM := cM) _ km [k_i a] km1 rfl s2
  refine lv_aload_n hx hbc dL_law_713 rfl l1 ?_
  refine l_arg (k := 1) (z := 1) hx hbc dL_law_714 dL_law_715 dL_law_716 dL_law_717 dL_law_718 rfl rfl rfl rfl rfl rfl (by omega) hL hX1 l0 l3 ?_
  refine l_call1 (vx := [.int (xs (i + 1))]) (rest := []) (ka := [k_i x1]) dL_law_719 kw_39_11 kw_39_12 kw_39_13 rfl ok_X8_told (by decide) (by decide) M1 rfl cx0 C I hV.1 (fun as => ⟨⟨g1, by rw [e1]⟩, trivial⟩) (Nat.le_of_ble_eq_true rfl) hcs (fun v1 as1 H1 locs1 hv1 I1 => ?_)
  obtain ⟨-, rfl⟩ := hv1
  have hX2 := LI_scr I1 hb hX
  refine lv_aload_n hx hbc dL_law_722 rfl l2 ?_
  refine l_arg (k := 1) (z := 1) hx hbc dL_law_723 dL_law_724 dL_law_725 dL_law_726 dL_law_727 rfl rfl rfl rfl rfl rfl (by omega) hL hX2 l0 l3 ?_
  refine l_call2 (vx := [.int (xs (i + 1))]) (rest := [.int (nI a)]) (ka := [k_i x1]) dL_law_728 kw_39_17 kw_39_18 kw_39_19 rfl ok_X9_told (by decide) (by decide) M2 rfl cm0 C I1 hV.1 (fun as => ⟨⟨g1, by rw [e1]⟩, trivial⟩) (Nat.le_of_ble_eq_true rfl) hcs (fun v2 as2 H2 locs2 hv2 I2 => ?_)
  obtain ⟨-, rfl⟩ := hv2
  exact lv_icmp_eq (tgt := 750) hx hbc dL_law_731 (by decide) (fun _ => K kx2 km2 H2 locs2 J2 (LI_red r1 r2 I2)) (fun h => absurd rfl h)
theorem lc_digest (B : LA D cI cS cM p s m c b L xs cells slots) (hV : lv_has ls 4 [(0, .ref b), (1, .ref ax), (2, .ref am), (3, .int (nI i))]) (hi : i + 4 ≤ L) (I : LI s D cI cS cM kx km ax am H locs) (J : INV kx km) (K : ∀ (kx2 km2 : KH) (H2 : Heap) (locs2 : List Loc), INV kx2 km2 → LI s D cI cS cM kx2 km2 ax am H2 locs2 → W p l e room_1 s m #[Value.ref b] below meth c H2 locs2 cells slots Q (F0 m 750 ls [])) : W p l e room_1 s m #[Value.ref b] below meth c H locs cells slots Q (F0 m 736 ls []) := by
  obtain ⟨C, hb, hX, hL, hcs⟩ := B
  have hx := C.1
  have hbc := C.2.1
  have l0 := lv_at hV 0 rfl
  have l1 := lv_at hV 1 rfl
  have l2 := lv_at hV 2 rfl
  have l3 := lv_at hV 3 rfl
  obtain ⟨⟨fsx, cx0⟩, ⟨fsm, cm0⟩⟩ := cellJ J
  have hX1 := LI_scr I hb hX
  obtain ⟨a, kx1, km1, s1, s2, kx2, km2, r1, r2, J2⟩ := step_digest J
  have M1 := sd_X8_digest (l := l) (D := D) (cI := cI) (cS := cS) (cM := cM) _ kx [k_l a] kx1 rfl s1
  have M2 := sd_X9_digest (l := l) (D := D) (cI := cI) (cS := cS) (cM := cM) _ km [k_l a] km1 rfl s2
  refine lv_aload_n hx hbc dL_law_736 rfl l1 ?_
  refine l_call1 (vx := []) (rest := []) (ka := []) dL_law_737 kw_40_1 kw_40_2 kw_40_3 rfl ok_X8_digest (by decide) (by decide) M1 rfl cx0 C I hV.1 (fun as => trivial) (Nat.le_of_ble_eq_true rfl) hcs (fun v1 as1 H1 locs1 hv1 I1 => ?_)
  obtain ⟨-, rfl⟩ := hv1
  have hX2 := LI_scr I1 hb hX
  refine lv_aload_n hx hbc dL_law_740 rfl l2 ?_
  refine l_call2 (vx := []) (rest := [.long (lN a)]) (ka := []) dL_law_741 kw_40_8 kw_40_9 kw_40_10 rfl ok_X9_digest (by decide) (by decide) M2 rfl cm0 C I1 hV.1 (fun as => trivial) (Nat.le_of_ble_eq_true rfl) hcs (fun v2 as2 H2 locs2 hv2 I2 => ?_)
  obtain ⟨-, rfl⟩ := hv2
  refine W.lcmp hx hbc dL_law_744 ?_
  have ez : lg_cmp (lN a) (lN a) = 0 := by simp [lg_cmp]
  rw [ez]
  exact lv_if_eq (tgt := 750) hx hbc dL_law_745 (by decide) (fun _ => K kx2 km2 H2 locs2 J2 (LI_red r1 r2 I2)) (fun h => absurd rfl h)
end LAWC
