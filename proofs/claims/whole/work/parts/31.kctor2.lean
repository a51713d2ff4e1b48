/-! ===== constructors: fields, calls, arrays of arrays ===== -/
theorem k_PC_blind {D : va_G} {cI cS cM : ClassId} {as : List Nat} {es : List va_E} {sz : Nat} {av : List Value} : FrameBlind (k_PC D cI cS cM as es sz av) := fun a U g mk q => ⟨k_P_blind a U g mk q.1, k_ex.moved (u := U) (U := U.calling g mk a) (Vm.Alike.refl U.vm) q.2⟩
section KJC2
variable {l : Launch} {D : va_G} {cI cS cM : ClassId} {own : String} {cc : ByteArray} {nL : Nat} {R : Room} {mc ms : Nat} {kh' : KH} {pc : Nat} {kls kst : List KV} {kh : KH} {cells slots : Nat}
theorem c_put {fin : Bool} {idx ci sl N q : Nat} {Cn : String} {Tf : u_T} {tyf : Nat → FieldType} {fs : List KV} {w : KV} {kh1 : KH} (hd : decode cc pc = .ok (.putfield idx, 3)) (hc : vwCl[ci]? = some (Cn, Tf, N)) (hsl : sl < N) (hin : ∀ w ∈ u_ws Cn Tf N, w ∈ k_tbl) (hty : ∀ k, k < N → parseFieldDescriptor (Tf k).2.2.1 = some (tyf k)) (hnm : ∀ a, a < N → ∀ b, b < N → a ≠ b → (Tf a).2.1 ≠ (Tf b).2.1) (hlk : Cond.fieldLink own idx (Tf sl).1 (Tf sl).2.1 (Tf sl).2.2.1 ∈ k_tbl) (hfin : (Tf sl).2.2.2 = fin) (hdecl : (Tf sl).1 = own)
    (hfit : ∀ (as : List Nat) (u : Value), k_v as w u → narrow (tyf sl) u = u ∧ fits (tyf sl) u = true) (ho : k_cell kh q = k_ob ci fs) (he : kset kh q (k_ob ci (kset fs sl w)) = kh1) (K : KJC l D cI cS cM own cc nL R mc ms kh' (pc + 3) kls kst kh1 cells slots) : KJC l D cI cS cM own cc nL R mc ms kh' pc kls (w :: k_r (q + 1) :: kst) kh cells slots := by
  subst he
  intro p e s m args below meth c A as0 as es H locs ls st C hx hA hp hh hP hD hS hL hst
  obtain ⟨u, st, rfl, hw, hst1⟩ := k_vs_cons hst
  obtain ⟨v, st, rfl, ⟨a, ha, rfl⟩, hst2⟩ := k_vs_cons hst1
  obtain ⟨c1, c2, c3, c4, c5, c6, c7, c8, c9, c10⟩ := id C
  have hq := kh_in hh ha
  obtain ⟨a', ev, h1, h2, h3⟩ := kh_at hh hq
  cases ha.symm.trans h1
  rw [ho] at h3
  obtain ⟨⟨q9, g1, g2⟩, vs, rfl, g4, g5⟩ := h3
  cases hc.symm.trans g1
  have hsl2 : sl < fs.length := by rw [← g2]; exact hsl
  obtain ⟨f1, f2⟩ := hfit as u hw
  have go : ∀ (H1 : Heap) (locs1 : List Loc), va_P D vwCl ((kz as es).set q (a, .inr (ci, vs.set sl u))) H1 → va_D A ((kz as es).set q (a, .inr (ci, vs.set sl u))) → va_S A s.heap H1 locs1 → W p l e R s m args below meth c H1 locs1 cells slots (MQ below (k_Q D cI cS cM as0 [] kh' A) args s mc ms A) (F0 m (pc + 3) ls st) := fun H1 locs1 hP1 hD1 hS1 => by
    rw [kz_set ha] at hP1 hD1
    refine K p e s m args below meth c A as0 as _ H1 locs1 ls _ C hx hA hp (kh_set hh ?_) hP1 hD1 hS1 hL hst2
    refine ⟨⟨(Cn, Tf, N), hc, ?_⟩, vs.set sl u, rfl, ?_, fun i kv hi => ?_⟩
    · show N = (kset fs sl w).length
      rw [kset_eq, List.length_set]
      exact g2
    · show (vs.set sl u).length = (kset fs sl w).length
      rw [kset_eq, List.length_set, List.length_set]
      exact g4
    · have hi : (kset fs sl w)[i]? = some kv := hi
      rw [kset_eq] at hi
      by_cases his : i = sl
      · subst his
        rw [List.getElem?_set_self hsl2] at hi
        cases hi
        exact ⟨u, by rw [List.getElem?_set_self (by rw [g4]; exact hsl2)], hw⟩
      · rw [List.getElem?_set_ne (Ne.symm his)] at hi
        obtain ⟨x, hx1, hx2⟩ := g5 i kv hi
        exact ⟨x, by rw [List.getElem?_set_ne (Ne.symm his)]; exact hx1, hx2⟩
  cases fin with
  | false => exact va_put (D := D) (ci := ci) (v := u) (ty := tyf sl) (C := Cn) (T := Tf) (N := N) c1 c2 c5 hin tyf hty hnm c4 c9 hP hD hS q (kz_get ha h2) hc sl hsl (c5 _ hlk) (fun _ h9 => h9) hfin (hty sl hsl) f1 f2 (by rw [g4]; exact hsl2) hd go
  | true => exact va_putF (D := D) (ci := ci) (v := u) (ty := tyf sl) (C := Cn) (T := Tf) (N := N) c1 c2 c5 hin tyf hty hnm c4 c9 hP hD hS q (kz_get ha h2) hc sl hsl (c5 _ hlk) (fun _ h9 => h9) hfin c8 hdecl (hty sl hsl) f1 f2 (by rw [g4]; exact hsl2) hd go
theorem fit_i (n : Nat) : ∀ (as : List Nat) (u : Value), k_v as (k_i n) u → narrow .int u = u ∧ fits .int u = true := fun as u h => by rw [h.2]; exact ⟨rfl, rfl⟩
theorem fit_z : ∀ (as : List Nat) (u : Value), k_v as (k_i 0) u → narrow .boolean u = u ∧ fits .boolean u = true := fun as u h => by rw [h.2]; decide
theorem fit_a (n : Nat) (z : FieldType) : ∀ (as : List Nat) (u : Value), k_v as (k_r (n + 1)) u → narrow (.array z) u = u ∧ fits (.array z) u = true := fun as u h => by obtain ⟨a, -, rfl⟩ := h; exact ⟨rfl, rfl⟩
theorem fit_o (n : Nat) (z : String) : ∀ (as : List Nat) (u : Value), k_v as (k_r (n + 1)) u → narrow (.object z) u = u ∧ fits (.object z) u = true := fun as u h => by obtain ⟨a, -, rfl⟩ := h; exact ⟨rfl, rfl⟩
theorem c_callI {fr fb mb sb : Nat} {idx q : Nat} {y : MethodName} {cb : ByteArray} {nb : Nat} {kh1 : KH} (hd : decode cc pc = .ok (.invokespecial idx, 3)) (hlk : Cond.methodLink own idx y ∈ k_tbl ∨ (own, idx, y) ∈ k_nl) (hins : Cond.instanceMethod y ∈ k_tbl) (hnm : y.name = "<init>") (hok : k_ok y cb nb none 0) (hfr : fb + 1 ≤ fr) (hnb : nb ≤ 11) (h1 : cells + mb ≤ mc) (h2 : slots + sb ≤ ms) (hds : kst.length ≤ 4) (M : k_metC l D cI cS cM y cb nb fb mb sb [k_r (q + 1)] kh kh1)
    (K : KJC l D cI cS cM own cc nL (k_rm fr mc ms) mc ms kh' (pc + 3) kls kst kh1 (cells + mb) (slots + sb)) : KJC l D cI cS cM own cc nL (k_rm fr mc ms) mc ms kh' pc kls (k_r (q + 1) :: kst) kh cells slots := by
  intro p e s m args below meth c A as0 as es H locs ls st C hx hA hp hh hP hD hS hL hst
  obtain ⟨v, st, rfl, hv, hst1⟩ := k_vs_cons hst
  obtain ⟨a, ha, rfl⟩ := id hv
  obtain ⟨c1, c2, c3, c4, c5, c6, c7, c8, c9, c10⟩ := id C
  obtain ⟨o1, o2, o3, o4⟩ := hok
  have hM := M as es [.ref a] H.size hh ⟨hv, trivial⟩
  have hl := k_vs_len hst1
  have hW : 2 * (F0 m pc ls (Value.ref a :: st)).monitorRoom + (st.map fun v => v.category).sum ≤ 8 := lv_room (Nat.le_trans k_sum4 (by omega))
  have hpre : PreS s H (k_PC D cI cS cM as es H.size [.ref a]) [.ref a] := ⟨k_PC_blind, fun U hU hWU => ⟨k_preS c9 c10 hP hD U hU hWU, hx.moved hWU.alike⟩⟩
  have hR : (k_rm fb mb sb).frames + 1 ≤ (k_rm fr mc ms).frames ∧ 8 + (nb + 11) + (k_rm fb mb sb).locals ≤ (k_rm fr mc ms).locals := ⟨hfr, by show 8 + (nb + 11) + 30 * fb ≤ 30 * fr; omega⟩
  have hrun : va_Run p l e (k_rm fr mc ms) s m args below meth c H locs cells slots mb sb (F0 m pc ls (.ref a :: st)) st (k_Q D cI cS cM as [] kh1 (va_A (kz as es) H.size) ([.ref a] : List Value).toArray) (va_A (kz as es) H.size) := by
    rcases hlk with hlk | hlk
    · exact va_runI (As := []) ⟨c1, c2, c3, c4, c5⟩ hM ⟨callB_of 0 c5 (k_goodIn o1) rfl rfl rfl (c5 _ o2) (c5 _ hlk) o3 hR, hnm, c5 _ hins⟩ hpre rfl rfl hL.size rfl hW hd ⟨h1, h2⟩
    · exact va_runIN (As := []) ⟨c1, c2, c3, c4, c5⟩ hM ⟨va_cnB 0 c5 (k_goodIn o1) rfl rfl rfl (c10.2 _ hlk) (c5 _ o2) o3 hR, hnm, c5 _ hins⟩ hpre rfl rfl hL.size rfl hW hd ⟨h1, h2⟩
  refine k_call hrun hS (k_free hD hS hA) fun v as' es' H1 locs1 w1 w2 w3 w4 w5 w6 => ?_
  have hv0 : v.toList = [] := by
    cases v with
    | none => rfl
    | some v => exact w1.elim
  rw [hv0]
  exact K p e s m args below meth c A as0 as' es' H1 locs1 ls st C hx hA (hp.trans w2) w3 w4 w5 w6 (hL.more w2) (hst1.more w2)
/-- A CONSTRUCTOR -/
theorem c_method {y : MethodName} {fr q : Nat} {us : List KV} (hy : plainFor y = true) (hnm : y.name = "<init>") (hu : ∀ v ∈ us, v = k_u) (hn : 1 + us.length = nL) (K : KJC l D cI cS cM y.cls cc nL (k_rm fr mc ms) mc ms kh' 0 (k_r (q + 1) :: us) [] kh 0 0) : k_metC l D cI cS cM y cc nL fr mc ms [k_r (q + 1)] kh kh' := by
  intro as es av sz hh hv
  refine va_MetF (cc := cc) (maxL := nL) (ret := none) hy rfl ?_
  intro p e s m args below meth c s₁ B hml hvv
  obtain ⟨⟨rfl, hsz, hP, hK, hM, hD0⟩, hx⟩ := hvv
  have hts := atoms_spec (ws := .code y cc nL none :: k_tbl) B.pre
  have hown : s.vm.findClass y.cls = some m.cls := findClass_of_methodNamed B.named
  have hin : meth.name = "<init>" := (name_of_methodNamed B.named B.method).1.trans hnm
  subst hsz
  have hk2 : ∀ v ∈ [k_r (q + 1)], v ≠ k_u ∧ ∀ n, v ≠ k_l n := fun v hv => by
    rw [List.mem_singleton.mp hv]
    exact ⟨by simp, by simp⟩
  obtain ⟨e1, e2⟩ := k_argat 0 hv hk2
  have hl := lv_entry av (n := nL) (by rw [e1]; show 1 ≤ nL; omega)
  rw [lg_entry_eq]
  generalize (lg_sl av ++ List.replicate (nL - (lg_sl av).length) Slot.unset).toArray = ls at hl ⊢
  refine K p e s m av.toArray below meth c (va_A (kz as es) s.heap.size) as as es s.heap [] ls [] ⟨B.exec, B.bytes, hml, hown, fun w hw => hts w (List.mem_cons_of_mem _ hw), B.returns, B.notSynchronized, hin, hK, hM⟩ hx (fun q h => Or.inr h) (List.prefix_refl as) hh hP (hD0.self (sz := s.heap.size)) va_S.rf ⟨_, hl, fun i kv hi => ?_, fun _ i n hi => ?_⟩ trivial
  · cases i with
    | zero =>
      cases hi
      obtain ⟨v, h3, h4⟩ := e2 0 _ rfl
      exact Or.inr ⟨v, by simpa using h3, h4⟩
    | succ i =>
      have hi : us[i]? = some kv := by simpa using hi
      exact Or.inl (hu kv (List.mem_of_getElem? hi))
  · cases i with
    | zero => simp at hi
    | succ i =>
      have hi : us[i]? = some (k_l n) := by simpa using hi
      have := hu _ (List.mem_of_getElem? hi)
      simp at this
end KJC2
/-! heaps with a part that stands ahead -/
theorem ka_cell (pre tl : KH) (j : Nat) (h : j < tl.length) : k_cell (pre ++ tl) (pre.length + j) = k_cell tl j := by
  unfold k_cell
  rw [kget_eq, kget_eq, List.getD_eq_getElem?_getD, List.getD_eq_getElem?_getD, List.getElem?_append_right (by omega), show pre.length + j - pre.length = j by omega]
theorem ka_set (pre tl : KH) (j : Nat) (c : KCell) : kset (pre ++ tl) (pre.length + j) c = pre ++ kset tl j c := by
  rw [kset_eq, kset_eq, List.set_append_right _ _ (by omega), show pre.length + j - pre.length = j by omega]
