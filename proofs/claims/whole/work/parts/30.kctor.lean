/-! ===== constructors: what is made ===== -/
theorem ao_spec {ty : FieldType} {A : Array Value} {s : State} (h : (Cond.arrayOver (.array ty)).before A s = true) : ∃ comp c k, s.vm.findClass (FieldType.array ty).toString = some comp ∧ (s.vm.classes.findIdx? fun (x : Class) => match x.kind with | .array component _ => component == comp | _ => false) = some c ∧ s.vm.classes[c]? = some k ∧ k.kind = .array comp (.array ty) ∧ s.vm.findClass ("[" ++ (FieldType.array ty).toString) = some c := by
  simp only [Cond.before, Cond.holds, Cond.value, beq_iff_eq] at h
  cases hc : s.vm.findClass (FieldType.array ty).toString with
  | none => simp [hc] at h
  | some comp =>
    simp only [hc, Option.bind_some, Option.bind_eq_some_iff, Option.map_eq_some_iff] at h
    obtain ⟨c, hi, k, hk, hb⟩ := h
    obtain ⟨hlt, hp, -⟩ := Array.findIdx?_eq_some_iff_getElem.mp hi
    have hkk : s.vm.classes[c] = k := (Array.getElem?_eq_some_iff.mp hk).2
    rw [hkk] at hp
    cases hkind : k.kind with
    | array component ty =>
      rw [hkind] at hb hp
      simp at hb hp
      exact ⟨comp, c, k, rfl, hi, hk, by rw [hkind, hp, hb.1], hb.2⟩
    | _ => rw [hkind] at hb; simp at hb
theorem va_AOA.moved {ty : FieldType} {u U : State} (hvm : u.vm.Alike U.vm) (h : va_AOA ty u) : va_AOA ty U := by
  obtain ⟨comp, c, k, h1, h2, h3, h4, h5⟩ := ao_spec h
  obtain ⟨k', hk', he⟩ := hvm.2.2 _ _ h3
  have hi : (U.vm.classes.findIdx? fun (x : Class) => match x.kind with | .array component _ => component == comp | _ => false) = some c := by
    have e1 := va_idx_bare U.vm comp
    have e2 := va_idx_bare u.vm comp
    first | rw [hvm.bare_eq] at e1 | rw [← hvm.bare_eq] at e1
    exact e1.symm.trans (e2.trans h2)
  have hkind : k'.kind = .array comp (.array ty) := by rw [he]; exact h4
  have f1 : U.vm.findClass (FieldType.array ty).toString = some comp := by rw [hvm.findClass]; exact h1
  have f2 : U.vm.findClass ("[" ++ (FieldType.array ty).toString) = some c := by rw [hvm.findClass]; exact h5
  unfold va_AOA Cond.before Cond.holds
  simp only [Cond.value]
  rw [f1, Option.bind_some]
  refine (congrArg (fun o : Option Nat => (o.bind (fun c => (U.vm.classes[c]?).map fun (k : Class) => match k.kind with | .array _ t => decide (t = FieldType.array ty) && decide (U.vm.findClass ("[" ++ (FieldType.array ty).toString) = some c) | _ => false) == some true)) hi).trans ?_
  simp [hk', hkind, f2]
def k_ex (U : State) : Prop := va_AO "RootedClasses$Setting" U ∧ va_AOA .int U
theorem k_ex.moved {u U : State} (hvm : u.vm.Alike U.vm) (h : k_ex u) : k_ex U := ⟨h.1.moved hvm, h.2.moved hvm⟩
def k_PC (D : va_G) (cI cS cM : ClassId) (as : List Nat) (es : List va_E) (sz : Nat) (av : List Value) : Array Value → State → Prop := fun v U => k_P D cI cS cM as es sz av v U ∧ k_ex U
/-- a constructor's contract -/
def k_metC (l : Launch) (D : va_G) (cI cS cM : ClassId) (y : MethodName) (cc : ByteArray) (nL : Nat) (fr mc ms : Nat) (ka : List KV) (kh kh' : KH) : Prop :=
  ∀ (as : List Nat) (es : List va_E) (av : List Value) (sz : Nat), k_h cI cS cM as kh es → k_vs as ka av → Met l y (.code y cc nL none :: k_tbl) (k_rm fr mc ms) (k_PC D cI cS cM as es sz av) (k_Q D cI cS cM as [] kh' (va_A (kz as es) sz)) mc ms (va_A (kz as es) sz)
def KJC (l : Launch) (D : va_G) (cI cS cM : ClassId) (own : String) (cc : ByteArray) (nL : Nat) (R : Room) (mc ms : Nat) (kh' : KH) (pc : Nat) (kls kst : List KV) (kh : KH) (cells slots : Nat) : Prop :=
  ∀ (p : Program) (e : Env) (s : State) (m : MethodId) (args : Array Value) (below : List Frame) (meth : Method) (c : Code) (A : Nat → Prop) (as0 as : List Nat) (es : List va_E) (H : Heap) (locs : List Loc) (ls : Array Slot) (st : List Value), k_ctx D cI cS cM own "<init>" cc nL none p s m args meth c → k_ex s → (∀ q, s.heap.size ≤ q → A q) → as0 <+: as → k_h cI cS cM as kh es → va_P D vwCl (kz as es) H → va_D A (kz as es) → va_S A s.heap H locs → k_ls false as nL kls ls → k_vs as kst st →
    W p l e R s m args below meth c H locs cells slots (MQ below (k_Q D cI cS cM as0 [] kh' A) args s mc ms A) (F0 m pc ls st)
theorem kz_push {as : List Nat} {es : List va_E} (h : as.length = es.length) (a : Nat) (e : va_E) : kz (as ++ [a]) (es ++ [e]) = kz as es ++ [(a, e)] := by
  unfold kz
  rw [List.zip_append h]
  rfl
theorem kh_push {cI cS cM : ClassId} {as : List Nat} {kh : KH} {es : List va_E} (h : k_h cI cS cM as kh es) {a : Nat} {c : KCell} {e : va_E} (hc : k_c cI cS cM (as ++ [a]) c e) : k_h cI cS cM (as ++ [a]) (kh ++ [c]) (es ++ [e]) := by
  obtain ⟨h1, h2, h3⟩ := h
  refine ⟨by simp [h1], by simp [h2], fun p c' e' hp he => ?_⟩
  by_cases hl : p < kh.length
  · rw [List.getElem?_append_left hl] at hp
    rw [List.getElem?_append_left (by omega)] at he
    exact (h3 p c' e' hp he).more (List.prefix_append _ _)
  · rw [List.getElem?_append_right (by omega)] at hp
    rw [List.getElem?_append_right (by omega)] at he
    have hz : p - kh.length < 1 := (List.getElem?_eq_some_iff.mp hp).1
    rw [show p - kh.length = 0 by omega] at hp
    rw [show p - es.length = 0 by omega] at he
    cases hp
    cases he
    exact hc
theorem kh_last {cI cS cM : ClassId} {as : List Nat} {kh : KH} {es : List va_E} (h : k_h cI cS cM as kh es) (a : Nat) : k_v (as ++ [a]) (k_r (kh.length + 1)) (.ref a) := ⟨a, by rw [← h.1, List.getElem?_append_right (Nat.le_refl _), Nat.sub_self]; rfl, rfl⟩
/-- what a field of a type holds at first -/
def k_dv (t : FieldType) : KV := match t with
  | .int => k_i 0
  | .boolean => k_i 0
  | .long => k_l 0
  | _ => k_r 0
def k_dok (t : FieldType) : Bool := match t with
  | .int => true
  | .boolean => true
  | .long => true
  | .object _ => true
  | .array _ => true
  | _ => false
theorem k_dv_ok {t : FieldType} (h : k_dok t = true) (as : List Nat) : k_v as (k_dv t) (defaultValue t) := by
  cases t <;> first | (cases h; done) | exact ⟨by decide, rfl⟩ | rfl
section KJC
variable {l : Launch} {D : va_G} {cI cS cM : ClassId} {own : String} {cc : ByteArray} {nL : Nat} {R : Room} {mc ms : Nat} {kh' : KH} {pc : Nat} {kls kst : List KV} {kh : KH} {cells slots : Nat}
theorem c_aload0 {n : Nat} (hd : decode cc pc = .ok (.aload_n 0, 1)) (hk : kget k_u kls 0 = k_r (n + 1)) (K : KJC l D cI cS cM own cc nL R mc ms kh' (pc + 1) kls (k_r (n + 1) :: kst) kh cells slots) : KJC l D cI cS cM own cc nL R mc ms kh' pc kls kst kh cells slots := by
  intro p e s m args below meth c A as0 as es H locs ls st C hx hA hp hh hP hD hS hL hst
  obtain ⟨v, hv, hv2⟩ := hL.at hk (by simp)
  obtain ⟨a, h1, rfl⟩ := id hv2
  exact lv_aload_n C.1 C.2.1 hd rfl hv (K p e s m args below meth c A as0 as es H locs ls _ C hx hA hp hh hP hD hS hL ⟨hv2, hst⟩)
theorem c_push1 {z : Int} {n : Nat} (hd : decode cc pc = .ok (.iconst z, 1)) (hv : Int32.ofInt z = nI n) (hn : n < 4294967296) (K : KJC l D cI cS cM own cc nL R mc ms kh' (pc + 1) kls (k_i n :: kst) kh cells slots) : KJC l D cI cS cM own cc nL R mc ms kh' pc kls kst kh cells slots := by
  intro p e s m args below meth c A as0 as es H locs ls st C hx hA hp hh hP hD hS hL hst
  exact lv_iconst C.1 C.2.1 hd hv (K p e s m args below meth c A as0 as es H locs ls _ C hx hA hp hh hP hD hS hL ⟨⟨hn, rfl⟩, hst⟩)
theorem c_push2 {z : Int} {n : Nat} (hd : decode cc pc = .ok (.bipush z, 2)) (hv : (Int8.ofInt z).toInt32 = nI n) (hn : n < 4294967296) (K : KJC l D cI cS cM own cc nL R mc ms kh' (pc + 2) kls (k_i n :: kst) kh cells slots) : KJC l D cI cS cM own cc nL R mc ms kh' pc kls kst kh cells slots := by
  intro p e s m args below meth c A as0 as es H locs ls st C hx hA hp hh hP hD hS hL hst
  exact lv_bipush C.1 C.2.1 hd hv (K p e s m args below meth c A as0 as es H locs ls _ C hx hA hp hh hP hD hS hL ⟨⟨hn, rfl⟩, hst⟩)
theorem c_push3 {z : Int} {n : Nat} (hd : decode cc pc = .ok (.sipush z, 3)) (hv : (Int16.ofInt z).toInt32 = nI n) (hn : n < 4294967296) (K : KJC l D cI cS cM own cc nL R mc ms kh' (pc + 3) kls (k_i n :: kst) kh cells slots) : KJC l D cI cS cM own cc nL R mc ms kh' pc kls kst kh cells slots := by
  intro p e s m args below meth c A as0 as es H locs ls st C hx hA hp hh hP hD hS hL hst
  exact lv_sipush C.1 C.2.1 hd hv (K p e s m args below meth c A as0 as es H locs ls _ C hx hA hp hh hP hD hS hL ⟨⟨hn, rfl⟩, hst⟩)
theorem c_dup {n : Nat} (hd : decode cc pc = .ok (.dup, 1)) (K : KJC l D cI cS cM own cc nL R mc ms kh' (pc + 1) kls (k_r n :: k_r n :: kst) kh cells slots) : KJC l D cI cS cM own cc nL R mc ms kh' pc kls (k_r n :: kst) kh cells slots := by
  intro p e s m args below meth c A as0 as es H locs ls st C hx hA hp hh hP hD hS hL hst
  obtain ⟨v, st, rfl, hv, hst1⟩ := k_vs_cons hst
  exact lv_dup C.1 C.2.1 hd (k_cat hv (by simp) (by simp)) (K p e s m args below meth c A as0 as es H locs ls _ C hx hA hp hh hP hD hS hL ⟨hv, hv, hst1⟩)
theorem c_objInit {n idx : Nat} (hd : decode cc pc = .ok (.invokespecial idx, 3)) (hlk : Cond.methodLink own idx objectInit ∈ k_tbl) (hin : Cond.instanceMethod objectInit ∈ k_tbl) (hco : Cond.code objectInit ⟨#[0xb1]⟩ 1 none ∈ k_tbl) (hf : 1 ≤ R.frames) (hlo : 28 ≤ R.locals) (hds : kst.length ≤ 4) (K : KJC l D cI cS cM own cc nL R mc ms kh' (pc + 3) kls kst kh cells slots) : KJC l D cI cS cM own cc nL R mc ms kh' pc kls (k_r (n + 1) :: kst) kh cells slots := by
  intro p e s m args below meth c A as0 as es H locs ls st C hx hA hp hh hP hD hS hL hst
  obtain ⟨v, st, rfl, ⟨a, ha, rfl⟩, hst1⟩ := k_vs_cons hst
  obtain ⟨c1, c2, c3, c4, c5, c6⟩ := id C
  have hs := k_sum4 (st := st)
  have hl := k_vs_len hst1
  have hm : 2 * (F0 m pc ls (Value.ref a :: st)).monitorRoom + (st.map fun v => v.category).sum ≤ 8 := lv_room (Nat.le_trans hs (by omega))
  refine W.objInit c1 c2 c4 (c5 _ hlk) (c5 _ hin) (c5 _ hco) rfl (hL.size.trans c3.symm) rfl hd hf (by omega) ?_
  exact K p e s m args below meth c A as0 as es H locs ls st C hx hA hp hh hP hD hS hL hst1
theorem c_new {idx ci N : Nat} {Cn : String} {Tf : u_T} {tyf : Nat → FieldType} (hd : decode cc pc = .ok (.new idx, 3)) (hc : vwCl[ci]? = some (Cn, Tf, N)) (hin : ∀ w ∈ u_ws Cn Tf N, w ∈ k_tbl) (hty : ∀ k, k < N → parseFieldDescriptor (Tf k).2.2.1 = some (tyf k)) (hcl : Cond.classLink own idx Cn ∈ k_tbl) (hinst : Cond.instantiable Cn N ∈ k_tbl) (hini : Cond.initialized Cn ∈ k_tbl) (hok : ∀ k, k < N → k_dok (tyf k) = true) (h1 : cells + 1 ≤ R.cells) (h2 : slots + N ≤ R.slots)
    (K : KJC l D cI cS cM own cc nL R mc ms kh' (pc + 3) kls (k_r (kh.length + 1) :: kst) (kh ++ [k_ob ci ((List.range N).map fun k => k_dv (tyf k))]) (cells + 1) (slots + N)) : KJC l D cI cS cM own cc nL R mc ms kh' pc kls kst kh cells slots := by
  intro p e s m args below meth c A as0 as es H locs ls st C hx hA hp hh hP hD hS hL hst
  obtain ⟨c1, c2, c3, c4, c5, c6, c7, c8, c9, c10⟩ := id C
  refine va_new (ci := ci) (fs := (List.range N).map fun k => defaultValue (tyf k)) (C := Cn) (T := Tf) (N := N) c1 c2 c5 hin tyf hty c4 (c5 _ hcl) (c5 _ hinst) (c5 _ hini) c9 hP hD hS hA hc (fun j hj => by simp [vp_V, hj]) h1 h2 hd (fun q H1 hP1 hD1 hS1 => ?_)
  have hle : as.length = es.length := by rw [hh.1, hh.2.1]
  rw [← kz_push hle] at hP1 hD1
  refine K p e s m args below meth c A as0 (as ++ [q]) _ H1 locs ls _ C hx hA (hp.trans (List.prefix_append _ _)) (kh_push hh ?_) hP1 hD1 hS1 (hL.more (List.prefix_append _ _)) ⟨kh_last hh q, hst.more (List.prefix_append _ _)⟩
  refine ⟨⟨(Cn, Tf, N), hc, by simp⟩, _, rfl, by simp, fun i kv hi => ?_⟩
  have hi : ((List.range N).map fun k => k_dv (tyf k))[i]? = some kv := hi
  have hlt : i < N := by
    have := (List.getElem?_eq_some_iff.mp hi).1
    simpa using this
  rw [List.getElem?_map, List.getElem?_range hlt] at hi
  cases hi
  exact ⟨_, by rw [List.getElem?_map, List.getElem?_range hlt]; rfl, k_dv_ok (hok i hlt) _⟩
theorem c_newa {n : Nat} (hd : decode cc pc = .ok (.newarray .int, 2)) (harr : Cond.arrayClass .int ∈ k_tbl) (hn : n ≤ 100000) (h1 : cells + 1 ≤ R.cells) (h2 : slots + n ≤ R.slots)
    (K : KJC l D cI cS cM own cc nL R mc ms kh' (pc + 2) kls (k_r (kh.length + 1) :: kst) (kh ++ [k_ar n (List.replicate n 1)]) (cells + 1) (slots + n)) : KJC l D cI cS cM own cc nL R mc ms kh' pc kls (k_i n :: kst) kh cells slots := by
  intro p e s m args below meth c A as0 as es H locs ls st C hx hA hp hh hP hD hS hL hst
  obtain ⟨v, st, rfl, ⟨-, rfl⟩, hst1⟩ := k_vs_cons hst
  obtain ⟨c1, c2, c3, c4, c5, c6, c7, c8, c9, c10⟩ := id C
  refine va_newa (atype := .int) (ty := .int) (a0 := (n, .inl (fun _ => 0))) (N' := n) c1 c2 (c5 _ harr) rfl c9 hP hD hS hA (fun cA => by rw [vp_cell_i]; rfl) (by rw [kn_lt0 (by omega)]; omega) (kn_cl (by omega)) (by show n * 4 ≤ _; omega) h1 h2 hd (fun q cA H1 hK1 hP1 hD1 hS1 => ?_)
  have hle : as.length = es.length := by rw [hh.1, hh.2.1]
  have e1 : cA = cI := by
    have a1 : s.vm.findClass ("[" ++ FieldType.int.toString) = some cA := (hK1.2 3 _ rfl).2
    have a2 : s.vm.findClass ("[" ++ FieldType.int.toString) = some cI := (c9.2 0 _ rfl).2
    exact Option.some.inj (a1.symm.trans a2)
  subst e1
  rw [← kz_push hle] at hP1 hD1
  refine K p e s m args below meth c A as0 (as ++ [q]) _ H1 locs ls _ C hx hA (hp.trans (List.prefix_append _ _)) (kh_push hh ?_) hP1 hD1 hS1 (hL.more (List.prefix_append _ _)) ⟨kh_last hh q, hst1.more (List.prefix_append _ _)⟩
  refine ⟨by simp, by show n < _; omega, _, rfl, fun i m hi => ?_⟩
  have hi : (List.replicate n 1)[i]? = some (m + 1) := hi
  have := (List.getElem?_eq_some_iff.mp hi).2
  simp at this
  subst this
  exact ⟨by decide, rfl⟩
theorem c_anew {n idx : Nat} (hd : decode cc pc = .ok (.anewarray idx, 3)) (hcl : Cond.classLink own idx "RootedClasses$Setting" ∈ k_tbl) (hn : n ≤ 100000) (h1 : cells + 1 ≤ R.cells) (h2 : slots + n ≤ R.slots)
    (K : KJC l D cI cS cM own cc nL R mc ms kh' (pc + 3) kls (k_r (kh.length + 1) :: kst) (kh ++ [k_rf 0 n (List.replicate n 1)]) (cells + 1) (slots + n)) : KJC l D cI cS cM own cc nL R mc ms kh' pc kls (k_i n :: kst) kh cells slots := by
  intro p e s m args below meth c A as0 as es H locs ls st C hx hA hp hh hP hD hS hL hst
  obtain ⟨v, st, rfl, ⟨-, rfl⟩, hst1⟩ := k_vs_cons hst
  obtain ⟨c1, c2, c3, c4, c5, c6, c7, c8, c9, c10⟩ := id C
  refine va_newq (C := "RootedClasses$Setting") (N' := n) c1 c2 c4 (c5 _ hcl) hx.1 c9 hP hD hS hA (by rw [kn_lt0 (by omega)]; omega) (kn_cl (by omega)) (by omega) h1 h2 hd (fun q cA H1 hK1 hP1 hD1 hS1 => ?_)
  have hle : as.length = es.length := by rw [hh.1, hh.2.1]
  have e1 : cA = cS := by
    obtain ⟨_, _, -, -, -, a1⟩ := (hK1.2 3 _ rfl).2
    obtain ⟨_, _, -, -, -, a2⟩ := (c9.2 1 _ rfl).2
    exact Option.some.inj (a1.symm.trans a2)
  subst e1
  rw [← kz_push hle] at hP1 hD1
  refine K p e s m args below meth c A as0 (as ++ [q]) _ H1 locs ls _ C hx hA (hp.trans (List.prefix_append _ _)) (kh_push hh ?_) hP1 hD1 hS1 (hL.more (List.prefix_append _ _)) ⟨kh_last hh q, hst1.more (List.prefix_append _ _)⟩
  refine ⟨by simp, by show n < _; omega, _, rfl, fun i m hi => ?_⟩
  have hi : (List.replicate n 1)[i]? = some (m + 1) := hi
  have := (List.getElem?_eq_some_iff.mp hi).2
  simp at this
  subst this
  rfl
theorem c_return (hd : decode cc pc = .ok (.return_, 1)) (h1 : cells ≤ mc) (h2 : slots ≤ ms) (he : kh = kh') : KJC l D cI cS cM own cc nL R mc ms kh' pc kls [] kh cells slots := by
  intro p e s m args below meth c A as0 as es H locs ls st C hx hA hp hh hP hD hS hL hst
  have hs0 : st = [] := by cases st with | nil => rfl | cons a b => exact hst.elim
  subst hs0
  subst he
  obtain ⟨c1, c2, c3, c4, c5, c6, c7, c8, c9, c10⟩ := C
  refine W.widen (k := mc) (n := ms) h1 h2 ?_
  exact W.vret c1 c2 c6 (fun t ht hW => ⟨⟨_, rfl, as, es, trivial, hp, hh, by rw [ht]; exact hP, va_K.moved hW.alike c9, c10.moved hW, hD⟩, hS.F ht⟩) hS.2.2 hd c7
end KJC
