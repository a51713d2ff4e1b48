/-! ===== K beside the machine: values, cells, heaps, locals ===== -/
def k_tbl : List Cond := lw_tbl.filter goodWord
theorem k_tbl_in {w : Cond} (h : w ∈ lw_tbl) (hg : goodWord w = true) : w ∈ k_tbl := List.mem_filter.mpr ⟨h, hg⟩
theorem k_tbl_good (ws : List Cond) (h : ∀ w ∈ ws, w ∈ k_tbl) (big : List Cond) (hb : ∀ w ∈ k_tbl, w ∈ big) : GoodIn big ws := fun w hw => ⟨hb w (h w hw), good_of_word (List.mem_filter.mp (h w hw)).2⟩
abbrev k_ty (cI cS cM : ClassId) : List (ClassId × FieldType) := [(cI, .int), (cS, .object "RootedClasses$Setting"), (cM, .array .int)]
/-- the calls of private methods among nest mates -/
def k_nl : List (String × Nat × MethodName) := [(RX5, 26, yX8_isBelow), (RX0, 77, yX8_isBelow), (RX4, 43, yX8_isBelow), (RX8, 9, yX5_init), (RX1, 21, yX5_init), (RX8, 28, yX4_init), (RX8, 35, yX3_init), (RX3, 11, yX6_init), (RX6, 11, yX0_init), (RX3, 20, yX2_init), (RX3, 46, yX7_init)]
/-- int[][] is an array of int[]; the nest mates' calls -/
def k_mk (cI cM : ClassId) (U : State) : Prop := (∃ kA kI : Class, U.vm.classes[cM]? = some kA ∧ kA.kind = .array cI (.array .int) ∧ U.vm.classes[cI]? = some kI) ∧ ∀ q ∈ k_nl, va_Nw (.methodLinkNest q.1 q.2.1 q.2.2 "RootedClasses") U
theorem k_mk.moved {cI cM : ClassId} {u U : State} (hW : u.WarmedH U.vm) (h : k_mk cI cM u) : k_mk cI cM U := by
  obtain ⟨⟨kA, kI, h1, h2, h3⟩, hn⟩ := h
  obtain ⟨k', hk', he⟩ := hW.alike.2.2 _ _ h1
  obtain ⟨k'', hk'', he'⟩ := hW.alike.2.2 _ _ h3
  exact ⟨⟨k', k'', hk', by rw [he]; exact h2, hk''⟩, fun q hq => va_Nw.warmM hW (hn q hq)⟩
theorem k_mk.same {cI cM : ClassId} {u U : State} (hv : u.vm = U.vm) (h : k_mk cI cM u) : k_mk cI cM U := by
  obtain ⟨h1, hn⟩ := h
  rw [hv] at h1
  exact ⟨h1, fun q hq => va_Nw.same rfl hv (hn q hq)⟩
def k_v (as : List Nat) : KV → Value → Prop := fun kv v => match kv with
  | .inl n => n < 4294967296 ∧ v = .int (nI n)
  | .inr (.inl 0) => v = .null
  | .inr (.inl (k + 1)) => ∃ a, as[k]? = some a ∧ v = .ref a
  | .inr (.inr (.inl n)) => n < 18446744073709551616 ∧ v = .long (lN n)
  | .inr (.inr (.inr _)) => True
def k_vs (as : List Nat) : List KV → List Value → Prop
  | [], [] => True
  | a :: l, v :: m => k_v as a v ∧ k_vs as l m
  | [], _ :: _ => False
  | _ :: _, [] => False
def k_c (cI cS cM : ClassId) (as : List Nat) : KCell → va_E → Prop := fun c e => match c with
  | .inl o => (∃ q : vw_C, vwCl[o.1]? = some q ∧ q.2.2 = o.2.length) ∧ ∃ vs : List Value, e = .inr (o.1, vs) ∧ vs.length = o.2.length ∧ ∀ (i : Nat) (kv : KV), o.2[i]? = some kv → ∃ v, vs[i]? = some v ∧ k_v as kv v
  | .inr (.inl x) => x.2.length = x.1 ∧ x.1 < 2147483648 ∧ ∃ f : Nat → Int32, e = .inl (cI, x.1, .inl f) ∧ ∀ i n : Nat, x.2[i]? = some (n + 1) → n < 4294967296 ∧ f i = nI n
  | .inr (.inr (.inl x)) => x.1 < 2147483648 ∧ ∃ f : Nat → Int32, e = .inl (cI, x.1, .inl f) ∧ ∀ i n : Nat, i < x.1 → x.2 i = n + 1 → n < 4294967296 ∧ f i = nI n
  | .inr (.inr (.inr x)) => x.2.2.length = x.2.1 ∧ x.2.1 < 2147483648 ∧ ∃ f : Nat → Option Nat, e = .inl ((if x.1 = 0 then cS else cM), x.2.1, .inr (.inr (.inr (.inr f)))) ∧ ∀ i n : Nat, x.2.2[i]? = some (n + 1) → k_v as (k_r n) (va_rf (f i))
def k_h (cI cS cM : ClassId) (as : List Nat) (kh : KH) (es : List va_E) : Prop := as.length = kh.length ∧ es.length = kh.length ∧ ∀ (p : Nat) (c : KCell) (e : va_E), kh[p]? = some c → es[p]? = some e → k_c cI cS cM as c e
def kz (as : List Nat) (es : List va_E) : va_W := as.zip es
theorem kz_get {as : List Nat} {es : List va_E} {p a : Nat} {e : va_E} (h1 : as[p]? = some a) (h2 : es[p]? = some e) : (kz as es)[p]? = some (a, e) := by
  unfold kz
  rw [List.getElem?_zip_eq_some]
  exact ⟨h1, h2⟩
theorem kz_set {as : List Nat} {es : List va_E} {p a : Nat} {e : va_E} (h1 : as[p]? = some a) : (kz as es).set p (a, e) = kz as (es.set p e) := by
  unfold kz
  apply List.ext_getElem?
  intro i
  by_cases h : i = p
  · subst h
    rw [List.getElem?_set]
    by_cases hl : i < es.length
    · have hz : i < (as.zip es).length := by
        rw [List.length_zip]
        have := (List.getElem?_eq_some_iff.mp h1).1
        omega
      simp only [hz, if_true]
      symm
      rw [List.getElem?_zip_eq_some]
      exact ⟨h1, by rw [List.getElem?_set_self hl]⟩
    · have hz : ¬ i < (as.zip es).length := by
        rw [List.length_zip]
        omega
      simp only [hz, if_true, if_false]
      symm
      apply List.getElem?_eq_none
      rw [List.length_zip, List.length_set]
      omega
  · rw [List.getElem?_set_ne (Ne.symm h)]
    refine Option.ext fun q => ?_
    rw [List.getElem?_zip_eq_some, List.getElem?_zip_eq_some, List.getElem?_set_ne (Ne.symm h)]
/-- the places grow only at the end -/
theorem k_v.more {as as' : List Nat} (h : as <+: as') {kv : KV} {v : Value} (hv : k_v as kv v) : k_v as' kv v := by
  rcases kv with n | n | n | n
  · exact hv
  · cases n with
    | zero => exact hv
    | succ k =>
      obtain ⟨a, h1, h2⟩ := hv
      obtain ⟨t, rfl⟩ := h
      exact ⟨a, by rw [List.getElem?_append_left (List.getElem?_eq_some_iff.mp h1).1]; exact h1, h2⟩
  · exact hv
  · exact hv
theorem k_vs.more {as as' : List Nat} (h : as <+: as') : ∀ {kvs : List KV} {vs : List Value}, k_vs as kvs vs → k_vs as' kvs vs
  | [], [], hv => hv
  | [], _ :: _, hv => hv.elim
  | _ :: _, [], hv => hv.elim
  | _ :: _, _ :: _, hv => ⟨hv.1.more h, k_vs.more h hv.2⟩
theorem k_vs_len {as : List Nat} : ∀ {kvs : List KV} {vs : List Value}, k_vs as kvs vs → vs.length = kvs.length
  | [], [], _ => rfl
  | [], _ :: _, hv => hv.elim
  | _ :: _, [], hv => hv.elim
  | _ :: _, _ :: _, hv => by simp [k_vs_len hv.2]
theorem k_vs_cons {as : List Nat} {a : KV} {l : List KV} {st : List Value} (h : k_vs as (a :: l) st) : ∃ v m, st = v :: m ∧ k_v as a v ∧ k_vs as l m := by
  cases st with
  | nil => exact h.elim
  | cons v m => exact ⟨v, m, rfl, h.1, h.2⟩
theorem k_c.more {cI cS cM : ClassId} {as as' : List Nat} (h : as <+: as') {c : KCell} {e : va_E} (hc : k_c cI cS cM as c e) : k_c cI cS cM as' c e := by
  rcases c with o | x | x | x
  · obtain ⟨hq, vs, h1, h2, h3⟩ := hc
    exact ⟨hq, vs, h1, h2, fun i kv hi => by obtain ⟨v, h4, h5⟩ := h3 i kv hi; exact ⟨v, h4, h5.more h⟩⟩
  · exact hc
  · exact hc
  · obtain ⟨h1, h2, f, h3, h4⟩ := hc
    exact ⟨h1, h2, f, h3, fun i n hi => (h4 i n hi).more h⟩
/-- the locals -/
def k_ls (lg : Bool) (as : List Nat) (nL : Nat) (kls : List KV) (ls : Array Slot) : Prop := ∃ lv : List (Nat × Value), lv_has ls nL lv ∧ (∀ (i : Nat) (kv : KV), kls[i]? = some kv → kv = k_u ∨ ∃ v, (i, v) ∈ lv ∧ k_v as kv v) ∧ (lg = false → ∀ i n : Nat, kls[i]? ≠ some (k_l n))
theorem k_ls.more {lg : Bool} {as as' : List Nat} {nL : Nat} {kls : List KV} {ls : Array Slot} (h : as <+: as') (hl : k_ls lg as nL kls ls) : k_ls lg as' nL kls ls := by
  obtain ⟨lv, h1, h2, h3⟩ := hl
  exact ⟨lv, h1, fun i kv hi => (h2 i kv hi).imp id (fun ⟨v, q1, q2⟩ => ⟨v, q1, q2.more h⟩), h3⟩
theorem k_ls.at {lg : Bool} {as : List Nat} {nL : Nat} {kls : List KV} {ls : Array Slot} (hl : k_ls lg as nL kls ls) {i : Nat} {kv : KV} (h : kget k_u kls i = kv) (hu : kv ≠ k_u) : ∃ v, ls[i]? = some (.val v) ∧ k_v as kv v := by
  obtain ⟨lv, h1, h2, -⟩ := hl
  rcases h2 i kv (kget_some h hu) with q | ⟨v, q1, q2⟩
  · exact absurd q hu
  · exact ⟨v, h1.2.2 _ q1, q2⟩
theorem k_ls.size {lg : Bool} {as : List Nat} {nL : Nat} {kls : List KV} {ls : Array Slot} (hl : k_ls lg as nL kls ls) : ls.size = nL := by
  obtain ⟨lv, h1, -⟩ := hl
  exact h1.1
theorem k_cat {as : List Nat} {kv : KV} {v : Value} (h : k_v as kv v) (hu : kv ≠ k_u) (hn : ∀ n, kv ≠ k_l n) : v.category = 1 := by
  rcases kv with n | n | n | n
  · rw [h.2]; rfl
  · cases n with
    | zero => rw [show v = .null from h]; rfl
    | succ k => obtain ⟨a, -, rfl⟩ := h; rfl
  · exact absurd rfl (hn n)
  · exact absurd rfl hu
/-- a store of one word, in a method without longs -/
theorem k_ls.put {as : List Nat} {nL : Nat} {kls : List KV} {ls' : Array Slot} {lv : List (Nat × Value)} {i : Nat} {kv : KV} {v : Value} (h2 : ∀ (i : Nat) (kv : KV), kls[i]? = some kv → kv = k_u ∨ ∃ v, (i, v) ∈ lv ∧ k_v as kv v) (h3 : ∀ i n : Nat, kls[i]? ≠ some (k_l n)) (hv : k_v as kv v) (hn : ∀ n, kv ≠ k_l n) (h' : lv_has ls' nL ((i, v) :: lv.filter (fun q => !(q.1 == i) && !(q.1 + 1 == i && q.2.category == 2)))) : k_ls false as nL (kset kls i kv) ls' := by
  refine ⟨_, h', fun j w hj => ?_, fun _ j n hj => ?_⟩
  · rw [kset_eq] at hj
    by_cases hji : j = i
    · subst hji
      by_cases hl : j < kls.length
      · rw [List.getElem?_set_self hl] at hj
        cases hj
        exact Or.inr ⟨v, List.mem_cons_self, hv⟩
      · rw [List.getElem?_eq_none (by rw [List.length_set]; omega)] at hj
        cases hj
    · rw [List.getElem?_set_ne (Ne.symm hji)] at hj
      rcases h2 j w hj with q | ⟨u, q1, q2⟩
      · exact Or.inl q
      · by_cases hw : w = k_u
        · exact Or.inl hw
        refine Or.inr ⟨u, List.mem_cons_of_mem _ (List.mem_filter.mpr ⟨q1, ?_⟩), q2⟩
        have hc := k_cat q2 hw (fun n e => h3 j n (by rw [hj, e]))
        simp [hji, hc]
  · rw [kset_eq] at hj
    by_cases hji : j = i
    · subst hji
      by_cases hl : j < kls.length
      · rw [List.getElem?_set_self hl] at hj
        cases hj
        exact hn n rfl
      · rw [List.getElem?_eq_none (by rw [List.length_set]; omega)] at hj
        cases hj
    · rw [List.getElem?_set_ne (Ne.symm hji)] at hj
      exact h3 j n hj
/-- the whole of what stands still while a method runs -/
def k_ctx (D : va_G) (cI cS cM : ClassId) (own mn : String) (cc : ByteArray) (nL : Nat) (ret : Option FieldType) (p : Program) (s : State) (m : MethodId) (args : Array Value) (meth : Method) (c : Code) : Prop :=
  p.tables.exec = Jvm.exec ∧ c.code = cc ∧ c.maxLocals = nL ∧ s.vm.findClass own = some m.cls ∧ (∀ w ∈ k_tbl, w.before args s = true) ∧ meth.sig.returnType = ret ∧ meth.locks = false ∧ meth.name = mn ∧ va_K D vwCl (k_ty cI cS cM) s ∧ k_mk cI cM s
/-- the world behind a method -/
def k_world (D : va_G) (cI cS cM : ClassId) (as0 : List Nat) (rv : List KV) (kh : KH) (A : Nat → Prop) (v : Option Value) (t : State) : Prop :=
  ∃ (as : List Nat) (es : List va_E), k_vs as rv v.toList ∧ as0 <+: as ∧ k_h cI cS cM as kh es ∧ va_P D vwCl (kz as es) t.heap ∧ va_K D vwCl (k_ty cI cS cM) t ∧ k_mk cI cM t ∧ va_D A (kz as es)
def k_Q (D : va_G) (cI cS cM : ClassId) (as0 : List Nat) (rv : List KV) (kh : KH) (A : Nat → Prop) : Array Value → State → Outcome → State → Prop := fun _ st oc t => (∃ v : Option Value, oc = .returned v ∧ k_world D cI cS cM as0 rv kh A v t) ∧ va_F A st t
def k_P (D : va_G) (cI cS cM : ClassId) (as : List Nat) (es : List va_E) (sz : Nat) (av : List Value) : Array Value → State → Prop := va_Pc av (fun U => U.heap.size = sz ∧ va_P D vwCl (kz as es) U.heap ∧ va_K D vwCl (k_ty cI cS cM) U ∧ k_mk cI cM U ∧ va_D (fun _ => True) (kz as es))
abbrev k_rm (fr : Nat) (mc ms : Nat) : Room := { frames := fr, cells := mc, slots := ms, locals := 30 * fr }
/-- a method's contract: these arguments, this heap, come to this answer, that heap -/
def k_met (l : Launch) (D : va_G) (cI cS cM : ClassId) (y : MethodName) (cc : ByteArray) (nL : Nat) (ret : Option FieldType) (fr mc ms : Nat) (ka : List KV) (kh : KH) (rv : List KV) (kh' : KH) : Prop :=
  ∀ (as : List Nat) (es : List va_E) (av : List Value) (sz : Nat), k_h cI cS cM as kh es → k_vs as ka av → Met l y (.code y cc nL ret :: k_tbl) (k_rm fr mc ms) (k_P D cI cS cM as es sz av) (k_Q D cI cS cM as rv kh' (va_A (kz as es) sz)) mc ms (va_A (kz as es) sz)
def KJ (l : Launch) (D : va_G) (cI cS cM : ClassId) (own mn : String) (cc : ByteArray) (nL : Nat) (ret : Option FieldType) (R : Room) (lg : Bool) (mc ms : Nat) (rv : List KV) (kh' : KH) (pc : Nat) (kls kst : List KV) (kh : KH) (cells slots : Nat) : Prop :=
  ∀ (p : Program) (e : Env) (s : State) (m : MethodId) (args : Array Value) (below : List Frame) (meth : Method) (c : Code) (A : Nat → Prop) (as0 as : List Nat) (es : List va_E) (H : Heap) (locs : List Loc) (ls : Array Slot) (st : List Value), k_ctx D cI cS cM own mn cc nL ret p s m args meth c → (∀ q, s.heap.size ≤ q → A q) → as0 <+: as → k_h cI cS cM as kh es → va_P D vwCl (kz as es) H → va_D A (kz as es) → va_S A s.heap H locs → k_ls lg as nL kls ls → k_vs as kst st →
    W p l e R s m args below meth c H locs cells slots (MQ below (k_Q D cI cS cM as0 rv kh' A) args s mc ms A) (F0 m pc ls st)
def KS (l : Launch) (D : va_G) (cI cS cM : ClassId) (own mn : String) (cc : ByteArray) (nL : Nat) (ret : Option FieldType) (R : Room) (lg : Bool) (pc d : Nat) (k : KC) : Prop :=
  ∀ (kls kst : List KV) (kh : KH) (rv : List KV) (kh' : KH), kst.length = d → k kls kst kh = some (rv, kh') → KJ l D cI cS cM own mn cc nL ret R lg 0 0 rv kh' pc kls kst kh 0 0
