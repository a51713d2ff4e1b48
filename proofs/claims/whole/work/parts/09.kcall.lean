/-! ===== calls, methods, loops ===== -/
theorem k_args_some : ∀ {n : Nat} {st acc : List KV} {k : List KV → List KV → KR} {r : List KV × KH}, k_args n st acc k = some r → ∃ xs rest, xs.length = n ∧ st = xs.reverse ++ rest ∧ k (xs ++ acc) rest = some r
  | 0, st, acc, k, r, h => ⟨[], st, rfl, rfl, h⟩
  | n + 1, st, acc, k, r, h => by
    obtain ⟨v, s, rfl, h1⟩ := k_top_some (k := fun v st => k_args n st (v :: acc) k) h
    obtain ⟨xs, rest, h2, rfl, h3⟩ := k_args_some h1
    exact ⟨xs ++ [v], rest, by simp [h2], by simp, by simpa using h3⟩
theorem k_res_some {r : KR} {k : List KV → KH → KR} {x : List KV × KH} (h : k_res r k = some x) : ∃ rv h', r = some (rv, h') ∧ k rv h' = some x := by
  cases r with
  | none => cases h
  | some y => exact ⟨y.1, y.2, rfl, h⟩
theorem k_app0_some {r : List KV} {k : KR} {x : List KV × KH} (h : k_app0 r k = some x) : r = [] ∧ k = some x := by
  cases r with
  | nil => exact ⟨rfl, h⟩
  | cons a b => cases h
theorem k_app1_some {r : List KV} {k : KV → KR} {x : List KV × KH} (h : k_app1 r k = some x) : ∃ v t, r = v :: t ∧ k v = some x := by
  cases r with
  | nil => cases h
  | cons a b => exact ⟨a, b, rfl, h⟩
theorem k_recv_some {c : Nat} {as : List KV} {h : KH} {k : KR} {x : List KV × KH} (hk : k_recv c as h k = some x) : (∃ q t fs, as = k_r (q + 1) :: t ∧ k_cell h q = k_ob c fs) ∧ k = some x := by
  obtain ⟨w, r, rfl, hk1⟩ := k_top_some hk
  obtain ⟨a, rfl, hk2⟩ := k_ref_some hk1
  obtain ⟨q, rfl, hk3⟩ := k_pl_some hk2
  obtain ⟨o, ho, hk4⟩ := k_obj_some hk3
  obtain ⟨hb, hk5⟩ := kb_some hk4
  have hoc : o.1 = c := Nat.eq_of_beq_eq_true hb
  subst hoc
  exact ⟨⟨q, r, o.2, rfl, ho⟩, hk5⟩
theorem k_vs_app {as : List Nat} : ∀ {a b : List KV} {vs : List Value}, k_vs as (a ++ b) vs → ∃ x y, vs = x ++ y ∧ k_vs as a x ∧ k_vs as b y
  | [], b, vs, h => ⟨[], vs, rfl, trivial, h⟩
  | a :: l, b, vs, h => by
    obtain ⟨v, m, rfl, h1, h2⟩ := k_vs_cons (l := l ++ b) h
    obtain ⟨x, y, rfl, h3, h4⟩ := k_vs_app h2
    exact ⟨v :: x, y, rfl, ⟨h1, h3⟩, h4⟩
theorem k_vs_join {as : List Nat} : ∀ {a b : List KV} {x y : List Value}, k_vs as a x → k_vs as b y → k_vs as (a ++ b) (x ++ y)
  | [], b, [], y, _, h => h
  | [], _, _ :: _, _, h, _ => h.elim
  | _ :: _, _, [], _, h, _ => h.elim
  | a :: l, b, v :: x, y, h, h2 => ⟨h.1, k_vs_join h.2 h2⟩
theorem k_vs_rev {as : List Nat} : ∀ {a : List KV} {x : List Value}, k_vs as a x → k_vs as a.reverse x.reverse
  | [], [], _ => trivial
  | [], _ :: _, h => h.elim
  | _ :: _, [], h => h.elim
  | a :: l, v :: x, h => by
    rw [List.reverse_cons, List.reverse_cons]
    exact k_vs_join (k_vs_rev h.2) ⟨h.1, trivial⟩
theorem k_cat2 (v : Value) : v.category ≤ 2 := by rcases lv_cat v with h | h <;> omega
theorem k_sum4 : ∀ {st : List Value}, (st.map fun v => v.category).sum ≤ 2 * st.length
  | [] => by simp
  | v :: l => by
    have := k_sum4 (st := l)
    have := k_cat2 v
    simp
    omega
theorem k_P_blind {D : va_G} {cI cS cM : ClassId} {as : List Nat} {es : List va_E} {sz : Nat} {av : List Value} : FrameBlind (k_P D cI cS cM as es sz av) := fun a U g mk q => by
  obtain ⟨q0, q1, qP, qK, qM, qD⟩ := q
  exact ⟨q0, q1, qP, va_K.moved (u := U) (U := U.calling g mk a) (Vm.Alike.refl U.vm) qK, k_mk.same (u := U) (U := U.calling g mk a) rfl qM, qD⟩
/-- the caller's part of the heap -/
theorem k_free {A : Nat → Prop} {ws : va_W} {H0 H : Heap} {locs : List Loc} (hD : va_D A ws) (hS : va_S A H0 H locs) (hA : ∀ q, H0.size ≤ q → A q) : ∀ q, va_A ws H.size q → A q := fun q h => by
  rcases h with ⟨k, e, h⟩ | h
  · exact hD.2 k _ h
  · exact hA q (Nat.le_trans hS.1 h)
section KO5
variable {l : Launch} {D : va_G} {cI cS cM : ClassId} {own mn : String} {cc : ByteArray} {nL : Nat} {ret : Option FieldType} {R : Room} {lg : Bool} {pc d : Nat} {k t : KC}
theorem k_call {p : Program} {e : Env} {s : State} {m : MethodId} {args a : Array Value} {below : List Frame} {meth : Method} {c : Code} {H : Heap} {locs : List Loc} {cells slots mc ms : Nat} {Q : State → Prop} {ls : Array Slot} {rest st0 : List Value} {as : List Nat} {rv : List KV} {kh' : KH} {A0 A1 : Nat → Prop} (hr : va_Run p l e R s m args below meth c H locs cells slots mc ms (F0 m pc ls st0) rest (k_Q D cI cS cM as rv kh' A1 a) A1) (hS : va_S A0 s.heap H locs) (hf : ∀ q, A1 q → A0 q)
    (kk : ∀ (v : Option Value) (as' : List Nat) (es' : List va_E) (H1 : Heap) (locs1 : List Loc), k_vs as' rv v.toList → as <+: as' → k_h cI cS cM as' kh' es' → va_P D vwCl (kz as' es') H1 → va_D A0 (kz as' es') → va_S A0 s.heap H1 locs1 → W p l e R s m args below meth c H1 locs1 (cells + mc) (slots + ms) Q (F0 m (pc + 3) ls (v.toList ++ rest))) : W p l e R s m args below meth c H locs cells slots Q (F0 m pc ls st0) := by
  intro T hT X
  obtain ⟨v, st₀, t, T', L, h0, X', hL, e1, e2, ⟨⟨v', hv, as', es', w1, w2, w3, w4, w5, w6, w7⟩, hz, hk⟩, st⟩ := hr T hT X
  cases hv
  rw [h0] at hz hk
  rw [← e1] at w4
  obtain ⟨t2, a1, b1⟩ := kk v as' es' T'.heap (locs ++ L) w1 w2 w3 w4 (w7.weaken (fun _ _ _ h => hf _ h))
    ⟨Nat.le_trans hS.1 (by rw [e1]; exact hz), fun q h1 h2 => by rw [e1, hk q (Nat.lt_of_lt_of_le h1 hS.1) (fun z => h2 (hf q z))]; exact hS.2.1 q h1 h2, fun q hq => by
      rcases List.mem_append.mp hq with h | h
      · exact hS.2.2 q h
      · exact hf _ (hL q h)⟩ T' rfl X'
  exact ⟨t2, st t2 a1, b1⟩
/-- what a function of K tells of a method -/
def k_snd (l : Launch) (D : va_G) (cI cS cM : ClassId) (y : MethodName) (cc : ByteArray) (nL : Nat) (ret : Option FieldType) (fr n : Nat) (F : KF) : Prop := ∀ (ka : List KV) (kh : KH) (rv : List KV) (kh' : KH), ka.length = n → F ka kh = some (rv, kh') → k_met l D cI cS cM y cc nL ret fr 0 0 ka kh rv kh'
/-- the tables' words for a callee -/
def k_ok (y : MethodName) (cb : ByteArray) (nb : Nat) (rb : Option FieldType) (n : Nat) : Prop := Cond.code y cb nb rb ∈ k_tbl ∧ Cond.initialized y.cls ∈ k_tbl ∧ (y.cls ≠ "java/lang/invoke/MethodHandle" ∧ y.cls ≠ "java/lang/invoke/VarHandle" ∧ (parseMethodDescriptor y.desc).map (fun d => d.parameters.length) = some n) ∧ plainFor y = true
theorem k_goodIn {y : MethodName} {cb : ByteArray} {nb : Nat} {rb : Option FieldType} (h : Cond.code y cb nb rb ∈ k_tbl) : GoodIn k_tbl (.code y cb nb rb :: k_tbl) := k_tbl_good _ (fun w hw => by
  rcases List.mem_cons.mp hw with rfl | hw
  · exact h
  · exact hw) _ (fun _ h => h)
theorem k_preS {s : State} {H : Heap} {as : List Nat} {es : List va_E} {av : List Value} (c9 : va_K D vwCl (k_ty cI cS cM) s) (c10 : k_mk cI cM s) (hP : va_P D vwCl (kz as es) H) {A : Nat → Prop} (hD : va_D A (kz as es)) : ∀ U : State, U.heap = H → s.WarmedH U.vm → k_P D cI cS cM as es H.size av av.toArray U := fun U hU hW => ⟨rfl, by rw [hU], by rw [hU]; exact hP, va_K.moved hW.alike c9, c10.moved hW, hD.weaken (fun _ _ _ _ => trivial)⟩
theorem s_runS {fr fb : Nat} {idx n : Nat} {y : MethodName} {cb : ByteArray} {nb : Nat} {rb : Option FieldType} {F : KF} (hd : decode cc pc = .ok (.invokestatic idx, 3)) (hlk : Cond.methodLink own idx y ∈ k_tbl) (hstt : Cond.static y ∈ k_tbl) (hok : k_ok y cb nb rb n) (hfr : fb + 1 ≤ fr) (hnb : nb ≤ 11) (hF : k_snd l D cI cS cM y cb nb rb fb n F)
    {p : Program} {e : Env} {s : State} {m : MethodId} {args : Array Value} {below : List Frame} {meth : Method} {c : Code} {H : Heap} {locs : List Loc} {A : Nat → Prop} {as : List Nat} {es : List va_E} {ls : Array Slot} {xs : List KV} {vx rest : List Value} {kls : List KV} {kh : KH} {rv : List KV} {kh' : KH} (C : k_ctx D cI cS cM own mn cc nL ret p s m args meth c) (hh : k_h cI cS cM as kh es) (hP : va_P D vwCl (kz as es) H) (hD : va_D A (kz as es)) (hL : k_ls lg as nL kls ls) (hx : xs.length = n) (hvx : k_vs as xs vx) (hrest : rest.length ≤ 4) (hk : F xs kh = some (rv, kh')) :
    va_Run p l e (k_rm fr 0 0) s m args below meth c H locs 0 0 0 0 (F0 m pc ls (vx.reverse ++ rest)) rest (k_Q D cI cS cM as rv kh' (va_A (kz as es) H.size) vx.toArray) (va_A (kz as es) H.size) := by
  obtain ⟨c1, c2, c3, c4, c5, c6, c7, c8, c9, c10⟩ := C
  obtain ⟨o1, o2, o3, o4⟩ := hok
  have hM := hF xs kh rv kh' hx hk as es vx H.size hh hvx
  exact va_runS ⟨c1, c2, c3, c4, c5⟩ hM ⟨callB_of n c5 (k_goodIn o1) rfl rfl rfl (c5 _ o2) (c5 _ hlk) o3 ⟨hfr, by show 8 + (nb + 11) + 30 * fb ≤ 30 * fr; omega⟩, c5 _ hstt⟩ ⟨k_P_blind, k_preS c9 c10 hP hD⟩ rfl (by rw [k_vs_len hvx]; exact hx) hL.size rfl (lv_room (Nat.le_trans k_sum4 (by omega))) hd ⟨Nat.le_refl _, Nat.le_refl _⟩
theorem s_runSN {fr fb : Nat} {idx n : Nat} {y : MethodName} {cb : ByteArray} {nb : Nat} {rb : Option FieldType} {F : KF} (hd : decode cc pc = .ok (.invokestatic idx, 3)) (hlk : (own, idx, y) ∈ k_nl) (hstt : Cond.static y ∈ k_tbl) (hok : k_ok y cb nb rb n) (hfr : fb + 1 ≤ fr) (hnb : nb ≤ 11) (hF : k_snd l D cI cS cM y cb nb rb fb n F)
    {p : Program} {e : Env} {s : State} {m : MethodId} {args : Array Value} {below : List Frame} {meth : Method} {c : Code} {H : Heap} {locs : List Loc} {A : Nat → Prop} {as : List Nat} {es : List va_E} {ls : Array Slot} {xs : List KV} {vx rest : List Value} {kls : List KV} {kh : KH} {rv : List KV} {kh' : KH} (C : k_ctx D cI cS cM own mn cc nL ret p s m args meth c) (hh : k_h cI cS cM as kh es) (hP : va_P D vwCl (kz as es) H) (hD : va_D A (kz as es)) (hL : k_ls lg as nL kls ls) (hx : xs.length = n) (hvx : k_vs as xs vx) (hrest : rest.length ≤ 4) (hk : F xs kh = some (rv, kh')) :
    va_Run p l e (k_rm fr 0 0) s m args below meth c H locs 0 0 0 0 (F0 m pc ls (vx.reverse ++ rest)) rest (k_Q D cI cS cM as rv kh' (va_A (kz as es) H.size) vx.toArray) (va_A (kz as es) H.size) := by
  obtain ⟨c1, c2, c3, c4, c5, c6, c7, c8, c9, c10⟩ := C
  obtain ⟨o1, o2, o3, o4⟩ := hok
  have hM := hF xs kh rv kh' hx hk as es vx H.size hh hvx
  exact va_runSN ⟨c1, c2, c3, c4, c5⟩ hM ⟨va_cnB n c5 (k_goodIn o1) rfl rfl rfl (c10.2 _ hlk) (c5 _ o2) o3 ⟨hfr, by show 8 + (nb + 11) + 30 * fb ≤ 30 * fr; omega⟩, c5 _ hstt, trivial⟩ ⟨k_P_blind, k_preS c9 c10 hP hD⟩ rfl (by rw [k_vs_len hvx]; exact hx) hL.size rfl (lv_room (Nat.le_trans k_sum4 (by omega))) hd ⟨Nat.le_refl _, Nat.le_refl _⟩
theorem s_runV {fr fb : Nat} {idx n ci : Nat} {y : MethodName} {qc : vw_C} {cb : ByteArray} {nb : Nat} {rb : Option FieldType} {F : KF} (hd : decode cc pc = .ok (.invokevirtual idx, 3)) (hlk : Cond.methodLink own idx y ∈ k_tbl) (hins : Cond.instanceMethod y ∈ k_tbl) (hsel : Cond.selects qc.1 y y ∈ k_tbl) (hc : vwCl[ci]? = some qc) (hok : k_ok y cb nb rb n) (hfr : fb + 1 ≤ fr) (hnb : nb ≤ 11) (hF : k_snd l D cI cS cM y cb nb rb fb (n + 1) F)
    {p : Program} {e : Env} {s : State} {m : MethodId} {args : Array Value} {below : List Frame} {meth : Method} {c : Code} {H : Heap} {locs : List Loc} {A : Nat → Prop} {as : List Nat} {es : List va_E} {ls : Array Slot} {q : Nat} {xs : List KV} {fs : List KV} {vx rest : List Value} {kls : List KV} {kh : KH} {rv : List KV} {kh' : KH} (C : k_ctx D cI cS cM own mn cc nL ret p s m args meth c) (hh : k_h cI cS cM as kh es) (hP : va_P D vwCl (kz as es) H) (hD : va_D A (kz as es)) (hL : k_ls lg as nL kls ls) (hx : (k_r (q + 1) :: xs).length = n + 1) (hvx : k_vs as (k_r (q + 1) :: xs) vx) (hq : k_cell kh q = k_ob ci fs) (hrest : rest.length ≤ 4) (hk : F (k_r (q + 1) :: xs) kh = some (rv, kh')) :
    va_Run p l e (k_rm fr 0 0) s m args below meth c H locs 0 0 0 0 (F0 m pc ls (vx.reverse ++ rest)) rest (k_Q D cI cS cM as rv kh' (va_A (kz as es) H.size) vx.toArray) (va_A (kz as es) H.size) := by
  obtain ⟨c1, c2, c3, c4, c5, c6, c7, c8, c9, c10⟩ := C
  obtain ⟨o1, o2, o3, o4⟩ := hok
  have hM := hF _ kh rv kh' hx hk as es vx H.size hh hvx
  obtain ⟨v, vx, rfl, ⟨a, ha, rfl⟩, hvx1⟩ := k_vs_cons hvx
  obtain ⟨a', ev, h1, h2, h3⟩ := kh_at hh (kh_in hh ha)
  cases ha.symm.trans h1
  rw [hq] at h3
  obtain ⟨-, vs, rfl, -, -⟩ := h3
  have hl : vx.length = n := by rw [k_vs_len hvx1]; simpa using hx
  have hW : 2 * (F0 m pc ls ((Value.ref a :: vx).reverse ++ rest)).monitorRoom + (rest.map fun v => v.category).sum ≤ 8 := lv_room (Nat.le_trans k_sum4 (by omega))
  exact va_runV (C := qc.1) (b := a) (As := vx) ⟨c1, c2, c3, c4, c5⟩ hM ⟨callB_of n c5 (k_goodIn o1) rfl rfl rfl (c5 _ o2) (c5 _ hlk) o3 ⟨hfr, by show 8 + (nb + 11) + 30 * fb ≤ 30 * fr; omega⟩, c5 _ hins, c5 _ hsel⟩ ⟨k_P_blind, va_recv c9 hP hc (kz_get ha h2), k_preS c9 c10 hP hD⟩ rfl hl hL.size (by simp) hW hd ⟨Nat.le_refl _, Nat.le_refl _⟩
/-- behind a call that answers nothing, one thing -/
theorem s_back0 {fr : Nat} (K : KS l D cI cS cM own mn cc nL ret (k_rm fr 0 0) lg (pc + 3) d k) {p : Program} {e : Env} {s : State} {m : MethodId} {args a : Array Value} {below : List Frame} {meth : Method} {c : Code} {H : Heap} {locs : List Loc} {A : Nat → Prop} {as0 as : List Nat} {es : List va_E} {ls : Array Slot} {st0 vr : List Value} {kls rest : List KV} {rv rw : List KV} {kh1 kh' : KH} (C : k_ctx D cI cS cM own mn cc nL ret p s m args meth c) (hA : ∀ q, s.heap.size ≤ q → A q) (hp : as0 <+: as) (hD : va_D A (kz as es)) (hS : va_S A s.heap H locs) (hL : k_ls lg as nL kls ls) (hvr : k_vs as rest vr) (hl : rest.length = d)
    (hr : va_Run p l e (k_rm fr 0 0) s m args below meth c H locs 0 0 0 0 (F0 m pc ls st0) vr (k_Q D cI cS cM as rv kh1 (va_A (kz as es) H.size) a) (va_A (kz as es) H.size)) (hk : k_app0 rv (k kls rest kh1) = some (rw, kh')) : W p l e (k_rm fr 0 0) s m args below meth c H locs 0 0 (MQ below (k_Q D cI cS cM as0 rw kh' A) args s 0 0 A) (F0 m pc ls st0) := by
  obtain ⟨rfl, hk1⟩ := k_app0_some hk
  refine k_call hr hS (k_free hD hS hA) fun v as' es' H1 locs1 w1 w2 w3 w4 w5 w6 => ?_
  have hv : v.toList = [] := by
    cases v with
    | none => rfl
    | some v => exact w1.elim
  rw [hv]
  exact K kls rest kh1 rw kh' hl hk1 p e s m args below meth c A as0 as' es' H1 locs1 ls vr C hA (hp.trans w2) w3 w4 w5 w6 (hL.more w2) (hvr.more w2)
theorem s_back1 {fr : Nat} (K : KS l D cI cS cM own mn cc nL ret (k_rm fr 0 0) lg (pc + 3) (d + 1) k) {p : Program} {e : Env} {s : State} {m : MethodId} {args a : Array Value} {below : List Frame} {meth : Method} {c : Code} {H : Heap} {locs : List Loc} {A : Nat → Prop} {as0 as : List Nat} {es : List va_E} {ls : Array Slot} {st0 vr : List Value} {kls rest : List KV} {rv rw : List KV} {kh1 kh' : KH} (C : k_ctx D cI cS cM own mn cc nL ret p s m args meth c) (hA : ∀ q, s.heap.size ≤ q → A q) (hp : as0 <+: as) (hD : va_D A (kz as es)) (hS : va_S A s.heap H locs) (hL : k_ls lg as nL kls ls) (hvr : k_vs as rest vr) (hl : rest.length = d)
    (hr : va_Run p l e (k_rm fr 0 0) s m args below meth c H locs 0 0 0 0 (F0 m pc ls st0) vr (k_Q D cI cS cM as rv kh1 (va_A (kz as es) H.size) a) (va_A (kz as es) H.size)) (hk : (k_app1 rv fun v => k kls (v :: rest) kh1) = some (rw, kh')) : W p l e (k_rm fr 0 0) s m args below meth c H locs 0 0 (MQ below (k_Q D cI cS cM as0 rw kh' A) args s 0 0 A) (F0 m pc ls st0) := by
  obtain ⟨kv, tl, rfl, hk1⟩ := k_app1_some hk
  refine k_call hr hS (k_free hD hS hA) fun v as' es' H1 locs1 w1 w2 w3 w4 w5 w6 => ?_
  cases v with
  | none => exact w1.elim
  | some v =>
    exact K kls (kv :: rest) kh1 rw kh' (by simp [hl]) hk1 p e s m args below meth c A as0 as' es' H1 locs1 ls (v :: vr) C hA (hp.trans w2) w3 w4 w5 w6 (hL.more w2) ⟨w1.1, hvr.more w2⟩
end KO5
