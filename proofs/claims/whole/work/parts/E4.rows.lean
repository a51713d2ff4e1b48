/-! ===== the law: two worlds side by side, a call in one of them ===== -/
section LAWR
variable {p : Program} {l : Launch} {e : Env} {s : State} {m : MethodId} {args : Array Value} {below : List Frame} {meth : Method} {c : Code} {D : va_G} {cI cS cM : ClassId} {cells slots pc : Nat} {Q : State → Prop} {H : Heap} {locs : List Loc} {ls : Array Slot} {rest : List Value}
def lctx (D : va_G) (cI cS cM : ClassId) (p : Program) (s : State) (m : MethodId) (c : Code) (args : Array Value) : Prop :=
  p.tables.exec = Jvm.exec ∧ c.code = code ∧ c.maxLocals = 4 ∧ s.vm.findClass R_law = some m.cls ∧ (∀ w ∈ k_tbl, w.before args s = true) ∧ va_K D vwCl (k_ty cI cS cM) s ∧ k_mk cI cM s
def LI (s : State) (D : va_G) (cI cS cM : ClassId) (kx km : KH) (ax am : Nat) (H : Heap) (locs : List Loc) : Prop :=
  ∃ (as1 : List Nat) (es1 : List va_E) (as2 : List Nat) (es2 : List va_E), k_h cI cS cM as1 kx es1 ∧ k_h cI cS cM as2 km es2 ∧ va_P D vwCl (kz as1 es1) H ∧ va_P D vwCl (kz as2 es2) H ∧ va_D (fun q => s.heap.size ≤ q) (kz as1 es1) ∧ va_D (fun q => s.heap.size ≤ q) (kz as2 es2) ∧ (∀ a, a ∈ as1 → a ∈ as2 → False) ∧ as1[0]? = some ax ∧ as2[0]? = some am ∧ va_S (fun q => s.heap.size ≤ q) s.heap H locs
theorem l_run {idx n fb nb ci : Nat} {y : MethodName} {qc : vw_C} {cb : ByteArray} {rb : Option FieldType} {ka : List KV} {kh kh' : KH} {rv : List KV} {fs : List KV} {as : List Nat} {es : List va_E} {vx : List Value} {a : Nat} {A : Nat → Prop} (hd : decode code pc = .ok (.invokevirtual idx, 3)) (hlk : Cond.methodLink R_law idx y ∈ k_tbl) (hins : Cond.instanceMethod y ∈ k_tbl) (hsel : Cond.selects qc.1 y y ∈ k_tbl) (hc : vwCl[ci]? = some qc) (hok : k_ok y cb nb rb n) (hfr : fb + 1 ≤ 11) (hnb : 8 + (nb + 11) + 30 * fb ≤ 436) (M : k_met l D cI cS cM y cb nb rb fb 0 0 (k_r 1 :: ka) kh rv kh') (hx : ka.length = n) (hq : k_cell kh 0 = k_ob ci fs) (C : lctx D cI cS cM p s m c args) (h1 : k_h cI cS cM as kh es) (p1 : va_P D vwCl (kz as es) H) (d1 : va_D A (kz as es)) (a1 : as[0]? = some a) (hls : ls.size = 4) (hv : k_vs as ka vx) (hrest : (rest.map fun v => v.category).sum ≤ 8) (hcs : cells ≤ 600000 ∧ slots ≤ 7302250) :
    va_Run p l e room_1 s m args below meth c H locs cells slots 0 0 (F0 m pc ls (vx.reverse ++ Value.ref a :: rest)) rest (k_Q D cI cS cM as rv kh' (va_A (kz as es) H.size) (Value.ref a :: vx).toArray) (va_A (kz as es) H.size) := by
  obtain ⟨c1, c2, c3, c4, c5, c9, c10⟩ := C
  obtain ⟨o1, o2, o3, o4⟩ := hok
  have hM := M as es (Value.ref a :: vx) H.size h1 ⟨⟨a, a1, rfl⟩, hv⟩
  obtain ⟨a', ev, g1, g2, g3⟩ := kh_at h1 (kh_in h1 a1)
  cases a1.symm.trans g1
  rw [hq] at g3
  obtain ⟨-, vs, rfl, -, -⟩ := g3
  have hl : vx.length = n := by rw [k_vs_len hv]; exact hx
  have hW : 2 * (F0 m pc ls (vx.reverse ++ Value.ref a :: rest)).monitorRoom + (rest.map fun v => v.category).sum ≤ 8 := lv_room hrest
  exact va_runV (C := qc.1) (b := a) (As := vx) ⟨c1, c2, c3, c4, c5⟩ hM ⟨callB_of n c5 (k_goodIn o1) rfl rfl rfl (c5 _ o2) (c5 _ hlk) o3 ⟨hfr, hnb⟩, c5 _ hins, c5 _ hsel⟩ ⟨k_P_blind, va_recv c9 p1 hc (kz_get a1 g2), k_preS c9 c10 p1 d1⟩ rfl hl hls rfl hW hd hcs
theorem kz_in {as : List Nat} {es : List va_E} {i : Nat} {q : Nat × va_E} (h : (kz as es)[i]? = some q) : as[i]? = some q.1 := by
  unfold kz at h
  rw [List.getElem?_zip_eq_some] at h
  exact h.1
theorem kz_out {as : List Nat} {es : List va_E} {kh : KH} (h : k_h cI cS cM as kh es) {k a : Nat} (hk : as[k]? = some a) : ∃ ev, (kz as es)[k]? = some (a, ev) := by
  have hl : k < as.length := (List.getElem?_eq_some_iff.mp hk).1
  exact ⟨es[k]'(by rw [h.2.1, ← h.1]; exact hl), kz_get hk (List.getElem?_eq_getElem _)⟩
/-- a call of the class -/
theorem l_call1 {idx n fb nb : Nat} {y : MethodName} {qc : vw_C} {cb : ByteArray} {rb : Option FieldType} {ka : List KV} {kx km kx' : KH} {rv : KV} {fs : List KV} {vx : List Value} {ax am : Nat} (hd : decode code pc = .ok (.invokevirtual idx, 3)) (hlk : Cond.methodLink R_law idx y ∈ k_tbl) (hins : Cond.instanceMethod y ∈ k_tbl) (hsel : Cond.selects qc.1 y y ∈ k_tbl) (hc : vwCl[8]? = some qc) (hok : k_ok y cb nb rb n) (hfr : fb + 1 ≤ 11) (hnb : 8 + (nb + 11) + 30 * fb ≤ 436) (M : k_met l D cI cS cM y cb nb rb fb 0 0 (k_r 1 :: ka) kx [rv] kx') (hx : ka.length = n) (hq : k_cell kx 0 = k_ob 8 fs) (C : lctx D cI cS cM p s m c args) (I : LI s D cI cS cM kx km ax am H locs) (hls : ls.size = 4) (hv : ∀ as, k_vs as ka vx) (hrest : (rest.map fun v => v.category).sum ≤ 8) (hcs : cells ≤ 600000 ∧ slots ≤ 7302250)
    (kk : ∀ (v : Value) (as' : List Nat) (H1 : Heap) (locs1 : List Loc), k_v as' rv v → LI s D cI cS cM kx' km ax am H1 locs1 → W p l e room_1 s m args below meth c H1 locs1 cells slots Q (F0 m (pc + 3) ls (v :: rest))) : W p l e room_1 s m args below meth c H locs cells slots Q (F0 m pc ls (vx.reverse ++ Value.ref ax :: rest)) := by
  obtain ⟨as1, es1, as2, es2, h1, h2, p1, p2, d1, d2, dis, a1, a2, hS⟩ := I
  have hr := l_run (e := e) (below := below) (meth := meth) (locs := locs) hd hlk hins hsel hc hok hfr hnb M hx hq C h1 p1 d1 a1 hls (hv as1) hrest hcs
  intro T hT X
  obtain ⟨v, st₀, t, T', L, h0, X', hL, e1, e2, ⟨⟨v', hv', as', es', w1, w2, w3, w4, w5, w6, w7⟩, hz, hk⟩, st⟩ := hr T hT X
  cases hv'
  rw [h0] at hz hk
  rw [← e1] at w4 hz hk
  cases v with
  | none => exact w1.elim
  | some v =>
    have hin : ∀ q, va_A (kz as1 es1) H.size q → s.heap.size ≤ q := fun q h => by
      rcases h with ⟨k, ev, hq⟩ | h
      · exact d1.2 k _ hq
      · exact Nat.le_trans hS.1 h
    have hout : ∀ (k : Nat) (q : Nat × va_E), (kz as2 es2)[k]? = some q → T'.heap[q.1]? = H[q.1]? := fun k q hq => by
      refine hk q.1 (p2 k q hq).lt fun h => ?_
      rcases h with ⟨j, ev, hj⟩ | h
      · have z1 := kz_in hj
        have z2 := kz_in hq
        exact dis q.1 (List.mem_of_getElem? z1) (List.mem_of_getElem? z2)
      · have := (p2 k q hq).lt
        omega
    have hd' : va_D (fun q => s.heap.size ≤ q) (kz as' es') := w7.weaken (fun _ _ _ h => hin _ h)
    have hdis : ∀ a, a ∈ as' → a ∈ as2 → False := fun a g1 g2 => by
      obtain ⟨k, hk1⟩ := List.getElem?_of_mem g1
      obtain ⟨j, hj1⟩ := List.getElem?_of_mem g2
      obtain ⟨ev, hev⟩ := kz_out w3 hk1
      obtain ⟨ew, hew⟩ := kz_out h2 hj1
      have hlt := (p2 j _ hew).lt
      rcases w7.2 k _ hev with ⟨i, eu, hi⟩ | h
      · exact dis a (List.mem_of_getElem? (kz_in hi)) g2
      · have hlt : a < H.size := hlt
        have h : H.size ≤ a := h
        omega
    have hS' : va_S (fun q => s.heap.size ≤ q) s.heap T'.heap (locs ++ L) := ⟨Nat.le_trans hS.1 hz, fun q g1 g2 => by rw [hk q (Nat.lt_of_lt_of_le g1 hS.1) (fun z => g2 (hin q z))]; exact hS.2.1 q g1 g2, fun q hq => by
        rcases List.mem_append.mp hq with h | h
        · exact hS.2.2 q h
        · exact hin _ (hL q h)⟩
    obtain ⟨t2, b1, b2⟩ := kk v as' T'.heap (locs ++ L) w1.1 ⟨as', es', as2, es2, w3, h2, w4, p2.kept hout, hd', d2, hdis, by obtain ⟨tl, rfl⟩ := w2; rw [List.getElem?_append_left (List.getElem?_eq_some_iff.mp a1).1]; exact a1, a2, hS'⟩ T' rfl X'
    exact ⟨t2, st t2 b1, b2⟩
/-- a call of the reference -/
theorem l_call2 {idx n fb nb : Nat} {y : MethodName} {qc : vw_C} {cb : ByteArray} {rb : Option FieldType} {ka : List KV} {kx km km' : KH} {rv : KV} {fs : List KV} {vx : List Value} {ax am : Nat} (hd : decode code pc = .ok (.invokevirtual idx, 3)) (hlk : Cond.methodLink R_law idx y ∈ k_tbl) (hins : Cond.instanceMethod y ∈ k_tbl) (hsel : Cond.selects qc.1 y y ∈ k_tbl) (hc : vwCl[9]? = some qc) (hok : k_ok y cb nb rb n) (hfr : fb + 1 ≤ 11) (hnb : 8 + (nb + 11) + 30 * fb ≤ 436) (M : k_met l D cI cS cM y cb nb rb fb 0 0 (k_r 1 :: ka) km [rv] km') (hx : ka.length = n) (hq : k_cell km 0 = k_ob 9 fs) (C : lctx D cI cS cM p s m c args) (I : LI s D cI cS cM kx km ax am H locs) (hls : ls.size = 4) (hv : ∀ as, k_vs as ka vx) (hrest : (rest.map fun v => v.category).sum ≤ 8) (hcs : cells ≤ 600000 ∧ slots ≤ 7302250)
    (kk : ∀ (v : Value) (as' : List Nat) (H1 : Heap) (locs1 : List Loc), k_v as' rv v → LI s D cI cS cM kx km' ax am H1 locs1 → W p l e room_1 s m args below meth c H1 locs1 cells slots Q (F0 m (pc + 3) ls (v :: rest))) : W p l e room_1 s m args below meth c H locs cells slots Q (F0 m pc ls (vx.reverse ++ Value.ref am :: rest)) := by
  obtain ⟨as1, es1, as2, es2, h1, h2, p1, p2, d1, d2, dis, a1, a2, hS⟩ := I
  have hr := l_run (e := e) (below := below) (meth := meth) (locs := locs) hd hlk hins hsel hc hok hfr hnb M hx hq C h2 p2 d2 a2 hls (hv as2) hrest hcs
  intro T hT X
  obtain ⟨v, st₀, t, T', L, h0, X', hL, e1, e2, ⟨⟨v', hv', as', es', w1, w2, w3, w4, w5, w6, w7⟩, hz, hk⟩, st⟩ := hr T hT X
  cases hv'
  rw [h0] at hz hk
  rw [← e1] at w4 hz hk
  cases v with
  | none => exact w1.elim
  | some v =>
    have hin : ∀ q, va_A (kz as2 es2) H.size q → s.heap.size ≤ q := fun q h => by
      rcases h with ⟨k, ev, hq⟩ | h
      · exact d2.2 k _ hq
      · exact Nat.le_trans hS.1 h
    have hout : ∀ (k : Nat) (q : Nat × va_E), (kz as1 es1)[k]? = some q → T'.heap[q.1]? = H[q.1]? := fun k q hq => by
      refine hk q.1 (p1 k q hq).lt fun h => ?_
      rcases h with ⟨j, ev, hj⟩ | h
      · have z1 := kz_in hj
        have z2 := kz_in hq
        exact dis q.1 (List.mem_of_getElem? z2) (List.mem_of_getElem? z1)
      · have := (p1 k q hq).lt
        omega
    have hd' : va_D (fun q => s.heap.size ≤ q) (kz as' es') := w7.weaken (fun _ _ _ h => hin _ h)
    have hdis : ∀ a, a ∈ as1 → a ∈ as' → False := fun a g1 g2 => by
      obtain ⟨k, hk1⟩ := List.getElem?_of_mem g2
      obtain ⟨j, hj1⟩ := List.getElem?_of_mem g1
      obtain ⟨ev, hev⟩ := kz_out w3 hk1
      obtain ⟨ew, hew⟩ := kz_out h1 hj1
      have hlt := (p1 j _ hew).lt
      rcases w7.2 k _ hev with ⟨i, eu, hi⟩ | h
      · exact dis a g1 (List.mem_of_getElem? (kz_in hi))
      · have hlt : a < H.size := hlt
        have h : H.size ≤ a := h
        omega
    have hS' : va_S (fun q => s.heap.size ≤ q) s.heap T'.heap (locs ++ L) := ⟨Nat.le_trans hS.1 hz, fun q g1 g2 => by rw [hk q (Nat.lt_of_lt_of_le g1 hS.1) (fun z => g2 (hin q z))]; exact hS.2.1 q g1 g2, fun q hq => by
        rcases List.mem_append.mp hq with h | h
        · exact hS.2.2 q h
        · exact hin _ (hL q h)⟩
    obtain ⟨t2, b1, b2⟩ := kk v as' T'.heap (locs ++ L) w1.1 ⟨as1, es1, as', es', h1, w3, p1.kept hout, w4, d1, hd', hdis, a1, by obtain ⟨tl, rfl⟩ := w2; rw [List.getElem?_append_left (List.getElem?_eq_some_iff.mp a2).1]; exact a2, hS'⟩ T' rfl X'
    exact ⟨t2, st t2 b1, b2⟩
/-- other heaps that say less, or the same in another order -/
theorem LI_red {kx kx2 km km2 : KH} {ax am : Nat} (hx : redX kx kx2) (hm : kleH km km2) (I : LI s D cI cS cM kx km ax am H locs) : LI s D cI cS cM kx2 km2 ax am H locs := by
  obtain ⟨as1, es1, as2, es2, h1, h2, p1, p2, d1, d2, dis, a1, a2, hS⟩ := I
  rcases hx with hx | ⟨io, hx, h0⟩
  · exact ⟨as1, es1, as2, es2, k_h_weak hx h1, k_h_weak hm h2, p1, p2, d1, d2, dis, a1, a2, hS⟩
  · obtain ⟨es', g1, g2, g3⟩ := k_canon hx h1 p1 d1
    refine ⟨kas io as1, es', as2, es2, g1, k_h_weak hm h2, g2, p2, g3, d2, fun a b1 b2 => ?_, ?_, a2, hS⟩
    · unfold kas at b1
      obtain ⟨q, hq, rfl⟩ := List.mem_map.mp b1
      obtain ⟨i, hi⟩ := List.getElem?_of_mem hq
      have hil : i < kx2.length := by
        rw [← hx.2.1]
        exact (List.getElem?_eq_some_iff.mp hi).1
      obtain ⟨-, p', c', e1, e2, -⟩ := hx.2.2 i _ (List.getElem?_eq_getElem hil)
      cases hi.symm.trans e1
      have hql : q < as1.length := by
        rw [h1.1]
        exact (List.getElem?_eq_some_iff.mp e2).1
      refine dis _ ?_ b2
      rw [List.getD_eq_getElem?_getD, List.getElem?_eq_getElem hql]
      exact List.getElem_mem hql
    · unfold kas
      rw [List.getElem?_map, h0]
      show some (as1.getD 0 0) = some ax
      rw [List.getD_eq_getElem?_getD, a1]
      rfl
/-- the script stays as it was -/
theorem LI_scr {kx km : KH} {ax am b L : Nat} {xs : Nat → Int32} (I : LI s D cI cS cM kx km ax am H locs) (hb : b < s.heap.size) (hX : va_X b L xs s s.heap) : va_X b L xs s H := by
  obtain ⟨as1, es1, as2, es2, h1, h2, p1, p2, d1, d2, dis, a1, a2, hS⟩ := I
  exact hX.kept (hS.2.1 b hb (by omega))
/-- an entry of the script on the stack -/
theorem l_arg {b L i k pc1 pc2 pc3 pc4 pc5 : Nat} {xs : Nat → Int32} {z : Int} (hx : p.tables.exec = Jvm.exec) (hb : c.code = code) (d0 : decode code pc = .ok (.aload_n 0, 1)) (d1 : decode code pc1 = .ok (.iload_n 3, 1)) (d2 : decode code pc2 = .ok (.iconst z, 1)) (d3 : decode code pc3 = .ok (.iadd, 1)) (d4 : decode code pc4 = .ok (.iaload, 1)) (e1 : pc + 1 = pc1) (e2 : pc1 + 1 = pc2) (e3 : pc2 + 1 = pc3) (e4 : pc3 + 1 = pc4) (e5 : pc4 + 1 = pc5) (hz : Int32.ofInt z = nI k) (hik : i + k < L) (hL : L ≤ 2048) (hX : va_X b L xs s H) (l0 : ls[0]? = some (.val (.ref b))) (l3 : ls[3]? = some (.val (.int (nI i))))
    (kk : W p l e room_1 s m args below meth c H locs cells slots Q (F0 m pc5 ls (.int (xs (i + k)) :: rest))) : W p l e room_1 s m args below meth c H locs cells slots Q (F0 m pc ls rest) := by
  subst e1 e2 e3 e4 e5
  obtain ⟨scr, s1, s2, s3, s4, s5⟩ := hX
  refine lv_aload_n hx hb d0 rfl l0 ?_
  refine lv_iload_n hx hb d1 rfl l3 ?_
  refine lv_iconst hx hb d2 hz ?_
  refine lv_iadd hx hb d3 ?_
  have hs : nI i + nI k = nI (i + k) := by rw [← kn_add, na (by omega)]
  rw [hs]
  have hcl : (nI (i + k)).toNatClampNeg = i + k := kn_cl (by omega)
  refine W.iald (j := nI (i + k)) (v := .int (xs (i + k))) hx hb s1 s2 s3 (by rw [s4]; exact kn_in hik (by omega)) (by rw [hcl]; exact s5 _ hik) rfl rfl d4 ?_
  exact kk
end LAWR
