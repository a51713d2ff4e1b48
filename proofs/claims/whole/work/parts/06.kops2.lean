/-! ===== branches, fields, arrays, returns ===== -/
theorem kb_t {α : Type} {b : Bool} {x y : α} (h : b = true) : (Bool.rec x y b : α) = y := by subst h; rfl
theorem kb_f {α : Type} {b : Bool} {x y : α} (h : b = false) : (Bool.rec x y b : α) = x := by subst h; rfl
theorem kb_some {b : Bool} {x : KR} {r : List KV × KH} (h : (Bool.rec none x b : KR) = some r) : b = true ∧ x = some r := by
  cases b with
  | false => cases h
  | true => exact ⟨rfl, h⟩
theorem kh_at {cI cS cM : ClassId} {as : List Nat} {kh : KH} {es : List va_E} (h : k_h cI cS cM as kh es) {p : Nat} {c : KCell} (hc : kh[p]? = some c) : ∃ a e, as[p]? = some a ∧ es[p]? = some e ∧ k_c cI cS cM as c e := by
  have hl := (List.getElem?_eq_some_iff.mp hc).1
  obtain ⟨h1, h2, h3⟩ := h
  have ha : p < as.length := by omega
  have he : p < es.length := by omega
  exact ⟨as[p], es[p], List.getElem?_eq_getElem ha, List.getElem?_eq_getElem he, h3 p c _ hc (List.getElem?_eq_getElem he)⟩
theorem kh_cell {kh : KH} {p : Nat} {c : KCell} (h : k_cell kh p = c) (hn : c ≠ k_ob 0 []) : kh[p]? = some c := kget_some h hn
theorem kh_set {cI cS cM : ClassId} {as : List Nat} {kh : KH} {es : List va_E} (h : k_h cI cS cM as kh es) {p : Nat} {c : KCell} {e : va_E} (hc : k_c cI cS cM as c e) : k_h cI cS cM as (kset kh p c) (es.set p e) := by
  obtain ⟨h1, h2, h3⟩ := h
  rw [kset_eq]
  refine ⟨by simp [h1], by simp [h2], fun q c' e' hq he => ?_⟩
  by_cases hqp : q = p
  · subst hqp
    by_cases hl : q < kh.length
    · rw [List.getElem?_set_self hl] at hq
      rw [List.getElem?_set_self (by omega)] at he
      cases hq
      cases he
      exact hc
    · rw [List.getElem?_eq_none (by rw [List.length_set]; omega)] at hq
      cases hq
  · rw [List.getElem?_set_ne (Ne.symm hqp)] at hq he
    exact h3 q c' e' hq he
section KO2
variable {l : Launch} {D : va_G} {cI cS cM : ClassId} {own mn : String} {cc : ByteArray} {nL : Nat} {ret : Option FieldType} {R : Room} {lg : Bool} {pc d : Nat} {k t : KC}
theorem s_c2 {f : Nat → Nat → Bool} {pt pf : Nat} (kk : ∀ {p : Program} {e : Env} {s : State} {m : MethodId} {args : Array Value} {below : List Frame} {meth : Method} {c : Code} {H : Heap} {locs : List Loc} {Q : State → Prop} {ls : Array Slot} {rest : List Value} (x y : Nat), p.tables.exec = Jvm.exec → c.code = cc → x < 4294967296 → y < 4294967296 → (f x y = true → W p l e R s m args below meth c H locs 0 0 Q (F0 m pt ls rest)) → (f x y = false → W p l e R s m args below meth c H locs 0 0 Q (F0 m pf ls rest)) → W p l e R s m args below meth c H locs 0 0 Q (F0 m pc ls (.int (nI y) :: .int (nI x) :: rest)))
    (T : KS l D cI cS cM own mn cc nL ret R lg pt d t) (K : KS l D cI cS cM own mn cc nL ret R lg pf d k) : KS l D cI cS cM own mn cc nL ret R lg pc (d + 2) (o_c2 f t k) := by
  intro kls kst kh rv kh' hl hk
  obtain ⟨w, r, rfl, hk1⟩ := k_top_some hk
  obtain ⟨w2, r, rfl, hk2⟩ := k_top_some hk1
  obtain ⟨b, rfl, hk3⟩ := k_int_some hk2
  obtain ⟨a, rfl, hk4⟩ := k_int_some hk3
  have hr : r.length = d := by simpa using hl
  intro p e s m args below meth c A as0 as es H locs ls st C hA hp hh hP hD hS hL hst
  obtain ⟨v, st, rfl, ⟨hb, rfl⟩, hst1⟩ := k_vs_cons hst
  obtain ⟨v, st, rfl, ⟨ha, rfl⟩, hst2⟩ := k_vs_cons hst1
  refine kk a b C.1 C.2.1 ha hb (fun hf => ?_) (fun hf => ?_)
  · exact T kls r kh rv kh' hr ((kb_t hf).symm.trans hk4) p e s m args below meth c A as0 as es H locs ls st C hA hp hh hP hD hS hL hst2
  · exact K kls r kh rv kh' hr ((kb_f hf).symm.trans hk4) p e s m args below meth c A as0 as es H locs ls st C hA hp hh hP hD hS hL hst2
theorem s_icmp_lt {off : Int} {tgt : Nat} (hd : decode cc pc = .ok (.if_icmp .lt off, 3)) (ht : (pc : Int) + off = (tgt : Int)) (T : KS l D cI cS cM own mn cc nL ret R lg tgt d t) (K : KS l D cI cS cM own mn cc nL ret R lg (pc + 3) d k) : KS l D cI cS cM own mn cc nL ret R lg pc (d + 2) (o_c2 s_lt t k) :=
  s_c2 (f := s_lt) (fun x y hx hb h1 h2 kt kf => lv_icmp_lt hx hb hd ht (fun q => kt ((kn_lt h1 h2).mpr q)) (fun q => kf (Bool.eq_false_iff.mpr fun z => q ((kn_lt h1 h2).mp z)))) T K
theorem s_icmp_ge {off : Int} {tgt : Nat} (hd : decode cc pc = .ok (.if_icmp .ge off, 3)) (ht : (pc : Int) + off = (tgt : Int)) (T : KS l D cI cS cM own mn cc nL ret R lg tgt d t) (K : KS l D cI cS cM own mn cc nL ret R lg (pc + 3) d k) : KS l D cI cS cM own mn cc nL ret R lg pc (d + 2) (o_c2 s_lt k t) :=
  s_c2 (f := s_lt) (fun x y hx hb h1 h2 kt kf => lv_icmp_ge hx hb hd ht (fun q => kf ((kn_le h2 h1).mpr q)) (fun q => kt (by
    rw [kn_lt h1 h2]; exact Int32.not_le.mp q))) K T
theorem s_icmp_gt {off : Int} {tgt : Nat} (hd : decode cc pc = .ok (.if_icmp .gt off, 3)) (ht : (pc : Int) + off = (tgt : Int)) (T : KS l D cI cS cM own mn cc nL ret R lg tgt d t) (K : KS l D cI cS cM own mn cc nL ret R lg (pc + 3) d k) : KS l D cI cS cM own mn cc nL ret R lg pc (d + 2) (o_c2 s_gt t k) :=
  s_c2 (f := s_gt) (fun x y hx hb h1 h2 kt kf => lv_icmp_gt hx hb hd ht (fun q => kt ((kn_lt h2 h1).mpr q)) (fun q => kf (Bool.eq_false_iff.mpr fun z => q ((kn_lt h2 h1).mp z)))) T K
theorem s_icmp_le {off : Int} {tgt : Nat} (hd : decode cc pc = .ok (.if_icmp .le off, 3)) (ht : (pc : Int) + off = (tgt : Int)) (T : KS l D cI cS cM own mn cc nL ret R lg tgt d t) (K : KS l D cI cS cM own mn cc nL ret R lg (pc + 3) d k) : KS l D cI cS cM own mn cc nL ret R lg pc (d + 2) (o_c2 s_gt k t) :=
  s_c2 (f := s_gt) (fun x y hx hb h1 h2 kt kf => lv_icmp_le hx hb hd ht (fun q => kf ((kn_le h1 h2).mpr q)) (fun q => kt (by
    show s_lt y x = true; rw [kn_lt h2 h1]; exact Int32.not_le.mp q))) K T
theorem s_icmp_eq {off : Int} {tgt : Nat} (hd : decode cc pc = .ok (.if_icmp .eq off, 3)) (ht : (pc : Int) + off = (tgt : Int)) (T : KS l D cI cS cM own mn cc nL ret R lg tgt d t) (K : KS l D cI cS cM own mn cc nL ret R lg (pc + 3) d k) : KS l D cI cS cM own mn cc nL ret R lg pc (d + 2) (o_c2 Nat.beq t k) :=
  s_c2 (f := Nat.beq) (fun x y hx hb h1 h2 kt kf => lv_icmp_eq hx hb hd ht (fun q => kt (Nat.beq_eq.mpr ((kn_inj h1 h2).mp q))) (fun q => kf (Bool.eq_false_iff.mpr fun z => q ((kn_inj h1 h2).mpr (Nat.eq_of_beq_eq_true z))))) T K
theorem s_icmp_ne {off : Int} {tgt : Nat} (hd : decode cc pc = .ok (.if_icmp .ne off, 3)) (ht : (pc : Int) + off = (tgt : Int)) (T : KS l D cI cS cM own mn cc nL ret R lg tgt d t) (K : KS l D cI cS cM own mn cc nL ret R lg (pc + 3) d k) : KS l D cI cS cM own mn cc nL ret R lg pc (d + 2) (o_c2 Nat.beq k t) :=
  s_c2 (f := Nat.beq) (fun x y hx hb h1 h2 kt kf => lv_icmp_ne hx hb hd ht (fun q => kf (Bool.eq_false_iff.mpr fun z => q ((kn_inj h1 h2).mpr (Nat.eq_of_beq_eq_true z)))) (fun q => kt (Nat.beq_eq.mpr ((kn_inj h1 h2).mp q)))) K T
/-- one number beside 0 -/
theorem s_c1 {P : Nat → Prop} {pt pf : Nat} {g : KR → KR → Nat → KR} (kk : ∀ {p : Program} {e : Env} {s : State} {m : MethodId} {args : Array Value} {below : List Frame} {meth : Method} {c : Code} {H : Heap} {locs : List Loc} {Q : State → Prop} {ls : Array Slot} {rest : List Value} (x : Nat), p.tables.exec = Jvm.exec → c.code = cc → x < 4294967296 → (P x → W p l e R s m args below meth c H locs 0 0 Q (F0 m pt ls rest)) → (¬ P x → W p l e R s m args below meth c H locs 0 0 Q (F0 m pf ls rest)) → W p l e R s m args below meth c H locs 0 0 Q (F0 m pc ls (.int (nI x) :: rest)))
    (h1 : ∀ u w x, P x → g u w x = u) (h2 : ∀ u w x, ¬ P x → g u w x = w)
    (T : KS l D cI cS cM own mn cc nL ret R lg pt d t) (K : KS l D cI cS cM own mn cc nL ret R lg pf d k) : KS l D cI cS cM own mn cc nL ret R lg pc (d + 1) (o_c1 g t k) := by
  intro kls kst kh rv kh' hl hk
  obtain ⟨w, r, rfl, hk1⟩ := k_top_some hk
  obtain ⟨a, rfl, hk2⟩ := k_int_some hk1
  have hr : r.length = d := by simpa using hl
  intro p e s m args below meth c A as0 as es H locs ls st C hA hp hh hP hD hS hL hst
  obtain ⟨v, st, rfl, ⟨ha, rfl⟩, hst1⟩ := k_vs_cons hst
  refine kk a C.1 C.2.1 ha (fun hf => ?_) (fun hf => ?_)
  · exact T kls r kh rv kh' hr ((h1 _ _ _ hf).symm.trans hk2) p e s m args below meth c A as0 as es H locs ls st C hA hp hh hP hD hS hL hst1
  · exact K kls r kh rv kh' hr ((h2 _ _ _ hf).symm.trans hk2) p e s m args below meth c A as0 as es H locs ls st C hA hp hh hP hD hS hL hst1
theorem nb_t {a b : Nat} (h : a < b) : Nat.blt a b = true := by rw [Nat.blt_eq]; exact h
theorem nb_f {a b : Nat} (h : ¬ a < b) : Nat.blt a b = false := Bool.eq_false_iff.mpr fun z => h (by rw [Nat.blt_eq] at z; exact z)
theorem s_if_lt {off : Int} {tgt : Nat} (hd : decode cc pc = .ok (.ifCond .lt off, 3)) (ht : (pc : Int) + off = (tgt : Int)) (T : KS l D cI cS cM own mn cc nL ret R lg tgt d t) (K : KS l D cI cS cM own mn cc nL ret R lg (pc + 3) d k) : KS l D cI cS cM own mn cc nL ret R lg pc (d + 1) (o_c1 g_lt t k) :=
  s_c1 (g := g_lt) (P := fun x => ¬ x < 2147483648) (fun x hx hb h1 kt kf => lv_if_lt hx hb hd ht (fun q => kt ((kn_lt0 h1).mp q)) (fun q => kf (fun z => q ((kn_lt0 h1).mpr z)))) (fun _ _ _ h => kb_f (nb_f h)) (fun _ _ _ h => kb_t (nb_t (Classical.byContradiction h))) T K
theorem s_if_ge {off : Int} {tgt : Nat} (hd : decode cc pc = .ok (.ifCond .ge off, 3)) (ht : (pc : Int) + off = (tgt : Int)) (T : KS l D cI cS cM own mn cc nL ret R lg tgt d t) (K : KS l D cI cS cM own mn cc nL ret R lg (pc + 3) d k) : KS l D cI cS cM own mn cc nL ret R lg pc (d + 1) (o_c1 g_lt k t) :=
  s_c1 (g := g_lt) (P := fun x => ¬ x < 2147483648) (fun x hx hb h1 kt kf => lv_if_ge hx hb hd ht (fun q => kf (fun z => Int32.not_lt.mpr q ((kn_lt0 h1).mpr z))) (fun q => kt ((kn_lt0 h1).mp (Int32.not_le.mp q)))) (fun _ _ _ h => kb_f (nb_f h)) (fun _ _ _ h => kb_t (nb_t (Classical.byContradiction h))) K T
theorem s_if_eq {off : Int} {tgt : Nat} (hd : decode cc pc = .ok (.ifCond .eq off, 3)) (ht : (pc : Int) + off = (tgt : Int)) (T : KS l D cI cS cM own mn cc nL ret R lg tgt d t) (K : KS l D cI cS cM own mn cc nL ret R lg (pc + 3) d k) : KS l D cI cS cM own mn cc nL ret R lg pc (d + 1) (o_c1 g_eq t k) :=
  s_c1 (g := g_eq) (P := fun x => x = 0) (fun x hx hb h1 kt kf => lv_if_eq hx hb hd ht (fun q => kt ((kn_eq0 h1).mp q)) (fun q => kf (fun z => q ((kn_eq0 h1).mpr z)))) (fun _ _ _ h => by subst h; rfl) (fun _ _ x h => by cases x with | zero => exact absurd rfl h | succ n => rfl) T K
theorem s_if_ne {off : Int} {tgt : Nat} (hd : decode cc pc = .ok (.ifCond .ne off, 3)) (ht : (pc : Int) + off = (tgt : Int)) (T : KS l D cI cS cM own mn cc nL ret R lg tgt d t) (K : KS l D cI cS cM own mn cc nL ret R lg (pc + 3) d k) : KS l D cI cS cM own mn cc nL ret R lg pc (d + 1) (o_c1 g_eq k t) :=
  s_c1 (g := g_eq) (P := fun x => x = 0) (fun x hx hb h1 kt kf => lv_if_ne hx hb hd ht (fun q => kf (fun z => q ((kn_eq0 h1).mpr z))) (fun q => kt ((kn_eq0 h1).mp q))) (fun _ _ _ h => by subst h; rfl) (fun _ _ x h => by cases x with | zero => exact absurd rfl h | succ n => rfl) K T
theorem kn_gt0 {a : Nat} (ha : a < 4294967296) : 0 < nI a ↔ (a ≠ 0 ∧ a < 2147483648) := by
  rw [Int32.lt_iff_toInt_lt, kn_int ha]
  have h0 : (0 : Int32).toInt = 0 := rfl
  rw [h0]
  split <;> omega
theorem s_if_gt {off : Int} {tgt : Nat} (hd : decode cc pc = .ok (.ifCond .gt off, 3)) (ht : (pc : Int) + off = (tgt : Int)) (T : KS l D cI cS cM own mn cc nL ret R lg tgt d t) (K : KS l D cI cS cM own mn cc nL ret R lg (pc + 3) d k) : KS l D cI cS cM own mn cc nL ret R lg pc (d + 1) (o_c1 g_gt t k) :=
  s_c1 (g := g_gt) (P := fun x => x ≠ 0 ∧ x < 2147483648) (fun x hx hb h1 kt kf => lv_if_gt hx hb hd ht (fun q => kt ((kn_gt0 h1).mp q)) (fun q => kf (fun z => q ((kn_gt0 h1).mpr z)))) (fun _ _ x h => by cases x with | zero => exact absurd rfl h.1 | succ n => exact kb_t (nb_t h.2)) (fun _ _ x h => by cases x with | zero => rfl | succ n => exact kb_f (nb_f fun z => h ⟨by omega, z⟩)) T K
theorem s_if_le {off : Int} {tgt : Nat} (hd : decode cc pc = .ok (.ifCond .le off, 3)) (ht : (pc : Int) + off = (tgt : Int)) (T : KS l D cI cS cM own mn cc nL ret R lg tgt d t) (K : KS l D cI cS cM own mn cc nL ret R lg (pc + 3) d k) : KS l D cI cS cM own mn cc nL ret R lg pc (d + 1) (o_c1 g_gt k t) :=
  s_c1 (g := g_gt) (P := fun x => x ≠ 0 ∧ x < 2147483648) (fun x hx hb h1 kt kf => lv_if_le hx hb hd ht (fun q => kf (fun z => Int32.not_lt.mpr q ((kn_gt0 h1).mpr z))) (fun q => kt ((kn_gt0 h1).mp (Int32.not_le.mp q)))) (fun _ _ x h => by cases x with | zero => exact absurd rfl h.1 | succ n => exact kb_t (nb_t h.2)) (fun _ _ x h => by cases x with | zero => rfl | succ n => exact kb_f (nb_f fun z => h ⟨by omega, z⟩)) K T
theorem s_ireturn (hd : decode cc pc = .ok (.ireturn, 1)) (hr : ret = some .int) : KS l D cI cS cM own mn cc nL ret R lg pc 1 o_iret := by
  intro kls kst kh rv kh' hl hk
  obtain ⟨w, r, rfl, hk1⟩ := k_top_some hk
  obtain ⟨n, rfl, hk2⟩ := k_int_some hk1
  cases hk2
  have hr0 : r = [] := by cases r with | nil => rfl | cons a b => simp at hl
  subst hr0
  intro p e s m args below meth c A as0 as es H locs ls st C hA hp hh hP hD hS hL hst
  obtain ⟨v, st, rfl, hv, hst1⟩ := k_vs_cons hst
  obtain ⟨hn, rfl⟩ := id hv
  have hs0 : st = [] := by cases st with | nil => rfl | cons a b => exact hst1.elim
  subst hs0
  obtain ⟨c1, c2, c3, c4, c5, c6, c7, c8, c9, c10⟩ := C
  exact W.iret (v := nI n) c1 c2 (c6.trans hr) (fun t ht hW => ⟨⟨_, rfl, as, es, ⟨hv, trivial⟩, hp, hh, by rw [ht]; exact hP, va_K.moved hW.alike c9, c10.moved hW, hD⟩, hS.F ht⟩) hS.2.2 hd c7
theorem s_zreturn (hd : decode cc pc = .ok (.ireturn, 1)) (hr : ret = some .boolean) : KS l D cI cS cM own mn cc nL ret R lg pc 1 o_zret := by
  intro kls kst kh rv kh' hl hk
  obtain ⟨w, r, rfl, hk1⟩ := k_top_some hk
  obtain ⟨n, rfl, hk2⟩ := k_int_some hk1
  obtain ⟨hb, hk9⟩ := kb_some hk2
  cases hk9
  have hr0 : r = [] := by cases r with | nil => rfl | cons a b => simp at hl
  subst hr0
  intro p e s m args below meth c A as0 as es H locs ls st C hA hp hh hP hD hS hL hst
  obtain ⟨v, st, rfl, hv, hst1⟩ := k_vs_cons hst
  obtain ⟨hn, rfl⟩ := id hv
  have hs0 : st = [] := by cases st with | nil => rfl | cons a b => exact hst1.elim
  subst hs0
  obtain ⟨c1, c2, c3, c4, c5, c6, c7, c8, c9, c10⟩ := C
  have hz : narrow .boolean (.int (nI n)) = .int (nI n) := by
    rw [Nat.blt_eq] at hb
    rcases (show n = 0 ∨ n = 1 by omega) with rfl | rfl <;> decide
  exact W.zret (v := nI n) (ty := .boolean) c1 c2 (c6.trans hr) hz (fun t ht hW => ⟨⟨_, rfl, as, es, ⟨hv, trivial⟩, hp, hh, by rw [ht]; exact hP, va_K.moved hW.alike c9, c10.moved hW, hD⟩, hS.F ht⟩) hS.2.2 hd c7
theorem s_lreturn (hd : decode cc pc = .ok (.lreturn, 1)) (hr : ret = some .long) : KS l D cI cS cM own mn cc nL ret R lg pc 1 o_lret := by
  intro kls kst kh rv kh' hl hk
  obtain ⟨w, r, rfl, hk1⟩ := k_top_some hk
  obtain ⟨n, rfl, hk2⟩ := k_lng_some hk1
  cases hk2
  have hr0 : r = [] := by cases r with | nil => rfl | cons a b => simp at hl
  subst hr0
  intro p e s m args below meth c A as0 as es H locs ls st C hA hp hh hP hD hS hL hst
  obtain ⟨v, st, rfl, hv, hst1⟩ := k_vs_cons hst
  obtain ⟨hn, rfl⟩ := id hv
  have hs0 : st = [] := by cases st with | nil => rfl | cons a b => exact hst1.elim
  subst hs0
  obtain ⟨c1, c2, c3, c4, c5, c6, c7, c8, c9, c10⟩ := C
  exact W.lret (v := lN n) c1 c2 (c6.trans hr) (fun t ht hW => ⟨⟨_, rfl, as, es, ⟨hv, trivial⟩, hp, hh, by rw [ht]; exact hP, va_K.moved hW.alike c9, c10.moved hW, hD⟩, hS.F ht⟩) hS.2.2 hd c7
theorem s_return (hd : decode cc pc = .ok (.return_, 1)) (hr : ret = none) : KS l D cI cS cM own mn cc nL ret R lg pc 0 o_ret := by
  intro kls kst kh rv kh' hl hk
  cases hk
  have hr0 : kst = [] := by cases kst with | nil => rfl | cons a b => simp at hl
  subst hr0
  intro p e s m args below meth c A as0 as es H locs ls st C hA hp hh hP hD hS hL hst
  have hs0 : st = [] := by cases st with | nil => rfl | cons a b => exact hst.elim
  subst hs0
  obtain ⟨c1, c2, c3, c4, c5, c6, c7, c8, c9, c10⟩ := C
  exact W.vret c1 c2 (c6.trans hr) (fun t ht hW => ⟨⟨_, rfl, as, es, trivial, hp, hh, by rw [ht]; exact hP, va_K.moved hW.alike c9, c10.moved hW, hD⟩, hS.F ht⟩) hS.2.2 hd c7
end KO2
