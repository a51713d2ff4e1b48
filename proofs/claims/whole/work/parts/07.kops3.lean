/-! ===== fields and arrays ===== -/
theorem kget_in {α : Type} (d : α) {l : List α} {n : Nat} (h : n < l.length) : l[n]? = some (kget d l n) := by
  rw [kget_eq, List.getD_eq_getElem?_getD, List.getElem?_eq_getElem h]
  rfl
theorem kh_in {cI cS cM : ClassId} {as : List Nat} {kh : KH} {es : List va_E} (h : k_h cI cS cM as kh es) {p a : Nat} (ha : as[p]? = some a) : kh[p]? = some (k_cell kh p) := kget_in _ (by rw [← h.1]; exact (List.getElem?_eq_some_iff.mp ha).1)
section KO3
variable {l : Launch} {D : va_G} {cI cS cM : ClassId} {own mn : String} {cc : ByteArray} {nL : Nat} {ret : Option FieldType} {R : Room} {lg : Bool} {pc d : Nat} {k t : KC}
theorem s_dup (hd : decode cc pc = .ok (.dup, 1)) (K : KS l D cI cS cM own mn cc nL ret R lg (pc + 1) (d + 2) k) : KS l D cI cS cM own mn cc nL ret R lg pc (d + 1) (o_dup k) := by
  intro kls kst kh rv kh' hl hk
  obtain ⟨w, r, rfl, hk1⟩ := k_top_some hk
  obtain ⟨a, rfl, hk2⟩ := k_ref_some hk1
  intro p e s m args below meth c A as0 as es H locs ls st C hA hp hh hP hD hS hL hst
  obtain ⟨v, st, rfl, hv, hst1⟩ := k_vs_cons hst
  refine lv_dup C.1 C.2.1 hd (k_cat hv (by simp) (by simp)) ?_
  exact K kls _ kh rv kh' (by simpa using hl) hk2 p e s m args below meth c A as0 as es H locs ls _ C hA hp hh hP hD hS hL ⟨hv, hv, hst1⟩
theorem s_dup2 (hd : decode cc pc = .ok (.dup2, 1)) (K : KS l D cI cS cM own mn cc nL ret R lg (pc + 1) (d + 4) k) : KS l D cI cS cM own mn cc nL ret R lg pc (d + 2) (o_dup2 k) := by
  intro kls kst kh rv kh' hl hk
  obtain ⟨w, r, rfl, hk1⟩ := k_top_some hk
  obtain ⟨w2, r, rfl, hk2⟩ := k_top_some hk1
  obtain ⟨b, rfl, hk3⟩ := k_int_some hk2
  obtain ⟨a, rfl, hk4⟩ := k_ref_some hk3
  intro p e s m args below meth c A as0 as es H locs ls st C hA hp hh hP hD hS hL hst
  obtain ⟨v, st, rfl, hv, hst1⟩ := k_vs_cons hst
  obtain ⟨v2, st, rfl, hv2, hst2⟩ := k_vs_cons hst1
  refine lv_dup2_11 C.1 C.2.1 hd (k_cat hv (by simp) (by simp)) (k_cat hv2 (by simp) (by simp)) ?_
  exact K kls _ kh rv kh' (by simpa using hl) hk4 p e s m args below meth c A as0 as es H locs ls _ C hA hp hh hP hD hS hL ⟨hv, hv2, hv, hv2, hst2⟩
theorem s_pop (hd : decode cc pc = .ok (.pop, 1)) (K : KS l D cI cS cM own mn cc nL ret R lg (pc + 1) d k) : KS l D cI cS cM own mn cc nL ret R lg pc (d + 1) (o_pop k) := by
  intro kls kst kh rv kh' hl hk
  obtain ⟨w, r, rfl, hk1⟩ := k_top_some hk
  obtain ⟨a, rfl, hk2⟩ := k_int_some hk1
  intro p e s m args below meth c A as0 as es H locs ls st C hA hp hh hP hD hS hL hst
  obtain ⟨v, st, rfl, hv, hst1⟩ := k_vs_cons hst
  refine lv_pop C.1 C.2.1 hd (k_cat hv (by simp) (by simp)) ?_
  exact K kls _ kh rv kh' (by simpa using hl) hk2 p e s m args below meth c A as0 as es H locs ls _ C hA hp hh hP hD hS hL hst1
theorem s_get {idx ci sl N : Nat} {Cn : String} {Tf : u_T} (hd : decode cc pc = .ok (.getfield idx, 3)) (hc : vwCl[ci]? = some (Cn, Tf, N)) (hsl : sl < N) (hin : ∀ w ∈ u_ws Cn Tf N, w ∈ k_tbl) (hlk : Cond.fieldLink own idx (Tf sl).1 (Tf sl).2.1 (Tf sl).2.2.1 ∈ k_tbl) (K : KS l D cI cS cM own mn cc nL ret R lg (pc + 3) (d + 1) k) : KS l D cI cS cM own mn cc nL ret R lg pc (d + 1) (o_get ci sl k) := by
  intro kls kst kh rv kh' hl hk
  obtain ⟨w, r, rfl, hk1⟩ := k_top_some hk
  obtain ⟨a, rfl, hk2⟩ := k_ref_some hk1
  obtain ⟨q, rfl, hk3⟩ := k_pl_some hk2
  obtain ⟨o, ho, hk4⟩ := k_obj_some hk3
  obtain ⟨hb, hk9⟩ := kb_some hk4
  have hoc : o.1 = ci := Nat.eq_of_beq_eq_true hb
  intro p e s m args below meth c A as0 as es H locs ls st C hA hp hh hP hD hS hL hst
  obtain ⟨v, st, rfl, ⟨a, ha, rfl⟩, hst1⟩ := k_vs_cons hst
  obtain ⟨c1, c2, c3, c4, c5, c6, c7, c8, c9, c10⟩ := id C
  have hq := kh_in hh ha
  obtain ⟨a', ev, h1, h2, h3⟩ := kh_at hh hq
  cases ha.symm.trans h1
  rw [ho] at h3
  obtain ⟨⟨q9, g1, g2⟩, vs, rfl, g4, g5⟩ := h3
  rw [hoc] at g1 h2
  cases hc.symm.trans g1
  have hsl2 : sl < o.2.length := by rw [← g2]; exact hsl
  obtain ⟨u, hu, hv⟩ := g5 sl _ (kget_in k_u hsl2)
  refine va_get (D := D) (ci := ci) (v := u) (C := Cn) (T := Tf) (N := N) c1 c2 c5 hin c4 c9 hP q (kz_get ha h2) hc sl hsl (c5 _ hlk) (fun _ h9 => h9) hu hd ?_
  exact K kls _ kh rv kh' (by simpa using hl) hk9 p e s m args below meth c A as0 as es H locs ls _ C hA hp hh hP hD hS hL ⟨hv, hst1⟩
/-- a field's new value -/
theorem k_fld_some {ci sl : Nat} {w v : KV} {h : KH} {kk : KH → KR} {r : List KV × KH} (hk : k_fld ci sl w v h kk = some r) : ∃ q fs, v = k_r (q + 1) ∧ k_cell h q = k_ob ci fs ∧ kk (kset h q (k_ob ci (kset fs sl w))) = some r := by
  obtain ⟨a, rfl, hk1⟩ := k_ref_some hk
  obtain ⟨q, rfl, hk2⟩ := k_pl_some hk1
  obtain ⟨o, ho, hk3⟩ := k_obj_some hk2
  obtain ⟨hb, hk9⟩ := kb_some hk3
  have hoc : o.1 = ci := Nat.eq_of_beq_eq_true hb
  subst hoc
  exact ⟨q, o.2, rfl, ho, hk9⟩
theorem s_put {idx ci sl N : Nat} {Cn : String} {Tf : u_T} {tyf : Nat → FieldType} (hd : decode cc pc = .ok (.putfield idx, 3)) (hc : vwCl[ci]? = some (Cn, Tf, N)) (hsl : sl < N) (hin : ∀ w ∈ u_ws Cn Tf N, w ∈ k_tbl) (hty : ∀ k, k < N → parseFieldDescriptor (Tf k).2.2.1 = some (tyf k)) (hnm : ∀ a, a < N → ∀ b, b < N → a ≠ b → (Tf a).2.1 ≠ (Tf b).2.1) (hlk : Cond.fieldLink own idx (Tf sl).1 (Tf sl).2.1 (Tf sl).2.2.1 ∈ k_tbl) (hfin : (Tf sl).2.2.2 = false)
    {kst : List KV} {kls : List KV} {kh : KH} {rv : List KV} {kh' : KH} {w v : KV} (hfit : ∀ (as : List Nat) (u : Value), k_v as w u → narrow (tyf sl) u = u ∧ fits (tyf sl) u = true) (hl : kst.length = d) (hk : k_fld ci sl w v kh (fun h => k kls kst h) = some (rv, kh')) (K : KS l D cI cS cM own mn cc nL ret R lg (pc + 3) d k) : KJ l D cI cS cM own mn cc nL ret R lg 0 0 rv kh' pc kls (w :: v :: kst) kh 0 0 := by
  obtain ⟨q, fs, rfl, ho, hk9⟩ := k_fld_some hk
  intro p e s m args below meth c A as0 as es H locs ls st C hA hp hh hP hD hS hL hst
  obtain ⟨u, st, rfl, hw, hst1⟩ := k_vs_cons hst
  obtain ⟨v, st, rfl, ⟨a, ha, rfl⟩, hst2⟩ := k_vs_cons hst1
  obtain ⟨c1, c2, c3, c4, c5, c6, c7, c8, c9, c10⟩ := id C
  have hq := kh_in hh ha
  obtain ⟨a', ev, h1, h2, h3⟩ := kh_at hh hq
  cases ha.symm.trans h1
  rw [ho] at h3
  obtain ⟨⟨q9, g1, g2⟩, vs, rfl, g4, g5⟩ := h3
  cases hc.symm.trans g1
  have hsl2 : sl < fs.length := by rw [← g2]; exact hsl
  obtain ⟨f1, f2⟩ := hfit as u hw
  refine va_put (D := D) (ci := ci) (v := u) (ty := tyf sl) (C := Cn) (T := Tf) (N := N) c1 c2 c5 hin tyf hty hnm c4 c9 hP hD hS q (kz_get ha h2) hc sl hsl (c5 _ hlk) (fun _ h9 => h9) hfin (hty sl hsl) f1 f2 (by rw [g4]; exact hsl2) hd (fun H1 locs1 hP1 hD1 hS1 => ?_)
  rw [kz_set ha] at hP1 hD1
  refine K kls _ _ rv kh' hl hk9 p e s m args below meth c A as0 as _ H1 locs1 ls _ C hA hp (kh_set hh ?_) hP1 hD1 hS1 hL hst2
  refine ⟨⟨(Cn, Tf, N), hc, ?_⟩, vs.set sl u, rfl, ?_, fun i kv hi => ?_⟩
  · show N = (kset fs sl w).length
    rw [kset_eq, List.length_set]
    exact g2
  · show (vs.set sl u).length = (kset fs sl w).length
    rw [kset_eq, List.length_set, List.length_set]
    exact g4
  · have hi : (kset fs sl w)[i]? = some kv := hi
    rw [kset_eq] at hi
    by_cases his : i = sl
    · subst his
      rw [List.getElem?_set_self hsl2] at hi
      cases hi
      exact ⟨u, by rw [List.getElem?_set_self (by rw [g4]; exact hsl2)], hw⟩
    · rw [List.getElem?_set_ne (Ne.symm his)] at hi
      obtain ⟨x, hx1, hx2⟩ := g5 i kv hi
      exact ⟨x, by rw [List.getElem?_set_ne (Ne.symm his)]; exact hx1, hx2⟩
theorem s_puti {idx ci sl N : Nat} {Cn : String} {Tf : u_T} {tyf : Nat → FieldType} (hd : decode cc pc = .ok (.putfield idx, 3)) (hc : vwCl[ci]? = some (Cn, Tf, N)) (hsl : sl < N) (hin : ∀ w ∈ u_ws Cn Tf N, w ∈ k_tbl) (hty : ∀ k, k < N → parseFieldDescriptor (Tf k).2.2.1 = some (tyf k)) (hnm : ∀ a, a < N → ∀ b, b < N → a ≠ b → (Tf a).2.1 ≠ (Tf b).2.1) (hlk : Cond.fieldLink own idx (Tf sl).1 (Tf sl).2.1 (Tf sl).2.2.1 ∈ k_tbl) (hfin : (Tf sl).2.2.2 = false) (ht : tyf sl = .int) (K : KS l D cI cS cM own mn cc nL ret R lg (pc + 3) d k) : KS l D cI cS cM own mn cc nL ret R lg pc (d + 2) (o_puti ci sl k) := by
  intro kls kst kh rv kh' hl hk
  obtain ⟨w, r, rfl, hk1⟩ := k_top_some hk
  obtain ⟨w2, r, rfl, hk2⟩ := k_top_some hk1
  obtain ⟨n, rfl, hk3⟩ := k_int_some hk2
  refine s_put hd hc hsl hin hty hnm hlk hfin (fun as u hu => ?_) (by simpa using hl) hk3 K
  rw [ht, hu.2]
  exact ⟨rfl, rfl⟩
theorem s_putz {idx ci sl N : Nat} {Cn : String} {Tf : u_T} {tyf : Nat → FieldType} (hd : decode cc pc = .ok (.putfield idx, 3)) (hc : vwCl[ci]? = some (Cn, Tf, N)) (hsl : sl < N) (hin : ∀ w ∈ u_ws Cn Tf N, w ∈ k_tbl) (hty : ∀ k, k < N → parseFieldDescriptor (Tf k).2.2.1 = some (tyf k)) (hnm : ∀ a, a < N → ∀ b, b < N → a ≠ b → (Tf a).2.1 ≠ (Tf b).2.1) (hlk : Cond.fieldLink own idx (Tf sl).1 (Tf sl).2.1 (Tf sl).2.2.1 ∈ k_tbl) (hfin : (Tf sl).2.2.2 = false) (ht : tyf sl = .boolean) (K : KS l D cI cS cM own mn cc nL ret R lg (pc + 3) d k) : KS l D cI cS cM own mn cc nL ret R lg pc (d + 2) (o_putz ci sl k) := by
  intro kls kst kh rv kh' hl hk
  obtain ⟨w, r, rfl, hk1⟩ := k_top_some hk
  obtain ⟨w2, r, rfl, hk2⟩ := k_top_some hk1
  obtain ⟨n, rfl, hk3⟩ := k_int_some hk2
  obtain ⟨hb, hk9⟩ := kb_some hk3
  refine s_put hd hc hsl hin hty hnm hlk hfin (fun as u hu => ?_) (by simpa using hl) hk9 K
  rw [ht, hu.2]
  rw [Nat.blt_eq] at hb
  rcases (show n = 0 ∨ n = 1 by omega) with rfl | rfl <;> decide
theorem s_putr {idx ci sl N : Nat} {Cn : String} {Tf : u_T} {tyf : Nat → FieldType} (hd : decode cc pc = .ok (.putfield idx, 3)) (hc : vwCl[ci]? = some (Cn, Tf, N)) (hsl : sl < N) (hin : ∀ w ∈ u_ws Cn Tf N, w ∈ k_tbl) (hty : ∀ k, k < N → parseFieldDescriptor (Tf k).2.2.1 = some (tyf k)) (hnm : ∀ a, a < N → ∀ b, b < N → a ≠ b → (Tf a).2.1 ≠ (Tf b).2.1) (hlk : Cond.fieldLink own idx (Tf sl).1 (Tf sl).2.1 (Tf sl).2.2.1 ∈ k_tbl) (hfin : (Tf sl).2.2.2 = false) (ht : ∃ z, tyf sl = .array z) (K : KS l D cI cS cM own mn cc nL ret R lg (pc + 3) d k) : KS l D cI cS cM own mn cc nL ret R lg pc (d + 2) (o_putr ci sl k) := by
  intro kls kst kh rv kh' hl hk
  obtain ⟨w, r, rfl, hk1⟩ := k_top_some hk
  obtain ⟨w2, r, rfl, hk2⟩ := k_top_some hk1
  obtain ⟨n, rfl, hk3⟩ := k_ref_some hk2
  obtain ⟨z, ht⟩ := ht
  refine s_put hd hc hsl hin hty hnm hlk hfin (fun as u hu => ?_) (by simpa using hl) hk3 K
  rw [ht]
  cases n with
  | zero => rw [show u = .null from hu]; exact ⟨rfl, rfl⟩
  | succ n => obtain ⟨a, -, rfl⟩ := hu; exact ⟨rfl, rfl⟩
theorem s_putl {idx ci sl N : Nat} {Cn : String} {Tf : u_T} {tyf : Nat → FieldType} (hd : decode cc pc = .ok (.putfield idx, 3)) (hc : vwCl[ci]? = some (Cn, Tf, N)) (hsl : sl < N) (hin : ∀ w ∈ u_ws Cn Tf N, w ∈ k_tbl) (hty : ∀ k, k < N → parseFieldDescriptor (Tf k).2.2.1 = some (tyf k)) (hnm : ∀ a, a < N → ∀ b, b < N → a ≠ b → (Tf a).2.1 ≠ (Tf b).2.1) (hlk : Cond.fieldLink own idx (Tf sl).1 (Tf sl).2.1 (Tf sl).2.2.1 ∈ k_tbl) (hfin : (Tf sl).2.2.2 = false) (ht : tyf sl = .long) (K : KS l D cI cS cM own mn cc nL ret R lg (pc + 3) d k) : KS l D cI cS cM own mn cc nL ret R lg pc (d + 2) (o_putl ci sl k) := by
  intro kls kst kh rv kh' hl hk
  obtain ⟨w, r, rfl, hk1⟩ := k_top_some hk
  obtain ⟨w2, r, rfl, hk2⟩ := k_top_some hk1
  obtain ⟨n, rfl, hk3⟩ := k_lng_some hk2
  refine s_put hd hc hsl hin hty hnm hlk hfin (fun as u hu => ?_) (by simpa using hl) hk3 K
  rw [ht, hu.2]
  exact ⟨rfl, rfl⟩
end KO3
