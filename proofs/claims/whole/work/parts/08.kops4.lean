/-! ===== arrays ===== -/
theorem vm_asgn (vm : Vm) (c : ClassId) : vm.assignable c c = true := by
  show vm.assignableAux (255 + 1) c c = true
  rw [Vm.assignableAux]
  simp only [beq_self_eq_true, Bool.true_or]
theorem k_fits_some {t c : Nat} {x : KCell} {k : KR} {r : List KV × KH} (h : k_fits t c x k = some r) : k = some r ∧ ((t = 0 ∧ ∃ fs, x = k_ob c fs) ∨ (t = 1 ∧ ((∃ y, x = .inr (.inl y)) ∨ ∃ y, x = .inr (.inr (.inl y))))) := by
  rcases x with o | x | x | x
  · obtain ⟨h1, h2⟩ := kb_some h
    obtain ⟨h3, h4⟩ := kb_some h2
    have e1 : t = 0 := Nat.eq_of_beq_eq_true h1
    have e2 : o.1 = c := Nat.eq_of_beq_eq_true h3
    subst e2
    exact ⟨h4, Or.inl ⟨e1, o.2, rfl⟩⟩
  · obtain ⟨h1, h2⟩ := kb_some h
    exact ⟨h2, Or.inr ⟨Nat.eq_of_beq_eq_true h1, Or.inl ⟨x, rfl⟩⟩⟩
  · obtain ⟨h1, h2⟩ := kb_some h
    exact ⟨h2, Or.inr ⟨Nat.eq_of_beq_eq_true h1, Or.inr ⟨x, rfl⟩⟩⟩
  · cases h
section KO4
variable {l : Launch} {D : va_G} {cI cS cM : ClassId} {own mn : String} {cc : ByteArray} {nL : Nat} {ret : Option FieldType} {R : Room} {lg : Bool} {pc d : Nat} {k t : KC}
theorem s_iald (hd : decode cc pc = .ok (.iaload, 1)) (K : KS l D cI cS cM own mn cc nL ret R lg (pc + 1) (d + 1) k) : KS l D cI cS cM own mn cc nL ret R lg pc (d + 2) (o_iald k) := by
  intro kls kst kh rv kh' hl hk
  obtain ⟨w, r, rfl, hk1⟩ := k_top_some hk
  obtain ⟨w2, r, rfl, hk2⟩ := k_top_some hk1
  obtain ⟨i, rfl, hk3⟩ := k_int_some hk2
  obtain ⟨a, rfl, hk4⟩ := k_ref_some hk3
  obtain ⟨q, rfl, hk5⟩ := k_pl_some hk4
  intro p e s m args below meth c A as0 as es H locs ls st C hA hp hh hP hD hS hL hst
  obtain ⟨u, st, rfl, ⟨hi, rfl⟩, hst1⟩ := k_vs_cons hst
  obtain ⟨v, st, rfl, ⟨a, ha, rfl⟩, hst2⟩ := k_vs_cons hst1
  obtain ⟨c1, c2, c3, c4, c5, c6, c7, c8, c9, c10⟩ := id C
  obtain ⟨a', ev, h1, h2, h3⟩ := kh_at hh (kh_in hh ha)
  cases ha.symm.trans h1
  generalize k_cell kh q = ce at hk5 h3
  rcases ce with o | x | x | x
  · cases hk5
  · obtain ⟨n, hn, hk6⟩ := k_kn_some hk5
    obtain ⟨g1, g2, f, rfl, g4⟩ := h3
    have hx := kget_some hn (by omega)
    have hlt : i < x.1 := by rw [← g1]; exact (List.getElem?_eq_some_iff.mp hx).1
    obtain ⟨g5, g6⟩ := g4 i n hx
    refine va_iald c1 c2 c9 hP q 0 (kz_get ha h2) rfl (kn_in hlt g2) hd ?_
    rw [kn_cl (by omega), g6]
    exact K kls _ kh rv kh' (by simpa using hl) hk6 p e s m args below meth c A as0 as es H locs ls _ C hA hp hh hP hD hS hL ⟨⟨g5, rfl⟩, hst2⟩
  · obtain ⟨hb, hk6⟩ := kb_some hk5
    obtain ⟨n, hn, hk7⟩ := k_kn_some hk6
    obtain ⟨g2, f, rfl, g4⟩ := h3
    have hlt : i < x.1 := by rw [Nat.blt_eq] at hb; exact hb
    obtain ⟨g5, g6⟩ := g4 i n hlt hn
    refine va_iald c1 c2 c9 hP q 0 (kz_get ha h2) rfl (kn_in hlt g2) hd ?_
    rw [kn_cl (by omega), g6]
    exact K kls _ kh rv kh' (by simpa using hl) hk7 p e s m args below meth c A as0 as es H locs ls _ C hA hp hh hP hD hS hL ⟨⟨g5, rfl⟩, hst2⟩
  · cases hk5
theorem s_iast (hd : decode cc pc = .ok (.iastore, 1)) (K : KS l D cI cS cM own mn cc nL ret R lg (pc + 1) d k) : KS l D cI cS cM own mn cc nL ret R lg pc (d + 3) (o_iast k) := by
  intro kls kst kh rv kh' hl hk
  obtain ⟨w, r, rfl, hk1⟩ := k_top_some hk
  obtain ⟨w2, r, rfl, hk2⟩ := k_top_some hk1
  obtain ⟨w3, r, rfl, hk3⟩ := k_top_some hk2
  obtain ⟨x, rfl, hk4⟩ := k_int_some hk3
  obtain ⟨i, rfl, hk5⟩ := k_int_some hk4
  obtain ⟨a, rfl, hk6⟩ := k_ref_some hk5
  obtain ⟨q, rfl, hk7⟩ := k_pl_some hk6
  intro p e s m args below meth c A as0 as es H locs ls st C hA hp hh hP hD hS hL hst
  obtain ⟨z, st, rfl, ⟨hx, rfl⟩, hst1⟩ := k_vs_cons hst
  obtain ⟨u, st, rfl, ⟨hi, rfl⟩, hst2⟩ := k_vs_cons hst1
  obtain ⟨v, st, rfl, ⟨a, ha, rfl⟩, hst3⟩ := k_vs_cons hst2
  obtain ⟨c1, c2, c3, c4, c5, c6, c7, c8, c9, c10⟩ := id C
  obtain ⟨a', ev, h1, h2, h3⟩ := kh_at hh (kh_in hh ha)
  cases ha.symm.trans h1
  generalize k_cell kh q = ce at hk7 h3
  rcases ce with o | y | y | y
  · cases hk7
  · obtain ⟨hb, hk8⟩ := kb_some hk7
    obtain ⟨g1, g2, f, rfl, g4⟩ := h3
    have hlt : i < y.1 := by rw [Nat.blt_eq] at hb; exact hb
    refine va_iast c1 c2 c9 hP hD hS q 0 (kz_get ha h2) rfl (kn_in hlt g2) hd (fun H1 locs1 hP1 hD1 hS1 => ?_)
    rw [kn_cl (by omega), kz_set ha] at hP1 hD1
    refine K kls _ _ rv kh' (by simpa using hl) hk8 p e s m args below meth c A as0 as _ H1 locs1 ls _ C hA hp (kh_set hh ?_) hP1 hD1 hS1 hL hst3
    refine ⟨by show (kset y.2 i (x + 1)).length = y.1; rw [kset_eq, List.length_set]; exact g1, g2, _, rfl, fun j n hj => ?_⟩
    have hj : (kset y.2 i (x + 1))[j]? = some (n + 1) := hj
    rw [kset_eq] at hj
    by_cases hji : j = i
    · subst hji
      rw [List.getElem?_set_self (by rw [g1]; exact hlt)] at hj
      have : x = n := by have := Option.some.inj hj; omega
      subst this
      exact ⟨hx, by simp [upd]⟩
    · rw [List.getElem?_set_ne (Ne.symm hji)] at hj
      obtain ⟨g5, g6⟩ := g4 j n hj
      exact ⟨g5, by simp [upd, hji, g6]⟩
  · obtain ⟨hb, hk8⟩ := kb_some hk7
    obtain ⟨g2, f, rfl, g4⟩ := h3
    have hlt : i < y.1 := by rw [Nat.blt_eq] at hb; exact hb
    refine va_iast c1 c2 c9 hP hD hS q 0 (kz_get ha h2) rfl (kn_in hlt g2) hd (fun H1 locs1 hP1 hD1 hS1 => ?_)
    rw [kn_cl (by omega), kz_set ha] at hP1 hD1
    refine K kls _ _ rv kh' (by simpa using hl) hk8 p e s m args below meth c A as0 as _ H1 locs1 ls _ C hA hp (kh_set hh ?_) hP1 hD1 hS1 hL hst3
    refine ⟨g2, _, rfl, fun j n hj0 hj => ?_⟩
    have hj : (Bool.rec (y.2 j) (x + 1) (Nat.beq j i) : Nat) = n + 1 := hj
    by_cases hji : j = i
    · subst hji
      rw [kb_t (Nat.beq_refl j)] at hj
      have : x = n := by omega
      subst this
      exact ⟨hx, by simp [upd]⟩
    · rw [kb_f (Bool.eq_false_iff.mpr fun z => hji (Nat.eq_of_beq_eq_true z))] at hj
      obtain ⟨g5, g6⟩ := g4 j n hj0 hj
      exact ⟨g5, by simp [upd, hji, g6]⟩
  · cases hk7
theorem k_rty (t : Nat) : ∃ (t0 : Nat) (ty : FieldType), (k_ty cI cS cM)[t0]? = some ((if t = 0 then cS else cM), ty) ∧ ty.isReference = true := by
  by_cases h : t = 0
  · exact ⟨1, .object "RootedClasses$Setting", by rw [if_pos h]; rfl, rfl⟩
  · exact ⟨2, .array .int, by rw [if_neg h]; rfl, rfl⟩
theorem s_aald (hd : decode cc pc = .ok (.aaload, 1)) (K : KS l D cI cS cM own mn cc nL ret R lg (pc + 1) (d + 1) k) : KS l D cI cS cM own mn cc nL ret R lg pc (d + 2) (o_aald k) := by
  intro kls kst kh rv kh' hl hk
  obtain ⟨w, r, rfl, hk1⟩ := k_top_some hk
  obtain ⟨w2, r, rfl, hk2⟩ := k_top_some hk1
  obtain ⟨i, rfl, hk3⟩ := k_int_some hk2
  obtain ⟨a, rfl, hk4⟩ := k_ref_some hk3
  obtain ⟨q, rfl, hk5⟩ := k_pl_some hk4
  intro p e s m args below meth c A as0 as es H locs ls st C hA hp hh hP hD hS hL hst
  obtain ⟨u, st, rfl, ⟨hi, rfl⟩, hst1⟩ := k_vs_cons hst
  obtain ⟨v, st, rfl, ⟨a, ha, rfl⟩, hst2⟩ := k_vs_cons hst1
  obtain ⟨c1, c2, c3, c4, c5, c6, c7, c8, c9, c10⟩ := id C
  obtain ⟨a', ev, h1, h2, h3⟩ := kh_at hh (kh_in hh ha)
  cases ha.symm.trans h1
  generalize k_cell kh q = ce at hk5 h3
  rcases ce with o | x | x | x
  · cases hk5
  · cases hk5
  · cases hk5
  · obtain ⟨n, hn, hk6⟩ := k_kn_some hk5
    obtain ⟨g1, g2, f, rfl, g4⟩ := h3
    have hx := kget_some hn (by omega)
    have hlt : i < x.2.1 := by rw [← g1]; exact (List.getElem?_eq_some_iff.mp hx).1
    have g5 := g4 i n hx
    obtain ⟨t0, ty, ht0, hty⟩ := k_rty (cI := cI) (cS := cS) (cM := cM) x.1
    have hin := kn_in hlt g2
    have hcl : (nI i).toNatClampNeg = i := kn_cl (by omega)
    refine W.aald (v := va_rf (f i)) (ty := ty) c1 c2 (hP q _ (kz_get ha h2)) ((c9.2 t0 _ ht0).1 x.2.1 (fun j => va_rf (f j))) hty (fun z => by cases z) (by show ¬ (nI i < 0 ∨ (arrV _ _ _).slots.size ≤ _); rw [arrV_size]; exact hin) (by show (arrV _ _ _).slots[_]? = _; rw [hcl, arrV_read _ _ hlt]) rfl rfl hd ?_
    exact K kls _ kh rv kh' (by simpa using hl) hk6 p e s m args below meth c A as0 as es H locs ls _ C hA hp hh hP hD hS hL ⟨g5, hst2⟩
/-- an entry of an array of references: its new value -/
theorem k_rfset {as : List Nat} {x : Nat × Nat × List Nat} {i wp av : Nat} {f : Nat → Option Nat} (g1 : x.2.2.length = x.2.1) (hlt : i < x.2.1) (g4 : ∀ i n : Nat, x.2.2[i]? = some (n + 1) → k_v as (k_r n) (va_rf (f i))) (hav : as[wp]? = some av) (j n : Nat) (hj : (kset x.2.2 i (Nat.succ (Nat.succ wp)))[j]? = some (n + 1)) : k_v as (k_r n) (va_rf (va_up f i (some av) j)) := by
  rw [kset_eq] at hj
  by_cases hji : j = i
  · subst hji
    rw [List.getElem?_set_self (by rw [g1]; exact hlt)] at hj
    have : n = wp + 1 := by have := Option.some.inj hj; omega
    subst this
    rw [va_up_self]
    exact ⟨av, hav, rfl⟩
  · rw [List.getElem?_set_ne (Ne.symm hji)] at hj
    rw [va_up_ne _ _ hji]
    exact g4 j n hj
theorem s_aast (hd : decode cc pc = .ok (.aastore, 1)) (K : KS l D cI cS cM own mn cc nL ret R lg (pc + 1) d k) : KS l D cI cS cM own mn cc nL ret R lg pc (d + 3) (o_aast 5 k) := by
  intro kls kst kh rv kh' hl hk
  obtain ⟨w, r, rfl, hk1⟩ := k_top_some hk
  obtain ⟨w2, r, rfl, hk2⟩ := k_top_some hk1
  obtain ⟨w3, r, rfl, hk3⟩ := k_top_some hk2
  obtain ⟨x, rfl, hk4⟩ := k_ref_some hk3
  obtain ⟨wp, rfl, hk4⟩ := k_pl_some hk4
  obtain ⟨i, rfl, hk5⟩ := k_int_some hk4
  obtain ⟨a, rfl, hk6⟩ := k_ref_some hk5
  obtain ⟨q, rfl, hk7⟩ := k_pl_some hk6
  intro p e s m args below meth c A as0 as es H locs ls st C hA hp hh hP hD hS hL hst
  obtain ⟨z, st, rfl, ⟨av, hav, rfl⟩, hst1⟩ := k_vs_cons hst
  obtain ⟨u, st, rfl, ⟨hi, rfl⟩, hst2⟩ := k_vs_cons hst1
  obtain ⟨v, st, rfl, ⟨a, ha, rfl⟩, hst3⟩ := k_vs_cons hst2
  obtain ⟨c1, c2, c3, c4, c5, c6, c7, c8, c9, c10⟩ := id C
  obtain ⟨a', ev, h1, h2, h3⟩ := kh_at hh (kh_in hh ha)
  cases ha.symm.trans h1
  obtain ⟨av', ew, hw1, hw2, hw3⟩ := kh_at hh (kh_in hh hav)
  cases hav.symm.trans hw1
  generalize k_cell kh q = ce at hk7 h3
  rcases ce with o | x | x | x
  · cases hk7
  · cases hk7
  · cases hk7
  obtain ⟨hk8, hfit⟩ := k_fits_some hk7
  obtain ⟨hb, hk9⟩ := kb_some hk8
  obtain ⟨g1, g2, f, rfl, g4⟩ := h3
  have hlt : i < x.2.1 := by rw [Nat.blt_eq] at hb; exact hb
  have hcl : (nI i).toNatClampNeg = i := kn_cl (by omega)
  rcases hfit with ⟨ht, fs, hfs⟩ | ⟨ht, hfs⟩
  · rw [hfs] at hw3
    obtain ⟨hz, vs, rfl, -, -⟩ := hw3
    rw [if_pos ht] at h2
    refine va_astq c1 c2 c9 hP hD hS q 1 wp 5 (r := (RX5, TX5, 3)) (kz_get ha h2) rfl (kz_get hav hw2) rfl (kn_in hlt g2) hd (fun H1 locs1 hP1 hD1 hS1 => ?_)
    rw [hcl, kz_set ha] at hP1 hD1
    refine K kls _ _ rv kh' (by simpa using hl) hk9 p e s m args below meth c A as0 as _ H1 locs1 ls _ C hA hp (kh_set hh ?_) hP1 hD1 hS1 hL hst3
    exact ⟨by show (kset x.2.2 i _).length = x.2.1; rw [kset_eq, List.length_set]; exact g1, g2, _, by rw [if_pos ht], k_rfset g1 hlt g4 hav⟩
  · rw [if_neg (by omega)] at h2
    have hcv : ∃ cv : Cell, H[av]? = some cv ∧ cv.cls = cI ∧ ∀ z, cv.vm ≠ .statics z := by
      have hz := hP wp _ (kz_get hav hw2)
      rcases hfs with ⟨y, hy⟩ | ⟨y, hy⟩
      · rw [hy] at hw3
        obtain ⟨-, -, f9, rfl, -⟩ := hw3
        exact ⟨_, hz, rfl, fun z h => by cases h⟩
      · rw [hy] at hw3
        obtain ⟨-, f9, rfl, -⟩ := hw3
        exact ⟨_, hz, rfl, fun z h => by cases h⟩
    obtain ⟨cv, hcv1, hcv2, hcv3⟩ := hcv
    obtain ⟨⟨kA, kI, m1, m2, m3⟩, -⟩ := c10
    refine W.aast c1 c2 (hP q _ (kz_get ha h2)) (fun q h => by cases h) (fun h => by cases h) m1 m2 rfl m3 ⟨?_, by show _ < (arrV _ _ _).slots.size; rw [arrV_size, hcl]; exact hlt⟩ hcv1 hcv3 (by rw [hcv2]; exact m3) (by rw [hcv2]; exact vm_asgn _ _) rfl rfl hd fun H1 e1 z1 oq => ?_
    · rw [kn_lt0 hi]; omega
    have hD1 := hD.set (e := .inl (cM, x.2.1, .inr (.inr (.inr (.inr (va_up f i (some av))))))) (kz_get ha h2)
    have hP1 := hP.set (e := .inl (cM, x.2.1, .inr (.inr (.inr (.inr (va_up f i (some av))))))) hD (kz_get ha h2) (H1 := H1) (by
      show H1[a]? = some (vp_cell _ _)
      rw [e1]
      show some ((vp_cell cM (x.2.1, .inr (.inr (.inr (.inr f))))).setSlot _ _) = _
      rw [vp_cell_q, vp_cell_q, arrV_store, hcl]
      congr 2
      funext j
      by_cases hj : j = i
      · subst hj
        simp [updV, va_up, va_rf]
      · simp [updV, va_up, hj]) oq
    rw [kz_set ha] at hP1 hD1
    refine K kls _ _ rv kh' (by simpa using hl) hk9 p e s m args below meth c A as0 as _ H1 _ ls _ C hA hp (kh_set hh ?_) hP1 hD1 (hS.put z1 oq (hD.2 q _ (kz_get ha h2))) hL hst3
    exact ⟨by show (kset x.2.2 i _).length = x.2.1; rw [kset_eq, List.length_set]; exact g1, g2, _, by rw [if_neg (by omega)], k_rfset g1 hlt g4 hav⟩
theorem s_alen (hd : decode cc pc = .ok (.arraylength, 1)) (K : KS l D cI cS cM own mn cc nL ret R lg (pc + 1) (d + 1) k) : KS l D cI cS cM own mn cc nL ret R lg pc (d + 1) (o_alen k) := by
  intro kls kst kh rv kh' hl hk
  obtain ⟨w, r, rfl, hk1⟩ := k_top_some hk
  obtain ⟨a, rfl, hk4⟩ := k_ref_some hk1
  obtain ⟨q, rfl, hk5⟩ := k_pl_some hk4
  intro p e s m args below meth c A as0 as es H locs ls st C hA hp hh hP hD hS hL hst
  obtain ⟨v, st, rfl, ⟨a, ha, rfl⟩, hst2⟩ := k_vs_cons hst
  obtain ⟨c1, c2, c3, c4, c5, c6, c7, c8, c9, c10⟩ := id C
  obtain ⟨a', ev, h1, h2, h3⟩ := kh_at hh (kh_in hh ha)
  cases ha.symm.trans h1
  generalize k_cell kh q = ce at hk5 h3
  rcases ce with o | x | x | x
  · cases hk5
  · obtain ⟨g1, g2, f, rfl, g4⟩ := h3
    refine va_alen (v := nI x.1) c1 c2 c9 hP q 0 (kz_get ha h2) (ty := .int) rfl rfl hd ?_
    exact K kls _ kh rv kh' (by simpa using hl) hk5 p e s m args below meth c A as0 as es H locs ls _ C hA hp hh hP hD hS hL ⟨⟨by omega, rfl⟩, hst2⟩
  · obtain ⟨g2, f, rfl, g4⟩ := h3
    refine va_alen (v := nI x.1) c1 c2 c9 hP q 0 (kz_get ha h2) (ty := .int) rfl rfl hd ?_
    exact K kls _ kh rv kh' (by simpa using hl) hk5 p e s m args below meth c A as0 as es H locs ls _ C hA hp hh hP hD hS hL ⟨⟨by omega, rfl⟩, hst2⟩
  · cases hk5
end KO4
