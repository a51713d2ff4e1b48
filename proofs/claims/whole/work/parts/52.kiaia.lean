/-! ===== an entry of one array into another, known or not ===== -/
noncomputable def o_iaia (k : KC) : KC := fun ls st h => k_top st fun i2 st => k_top st fun r2 st => k_top st fun i1 st => k_top st fun r1 st => k_int i2 fun i2 => k_ref r2 fun r2 => k_int i1 fun i1 => k_ref r1 fun r1 => k_pl r2 fun q2 => k_pl r1 fun q1 =>
  Sum.rec (fun _ => none) (fun u => Sum.rec (fun _ => none) (fun u => Sum.rec (fun x => Sum.rec (fun _ => none) (fun u => Sum.rec (fun _ => none) (fun u => Sum.rec (fun y => Bool.rec none (Bool.rec none (k ls st (kset h q1 (k_af y.1 (uf y.2 i1 (x.2 i2))))) (Nat.blt i1 y.1)) (Nat.blt i2 x.1)) (fun _ => none) u) u) (k_cell h q1)) (fun _ => none) u) u) (k_cell h q2)
section KO9
variable {l : Launch} {D : va_G} {cI cS cM : ClassId} {own mn : String} {cc : ByteArray} {nL : Nat} {ret : Option FieldType} {R : Room} {lg : Bool} {pc d : Nat} {k t : KC}
theorem s_iaia (hd1 : decode cc pc = .ok (.iaload, 1)) (hd2 : decode cc (pc + 1) = .ok (.iastore, 1)) (K : KS l D cI cS cM own mn cc nL ret R lg (pc + 2) d k) : KS l D cI cS cM own mn cc nL ret R lg pc (d + 4) (o_iaia k) := by
  intro kls kst kh rv kh' hl hk
  obtain ⟨w, r, rfl, hk1⟩ := k_top_some hk
  obtain ⟨w2, r, rfl, hk2⟩ := k_top_some hk1
  obtain ⟨w3, r, rfl, hk3⟩ := k_top_some hk2
  obtain ⟨w4, r, rfl, hk4⟩ := k_top_some hk3
  obtain ⟨i2, rfl, hk5⟩ := k_int_some hk4
  obtain ⟨r2, rfl, hk6⟩ := k_ref_some hk5
  obtain ⟨i1, rfl, hk7⟩ := k_int_some hk6
  obtain ⟨r1, rfl, hk8⟩ := k_ref_some hk7
  obtain ⟨q2, rfl, hk9⟩ := k_pl_some hk8
  obtain ⟨q1, rfl, hk10⟩ := k_pl_some hk9
  intro p e s m args below meth c A as0 as es H locs ls st C hA hp hh hP hD hS hL hst
  obtain ⟨z, st, rfl, ⟨hi2, rfl⟩, hst1⟩ := k_vs_cons hst
  obtain ⟨u, st, rfl, ⟨a2, ha2, rfl⟩, hst2⟩ := k_vs_cons hst1
  obtain ⟨v, st, rfl, ⟨hi1, rfl⟩, hst3⟩ := k_vs_cons hst2
  obtain ⟨v, st, rfl, ⟨a1, ha1, rfl⟩, hst4⟩ := k_vs_cons hst3
  obtain ⟨c1, c2, c3, c4, c5, c6, c7, c8, c9, c10⟩ := id C
  obtain ⟨a', ev, h1, h2, h3⟩ := kh_at hh (kh_in hh ha2)
  cases ha2.symm.trans h1
  obtain ⟨a'', ev', h1', h2', h3'⟩ := kh_at hh (kh_in hh ha1)
  cases ha1.symm.trans h1'
  generalize k_cell kh q2 = ce at hk10 h3
  rcases ce with o | x | x | x
  · cases hk10
  · cases hk10
  · generalize k_cell kh q1 = ce' at hk10 h3'
    rcases ce' with o | y | y | y
    · cases hk10
    · cases hk10
    · obtain ⟨hb, hk11⟩ := kb_some hk10
      obtain ⟨hb', hk12⟩ := kb_some hk11
      obtain ⟨g2, f, rfl, g4⟩ := h3
      obtain ⟨g2', f', rfl, g4'⟩ := h3'
      have hlt : i2 < x.1 := by rw [Nat.blt_eq] at hb; exact hb
      have hlt' : i1 < y.1 := by rw [Nat.blt_eq] at hb'; exact hb'
      refine va_iald c1 c2 c9 hP q2 0 (kz_get ha2 h2) rfl (kn_in hlt g2) hd1 ?_
      rw [kn_cl (by omega)]
      refine va_iast c1 c2 c9 hP hD hS q1 0 (kz_get ha1 h2') rfl (kn_in hlt' g2') hd2 (fun H1 locs1 hP1 hD1 hS1 => ?_)
      rw [kn_cl (by omega), kz_set ha1] at hP1 hD1
      refine K kls _ _ rv kh' (by simpa using hl) hk12 p e s m args below meth c A as0 as _ H1 locs1 ls _ C hA hp (kh_set hh ?_) hP1 hD1 hS1 hL hst4
      refine ⟨g2', _, rfl, fun j n hj0 hj => ?_⟩
      have hj : (Bool.rec (y.2 j) (x.2 i2) (Nat.beq j i1) : Nat) = n + 1 := hj
      by_cases hji : j = i1
      · subst hji
        rw [kb_t (Nat.beq_refl j)] at hj
        obtain ⟨g5, g6⟩ := g4 i2 n hlt hj
        exact ⟨g5, by simp [upd, g6]⟩
      · rw [kb_f (Bool.eq_false_iff.mpr fun z => hji (Nat.eq_of_beq_eq_true z))] at hj
        obtain ⟨g5, g6⟩ := g4' j n hj0 hj
        exact ⟨g5, by simp [upd, hji, g6]⟩
    · cases hk10
  · cases hk10
end KO9
/-- beside P: both packed with the same width -/
theorem pk_bd (w A i : Nat) : pk w A i < 2 ^ w := Nat.mod_lt _ (Nat.two_pow_pos w)
theorem e_iaia {β : Type} {r : β} {S : List KV × KH} {k : KC} {ls st : List KV} {hh : KH} {q2 q1 i2 i1 m2 m1 w X Z : Nat} {p : Nat → Option β} {hf : Nat → KH} (h : pq (Nat.blt i2 m2) (pq (Nat.blt i1 m1) (kseq (ua w X i1 (pk w Z i2)) p)) = some r) (hc2 : k_cell hh q2 = k_af m2 (pk w Z)) (hc1 : k_cell hh q1 = k_af m1 (pk w X)) (he : ∀ Y, kset hh q1 (k_af m1 (pk w Y)) = hf Y) (hk : ∀ Y, p Y = some r → k ls st (hf Y) = some S) : o_iaia k ls (k_i i2 :: k_r (Nat.succ q2) :: k_i i1 :: k_r (Nat.succ q1) :: st) hh = some S := by
  show Sum.rec (fun _ => none) (fun u => Sum.rec (fun _ => none) (fun u => Sum.rec (fun x => Sum.rec (fun _ => none) (fun u => Sum.rec (fun _ => none) (fun u => Sum.rec (fun y => Bool.rec none (Bool.rec none (k ls st (kset hh q1 (k_af y.1 (uf y.2 i1 (x.2 i2))))) (Nat.blt i1 y.1)) (Nat.blt i2 x.1)) (fun _ => none) u) u) (k_cell hh q1)) (fun _ => none) u) u) (k_cell hh q2) = some S
  rw [hc2, hc1]
  obtain ⟨h1, h⟩ := pq_some h
  obtain ⟨h2, h⟩ := pq_some h
  show (Bool.rec none (Bool.rec none (k ls st (kset hh q1 (k_af m1 (uf (pk w X) i1 (pk w Z i2))))) (Nat.blt i1 m1)) (Nat.blt i2 m2) : KR) = some S
  rw [h1, h2, ua_eq (Nat.ble_eq_true_of_le (pk_bd w Z i2)), he]
  exact hk _ (ps_some h)
