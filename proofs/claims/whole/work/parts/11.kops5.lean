/-! ===== switches, longs, copies ===== -/
/-- the first n entries of one list over those of another -/
noncomputable def kcp (n : Nat) : List Nat → List Nat → List Nat := Nat.rec (fun _ y => y) (fun _ ih x y => List.rec y (fun a x _ => List.rec [] (fun _ y _ => a :: ih x y) y) x) n
theorem kcp_len : ∀ (n : Nat) (x y : List Nat), (kcp n x y).length = y.length
  | 0, _, _ => rfl
  | n + 1, [], _ => rfl
  | n + 1, a :: x, [] => rfl
  | n + 1, a :: x, b :: y => by
    show (kcp n x y).length + 1 = y.length + 1
    rw [kcp_len n x y]
theorem kcp_at : ∀ (n : Nat) (x y : List Nat), n ≤ x.length → n ≤ y.length → ∀ i, (kcp n x y)[i]? = if i < n then x[i]? else y[i]?
  | 0, _, y, _, _, i => by
    show y[i]? = _
    simp
  | n + 1, [], _, h, _, _ => by simp at h
  | n + 1, a :: x, [], _, h, _ => by simp at h
  | n + 1, a :: x, b :: y, h1, h2, i => by
    have e : kcp (n + 1) (a :: x) (b :: y) = a :: kcp n x y := rfl
    rw [e]
    cases i with
    | zero => simp
    | succ i =>
      have := kcp_at n x y (by simpa using h1) (by simpa using h2) i
      simpa using this
/-- System.arraycopy of int arrays, from 0 to 0 -/
noncomputable def o_copy (k : KC) : KC := fun ls st h => k_top st fun n st => k_top st fun dp st => k_top st fun d st => k_top st fun sp st => k_top st fun s st => k_int n fun n => k_int dp fun dp => k_ref d fun d => k_int sp fun sp => k_ref s fun s => k_pl d fun d => k_pl s fun s => Nat.rec (Nat.rec (Sum.rec (fun _ => none) (fun q => Sum.rec (fun x => Sum.rec (fun _ => none) (fun q => Sum.rec (fun y => Bool.rec none (Bool.rec none (k ls st (kset h d (k_ar y.1 (kcp n x.2 y.2)))) (Nat.ble n y.1)) (Nat.ble n x.1)) (fun _ => none) q) (k_cell h d)) (fun _ => none) q) (k_cell h s)) (fun _ _ => none) sp) (fun _ _ => none) dp
def n_xor (a b : Nat) : Nat := Nat.xor a b
theorem kn_xor (a b : Nat) : nI (n_xor a b) = nI a ^^^ nI b := by
  apply kn_ext
  rw [Int32.toBitVec_xor, kn_bv, kn_bv, kn_bv]
  apply BitVec.eq_of_toNat_eq
  simp only [BitVec.toNat_xor, BitVec.toNat_ofNat]
  exact Nat.xor_mod_two_pow
section KO7
variable {l : Launch} {D : va_G} {cI cS cM : ClassId} {own mn : String} {cc : ByteArray} {nL : Nat} {ret : Option FieldType} {R : Room} {lg : Bool} {pc d : Nat} {k t : KC}
theorem s_ixor (hd : decode cc pc = .ok (.ixor, 1)) (K : KS l D cI cS cM own mn cc nL ret R lg (pc + 1) (d + 1) k) : KS l D cI cS cM own mn cc nL ret R lg pc (d + 2) (o_bin n_xor k) :=
  s_bin (fun _ _ _ _ _ _ _ _ _ _ _ _ _ _ _ x y hx hb h1 h2 => ⟨Nat.xor_lt_two_pow (n := 32) h1 h2, fun h => lv_ixor hx hb hd (by rw [← kn_xor]; exact h)⟩) K
theorem s_switch {dflt hi : Int} {offs : Array Int} {len tgd : Nat} {ts : List KC} {dk : KC} (hd : decode cc pc = .ok (.tableswitch dflt 0 hi offs, len)) (hhi : hi + 1 = (ts.length : Int)) (hlen : ts.length < 2147483648) (hdt : (pc : Int) + dflt = (tgd : Int)) (Kd : KS l D cI cS cM own mn cc nL ret R lg tgd d dk) (hts : ∀ (i : Nat) (k : KC), ts[i]? = some k → ∃ (off : Int) (tgt : Nat), offs[i]? = some off ∧ (pc : Int) + off = (tgt : Int) ∧ KS l D cI cS cM own mn cc nL ret R lg tgt d k) : KS l D cI cS cM own mn cc nL ret R lg pc (d + 1) (o_switch ts dk) := by
  intro kls kst kh rv kh' hl hk
  obtain ⟨w, r, rfl, hk1⟩ := k_top_some hk
  obtain ⟨n, rfl, hk2⟩ := k_int_some hk1
  have hr : r.length = d := by simpa using hl
  intro p e s m args below meth c A as0 as es H locs ls st C hA hp hh hP hD hS hL hst
  obtain ⟨v, st, rfl, ⟨hn, rfl⟩, hst1⟩ := k_vs_cons hst
  by_cases hlt : n < ts.length
  · have hti : (nI n).toInt = (n : Int) := by rw [kn_int hn, if_pos (by omega)]
    have hx := kget_in dk hlt
    obtain ⟨off, tgt, h1, h2, h3⟩ := hts n _ hx
    refine lv_tableIn C.1 C.2.1 hd (by rw [hti]; omega) (by rw [hti]; omega) (off := off) (by rw [hti]; simpa using h1) h2 ?_
    exact h3 kls r kh rv kh' hr hk2 p e s m args below meth c A as0 as es H locs ls st C hA hp hh hP hD hS hL hst1
  · have hx : kget dk ts n = dk := by rw [kget_eq, List.getD_eq_getElem?_getD, List.getElem?_eq_none (by omega)]; rfl
    rw [hx] at hk2
    refine lv_tableOut C.1 C.2.1 hd ?_ hdt ?_
    · rw [kn_int hn]
      split
      · right; omega
      · left; omega
    exact Kd kls r kh rv kh' hr hk2 p e s m args below meth c A as0 as es H locs ls st C hA hp hh hP hD hS hL hst1
theorem s_look {dflt : Int} {a b : Nat} {oa ob : Int} {len ta tb td : Nat} {ka kb kd : KC} (hd : decode cc pc = .ok (.lookupswitch dflt #[((a : Int), oa), ((b : Int), ob)], len)) (hab : a < b) (hb : b < 2147483648) (h1 : (pc : Int) + oa = (ta : Int)) (h2 : (pc : Int) + ob = (tb : Int)) (h3 : (pc : Int) + dflt = (td : Int)) (Ka : KS l D cI cS cM own mn cc nL ret R lg ta d ka) (Kb : KS l D cI cS cM own mn cc nL ret R lg tb d kb) (Kd : KS l D cI cS cM own mn cc nL ret R lg td d kd) : KS l D cI cS cM own mn cc nL ret R lg pc (d + 1) (o_look a b ka kb kd) := by
  intro kls kst kh rv kh' hl hk
  obtain ⟨w, r, rfl, hk1⟩ := k_top_some hk
  obtain ⟨n, rfl, hk2⟩ := k_int_some hk1
  have hr : r.length = d := by simpa using hl
  intro p e s m args below meth c A as0 as es H locs ls st C hA hp hh hP hD hS hL hst
  obtain ⟨v, st, rfl, ⟨hn, rfl⟩, hst1⟩ := k_vs_cons hst
  have hsort : ((#[((a : Int), oa), ((b : Int), ob)] : Array (Int × Int)).toList.zip ((#[((a : Int), oa), ((b : Int), ob)] : Array (Int × Int)).toList.drop 1)).all (fun (x, next) => x.1 < next.1) = true := by
    simp
    omega
  have ea : (nI a).toInt = (a : Int) := by rw [kn_int (by omega), if_pos (by omega)]
  have eb : (nI b).toInt = (b : Int) := by rw [kn_int (by omega), if_pos (by omega)]
  by_cases hna : n = a
  · subst hna
    have hk3 := (kb_t (Nat.beq_refl n)).symm.trans hk2
    refine lv_lookup C.1 C.2.1 hd hsort (off := oa) (by rw [ea]; simp [Op.lookupswitch.offset]) h1 ?_
    exact Ka kls r kh rv kh' hr hk3 p e s m args below meth c A as0 as es H locs ls st C hA hp hh hP hD hS hL hst1
  · have hk3 := (kb_f (Bool.eq_false_iff.mpr fun z => hna (Nat.eq_of_beq_eq_true z))).symm.trans hk2
    have hxa : ¬ nI n = nI a := fun z => hna ((kn_inj hn (by omega)).mp z)
    by_cases hnb : n = b
    · subst hnb
      have hk4 := (kb_t (Nat.beq_refl n)).symm.trans hk3
      refine lv_lookup C.1 C.2.1 hd hsort (off := ob) (by show Op.lookupswitch.offset [((a : Int), oa), ((n : Int), ob)] dflt _ = _; rw [lv_osw hxa ea, eb]; simp [Op.lookupswitch.offset]) h2 ?_
      exact Kb kls r kh rv kh' hr hk4 p e s m args below meth c A as0 as es H locs ls st C hA hp hh hP hD hS hL hst1
    · have hk4 := (kb_f (Bool.eq_false_iff.mpr fun z => hnb (Nat.eq_of_beq_eq_true z))).symm.trans hk3
      have hxb : ¬ nI n = nI b := fun z => hnb ((kn_inj hn (by omega)).mp z)
      refine lv_lookup C.1 C.2.1 hd hsort (off := dflt) (by show Op.lookupswitch.offset [((a : Int), oa), ((b : Int), ob)] dflt _ = _; rw [lv_osw hxa ea, lv_osw hxb eb]; simp [Op.lookupswitch.offset]) h3 ?_
      exact Kd kls r kh rv kh' hr hk4 p e s m args below meth c A as0 as es H locs ls st C hA hp hh hP hD hS hL hst1
theorem s_ldc2 {idx n : Nat} {v : Int64} (hd : decode cc pc = .ok (.ldc2_w idx, 3)) (hw : Cond.constantLong own idx v ∈ k_tbl) (hv : v = lN n) (hn : n < 18446744073709551616) (K : KS l D cI cS cM own mn cc nL ret R lg (pc + 3) (d + 1) k) : KS l D cI cS cM own mn cc nL ret R lg pc d (o_lpush n k) := by
  intro kls kst kh rv kh' hl hk
  intro p e s m args below meth c A as0 as es H locs ls st C hA hp hh hP hD hS hL hst
  obtain ⟨c1, c2, c3, c4, c5, c6⟩ := id C
  refine lv_ldc2 c1 c2 c4 (c5 _ hw) hd ?_
  rw [hv]
  exact K kls _ kh rv kh' (by simp [hl]) hk p e s m args below meth c A as0 as es H locs ls _ C hA hp hh hP hD hS hL ⟨⟨hn, rfl⟩, hst⟩
theorem s_i2l (hd : decode cc pc = .ok (.i2l, 1)) (K : KS l D cI cS cM own mn cc nL ret R lg (pc + 1) (d + 1) k) : KS l D cI cS cM own mn cc nL ret R lg pc (d + 1) (o_i2l k) := by
  intro kls kst kh rv kh' hl hk
  obtain ⟨w, r, rfl, hk1⟩ := k_top_some hk
  obtain ⟨n, rfl, hk2⟩ := k_int_some hk1
  rw [kseq_eq] at hk2
  have e0 : (Bool.rec (Nat.add n 18446744069414584320) n (Nat.blt n 2147483648) : Nat) = if n < 2147483648 then n else n + 18446744069414584320 := by
    by_cases h : n < 2147483648
    · rw [kb_t (nb_t h), if_pos h]
    · rw [kb_f (nb_f h), if_neg h]
  rw [e0] at hk2
  intro p e s m args below meth c A as0 as es H locs ls st C hA hp hh hP hD hS hL hst
  obtain ⟨v, st, rfl, ⟨hn, rfl⟩, hst1⟩ := k_vs_cons hst
  refine lv_i2l C.1 C.2.1 hd (kl_ext hn).symm ?_
  exact K kls _ kh rv kh' (by simpa using hl) hk2 p e s m args below meth c A as0 as es H locs ls _ C hA hp hh hP hD hS hL ⟨⟨by split <;> omega, rfl⟩, hst1⟩
theorem s_ladd (hd : decode cc pc = .ok (.ladd, 1)) (K : KS l D cI cS cM own mn cc nL ret R lg (pc + 1) (d + 1) k) : KS l D cI cS cM own mn cc nL ret R lg pc (d + 2) (o_lbin l_add k) := by
  intro kls kst kh rv kh' hl hk
  obtain ⟨w, r, rfl, hk1⟩ := k_top_some hk
  obtain ⟨w2, r, rfl, hk2⟩ := k_top_some hk1
  obtain ⟨b, rfl, hk3⟩ := k_lng_some hk2
  obtain ⟨a, rfl, hk4⟩ := k_lng_some hk3
  rw [kseq_eq] at hk4
  intro p e s m args below meth c A as0 as es H locs ls st C hA hp hh hP hD hS hL hst
  obtain ⟨v, st, rfl, ⟨hb, rfl⟩, hst1⟩ := k_vs_cons hst
  obtain ⟨v, st, rfl, ⟨ha, rfl⟩, hst2⟩ := k_vs_cons hst1
  refine lv_ladd C.1 C.2.1 hd ?_
  rw [lN_add, ← kl_mod]
  exact K _ _ kh rv kh' (by simpa using hl) hk4 p e s m args below meth c A as0 as es H locs ls _ C hA hp hh hP hD hS hL ⟨⟨Nat.mod_lt _ (by decide), rfl⟩, hst2⟩
theorem s_lmul (hd : decode cc pc = .ok (.lmul, 1)) (K : KS l D cI cS cM own mn cc nL ret R lg (pc + 1) (d + 1) k) : KS l D cI cS cM own mn cc nL ret R lg pc (d + 2) (o_lbin l_mul k) := by
  intro kls kst kh rv kh' hl hk
  obtain ⟨w, r, rfl, hk1⟩ := k_top_some hk
  obtain ⟨w2, r, rfl, hk2⟩ := k_top_some hk1
  obtain ⟨b, rfl, hk3⟩ := k_lng_some hk2
  obtain ⟨a, rfl, hk4⟩ := k_lng_some hk3
  rw [kseq_eq] at hk4
  intro p e s m args below meth c A as0 as es H locs ls st C hA hp hh hP hD hS hL hst
  obtain ⟨v, st, rfl, ⟨hb, rfl⟩, hst1⟩ := k_vs_cons hst
  obtain ⟨v, st, rfl, ⟨ha, rfl⟩, hst2⟩ := k_vs_cons hst1
  refine lv_lmul C.1 C.2.1 hd ?_
  rw [lN_mul, ← kl_mod]
  exact K _ _ kh rv kh' (by simpa using hl) hk4 p e s m args below meth c A as0 as es H locs ls _ C hA hp hh hP hD hS hL ⟨⟨Nat.mod_lt _ (by decide), rfl⟩, hst2⟩
theorem s_lload_n {j : Fin 4} {i : Nat} (hd : decode cc pc = .ok (.lload_n j, 1)) (hi : (j : Nat) = i) (K : KS l D cI cS cM own mn cc nL ret R lg (pc + 1) (d + 1) k) : KS l D cI cS cM own mn cc nL ret R lg pc d (o_lload i k) := by
  intro kls kst kh rv kh' hl hk
  obtain ⟨n, e1, hk1⟩ := k_lng_some hk
  intro p e s m args below meth c A as0 as es H locs ls st C hA hp hh hP hD hS hL hst
  obtain ⟨v, hx, hn, rfl⟩ := hL.at e1 (by simp)
  refine lv_lload_n C.1 C.2.1 hd hi hx ?_
  exact K kls _ kh rv kh' (by simp [hl]) hk1 p e s m args below meth c A as0 as es H locs ls _ C hA hp hh hP hD hS hL ⟨⟨hn, rfl⟩, hst⟩
theorem k_nolong_some {v : KV} {k : KR} {r : List KV × KH} (h : k_nolong v k = some r) : k = some r ∧ ∀ n, v ≠ k_l n := by
  rcases v with n | n | n | n
  · exact ⟨h, by simp⟩
  · exact ⟨h, by simp⟩
  · cases h
  · exact ⟨h, by simp⟩
/-- stores in a method with longs -/
theorem k_ls.putL {as : List Nat} {nL : Nat} {kls : List KV} {ls' : Array Slot} {lv : List (Nat × Value)} {i : Nat} {kv : KV} {v : Value} (h2 : ∀ (i : Nat) (kv : KV), kls[i]? = some kv → kv = k_u ∨ ∃ v, (i, v) ∈ lv ∧ k_v as kv v) (h3 : ∀ n, kget k_u kls (i - 1) ≠ k_l n) (hv : k_v as kv v) (h' : lv_has ls' nL ((i, v) :: lv.filter (fun q => !(q.1 == i) && !(q.1 + 1 == i && q.2.category == 2)))) : k_ls true as nL (kset kls i kv) ls' := by
  refine ⟨_, h', fun j w hj => ?_, fun h => by cases h⟩
  rw [kset_eq] at hj
  by_cases hji : j = i
  · subst hji
    by_cases hl : j < kls.length
    · rw [List.getElem?_set_self hl] at hj
      cases hj
      exact Or.inr ⟨v, List.mem_cons_self, hv⟩
    · rw [List.getElem?_eq_none (by rw [List.length_set]; omega)] at hj
      cases hj
  · rw [List.getElem?_set_ne (Ne.symm hji)] at hj
    rcases h2 j w hj with q | ⟨u, q1, q2⟩
    · exact Or.inl q
    · by_cases hw : w = k_u
      · exact Or.inl hw
      refine Or.inr ⟨u, List.mem_cons_of_mem _ (List.mem_filter.mpr ⟨q1, ?_⟩), q2⟩
      by_cases hj1 : j + 1 = i
      · have hc := k_cat q2 hw (fun n e => h3 n (by
          rw [show i - 1 = j by omega, kget_eq, List.getD_eq_getElem?_getD, hj, e]
          rfl))
        simp [hji, hc]
      · simp [hji, hj1]
theorem k_ls.putLL {as : List Nat} {nL : Nat} {kls : List KV} {ls' : Array Slot} {lv : List (Nat × Value)} {i : Nat} {kv : KV} {v : Value} (h2 : ∀ (i : Nat) (kv : KV), kls[i]? = some kv → kv = k_u ∨ ∃ v, (i, v) ∈ lv ∧ k_v as kv v) (h3 : ∀ n, kget k_u kls (i - 1) ≠ k_l n) (hv : k_v as kv v) (h' : lv_has ls' nL ((i, v) :: lv.filter (fun q => !(q.1 == i) && (!(q.1 == i + 1) && !(q.1 + 1 == i && q.2.category == 2))))) : k_ls true as nL (kset (kset kls i kv) (i + 1) k_u) ls' := by
  refine ⟨_, h', fun j w hj => ?_, fun h => by cases h⟩
  rw [kset_eq, kset_eq] at hj
  by_cases hj2 : j = i + 1
  · subst hj2
    by_cases hl : i + 1 < kls.length
    · rw [List.getElem?_set_self (by rw [List.length_set]; exact hl)] at hj
      cases hj
      exact Or.inl rfl
    · rw [List.getElem?_eq_none (by rw [List.length_set, List.length_set]; omega)] at hj
      cases hj
  rw [List.getElem?_set_ne (Ne.symm hj2)] at hj
  by_cases hji : j = i
  · subst hji
    by_cases hl : j < kls.length
    · rw [List.getElem?_set_self hl] at hj
      cases hj
      exact Or.inr ⟨v, List.mem_cons_self, hv⟩
    · rw [List.getElem?_eq_none (by rw [List.length_set]; omega)] at hj
      cases hj
  · rw [List.getElem?_set_ne (Ne.symm hji)] at hj
    rcases h2 j w hj with q | ⟨u, q1, q2⟩
    · exact Or.inl q
    · by_cases hw : w = k_u
      · exact Or.inl hw
      refine Or.inr ⟨u, List.mem_cons_of_mem _ (List.mem_filter.mpr ⟨q1, ?_⟩), q2⟩
      by_cases hj1 : j + 1 = i
      · have hc := k_cat q2 hw (fun n e => h3 n (by
          rw [show i - 1 = j by omega, kget_eq, List.getD_eq_getElem?_getD, hj, e]
          rfl))
        simp [hji, hj2, hc]
      · simp [hji, hj2, hj1]
theorem s_lstore_n {j : Fin 4} {i : Nat} (hd : decode cc pc = .ok (.lstore_n j, 1)) (hj : (j : Nat) = i) (hi : i + 1 < nL) (K : KS l D cI cS cM own mn cc nL ret R true (pc + 1) d k) : KS l D cI cS cM own mn cc nL ret R true pc (d + 1) (o_lstore i k) := by
  intro kls kst kh rv kh' hl hk
  obtain ⟨w, r, rfl, hk1⟩ := k_top_some hk
  obtain ⟨n, rfl, hk2⟩ := k_lng_some hk1
  obtain ⟨hk3, hnl⟩ := k_nolong_some hk2
  intro p e s m args below meth c A as0 as es H locs ls st C hA hp hh hP hD hS hL hst
  obtain ⟨v, st, rfl, hv, hst1⟩ := k_vs_cons hst
  obtain ⟨hn, rfl⟩ := id hv
  obtain ⟨lv, h1, h2, h3⟩ := hL
  refine lv_lstore_n C.1 C.2.1 hd hj h1 hi rfl fun ls' hl' => ?_
  exact K _ _ kh rv kh' (by simpa using hl) hk3 p e s m args below meth c A as0 as es H locs ls' _ C hA hp hh hP hD hS (k_ls.putLL (kv := k_l n) h2 hnl hv hl') hst1
theorem s_istoreL_n {j : Fin 4} {i : Nat} (hd : decode cc pc = .ok (.istore_n j, 1)) (hj : (j : Nat) = i) (hi : i < nL) (K : KS l D cI cS cM own mn cc nL ret R true (pc + 1) d k) : KS l D cI cS cM own mn cc nL ret R true pc (d + 1) (o_istoreL i k) := by
  intro kls kst kh rv kh' hl hk
  obtain ⟨w, r, rfl, hk1⟩ := k_top_some hk
  obtain ⟨n, rfl, hk2⟩ := k_int_some hk1
  obtain ⟨hk3, hnl⟩ := k_nolong_some hk2
  intro p e s m args below meth c A as0 as es H locs ls st C hA hp hh hP hD hS hL hst
  obtain ⟨v, st, rfl, hv, hst1⟩ := k_vs_cons hst
  obtain ⟨hn, rfl⟩ := id hv
  obtain ⟨lv, h1, h2, h3⟩ := hL
  refine lv_istore_n C.1 C.2.1 hd hj h1 hi rfl fun ls' hl' => ?_
  exact K _ _ kh rv kh' (by simpa using hl) hk3 p e s m args below meth c A as0 as es H locs ls' _ C hA hp hh hP hD hS (k_ls.putL (kv := k_i n) h2 hnl hv hl') hst1
theorem s_istoreL {i : Nat} (hd : decode cc pc = .ok (.istore i, 2)) (hi : i < nL) (K : KS l D cI cS cM own mn cc nL ret R true (pc + 2) d k) : KS l D cI cS cM own mn cc nL ret R true pc (d + 1) (o_istoreL i k) := by
  intro kls kst kh rv kh' hl hk
  obtain ⟨w, r, rfl, hk1⟩ := k_top_some hk
  obtain ⟨n, rfl, hk2⟩ := k_int_some hk1
  obtain ⟨hk3, hnl⟩ := k_nolong_some hk2
  intro p e s m args below meth c A as0 as es H locs ls st C hA hp hh hP hD hS hL hst
  obtain ⟨v, st, rfl, hv, hst1⟩ := k_vs_cons hst
  obtain ⟨hn, rfl⟩ := id hv
  obtain ⟨lv, h1, h2, h3⟩ := hL
  refine lv_istore C.1 C.2.1 hd h1 hi rfl fun ls' hl' => ?_
  exact K _ _ kh rv kh' (by simpa using hl) hk3 p e s m args below meth c A as0 as es H locs ls' _ C hA hp hh hP hD hS (k_ls.putL (kv := k_i n) h2 hnl hv hl') hst1
theorem s_iincL {i n : Nat} {z : Int} (hd : decode cc pc = .ok (.iinc i z, 3)) (hv : Int32.ofInt z = nI n) (hi : i < nL) (K : KS l D cI cS cM own mn cc nL ret R true (pc + 3) d k) : KS l D cI cS cM own mn cc nL ret R true pc d (o_iincL i n k) := by
  intro kls kst kh rv kh' hl hk
  obtain ⟨x, e1, hk1⟩ := k_int_some hk
  obtain ⟨hk2, hnl⟩ := k_nolong_some hk1
  rw [kseq_eq] at hk2
  intro p e s m args below meth c A as0 as es H locs ls st C hA hp hh hP hD hS hL hst
  obtain ⟨lv, h1, h2, h3⟩ := hL
  rcases h2 i _ (kget_some e1 (by simp)) with q | ⟨v, q1, q2⟩
  · cases q
  obtain ⟨hn, rfl⟩ := id q2
  obtain ⟨j, hj⟩ := List.getElem?_of_mem q1
  have e2 : nI x + Int32.ofInt z = nI (n_add x n) := by rw [hv, kn_add]
  refine lv_iinc C.1 C.2.1 hd h1 hj e2 hi rfl fun ls' hl' => ?_
  exact K _ _ kh rv kh' hl hk2 p e s m args below meth c A as0 as es H locs ls' _ C hA hp hh hP hD hS (k_ls.putL (kv := k_i (n_add x n)) h2 hnl ⟨Nat.mod_lt _ (by decide), rfl⟩ hl') hst
theorem s_copy {fr idx : Nat} (hd : decode cc pc = .ok (.invokestatic idx, 3)) (hlk : Cond.methodLink own idx arraycopyName ∈ k_tbl) (hnat : Cond.native arraycopyName ∈ k_tbl) (hstt : Cond.static arraycopyName ∈ k_tbl) (hini : Cond.initialized "java/lang/System" ∈ k_tbl) (hfr : 1 ≤ fr) (hlo : 8 + (nativeFrameWords "java/lang/System" "arraycopy" 5 + 11) ≤ 30 * fr) (hdd : d ≤ 4) (K : KS l D cI cS cM own mn cc nL ret (k_rm fr 0 0) lg (pc + 3) d k) : KS l D cI cS cM own mn cc nL ret (k_rm fr 0 0) lg pc (d + 5) (o_copy k) := by
  intro kls kst kh rv kh' hl hk
  obtain ⟨w, r, rfl, hk1⟩ := k_top_some hk
  obtain ⟨w2, r, rfl, hk2⟩ := k_top_some hk1
  obtain ⟨w3, r, rfl, hk3⟩ := k_top_some hk2
  obtain ⟨w4, r, rfl, hk4⟩ := k_top_some hk3
  obtain ⟨w5, r, rfl, hk5⟩ := k_top_some hk4
  obtain ⟨n, rfl, hk6⟩ := k_int_some hk5
  obtain ⟨dp, rfl, hk7⟩ := k_int_some hk6
  obtain ⟨d0, rfl, hk8⟩ := k_ref_some hk7
  obtain ⟨sp, rfl, hk9⟩ := k_int_some hk8
  obtain ⟨s0, rfl, hk10⟩ := k_ref_some hk9
  obtain ⟨dq, rfl, hk11⟩ := k_pl_some hk10
  obtain ⟨sq, rfl, hk12⟩ := k_pl_some hk11
  cases dp with
  | succ => cases hk12
  | zero =>
  cases sp with
  | succ => cases hk12
  | zero =>
  have hr : r.length = d := by simpa using hl
  intro p e s m args below meth c A as0 as es H locs ls st C hA hp hh hP hD hS hL hst
  obtain ⟨v1, st, rfl, ⟨hn, rfl⟩, hst1⟩ := k_vs_cons hst
  obtain ⟨v2, st, rfl, ⟨-, rfl⟩, hst2⟩ := k_vs_cons hst1
  obtain ⟨v3, st, rfl, ⟨da, hda, rfl⟩, hst3⟩ := k_vs_cons hst2
  obtain ⟨v4, st, rfl, ⟨-, rfl⟩, hst4⟩ := k_vs_cons hst3
  obtain ⟨v5, st, rfl, ⟨sa, hsa, rfl⟩, hst5⟩ := k_vs_cons hst4
  obtain ⟨c1, c2, c3, c4, c5, c6, c7, c8, c9, c10⟩ := id C
  obtain ⟨a', ev, h1, h2, h3⟩ := kh_at hh (kh_in hh hda)
  cases hda.symm.trans h1
  obtain ⟨a', ew, g1, g2, g3⟩ := kh_at hh (kh_in hh hsa)
  cases hsa.symm.trans g1
  have hk12 : (Sum.rec (fun _ => none) (fun q => Sum.rec (fun x => Sum.rec (fun _ => none) (fun q => Sum.rec (fun y => Bool.rec none (Bool.rec none (k kls r (kset kh dq (k_ar y.1 (kcp n x.2 y.2)))) (Nat.ble n y.1)) (Nat.ble n x.1)) (fun _ => none) q) (k_cell kh dq)) (fun _ => none) q) (k_cell kh sq) : KR) = some (rv, kh') := hk12
  generalize k_cell kh sq = cs at hk12 g3
  generalize k_cell kh dq = cd at hk12 h3
  rcases cs with o | x | x
  · cases hk12
  · rcases cd with o | y | y
    · cases hk12
    · obtain ⟨hb1, hk13⟩ := kb_some hk12
      obtain ⟨hb2, hk14⟩ := kb_some hk13
      have hn1 : n ≤ x.1 := Nat.le_of_ble_eq_true hb1
      have hn2 : n ≤ y.1 := Nat.le_of_ble_eq_true hb2
      obtain ⟨x1, x2, f, rfl, x4⟩ := g3
      obtain ⟨y1, y2, g, rfl, y4⟩ := h3
      have hcn : (nI n).toNatClampNeg = n := kn_cl (by omega)
      have hc0 : (nI 0).toNatClampNeg = 0 := kn_cl (by omega)
      have hz : ¬ nI 0 < 0 := by rw [kn_lt0 (by omega)]; omega
      have hrl : st.length ≤ 4 := by rw [k_vs_len hst5]; omega
      have hs8 := k_sum4 (st := st)
      refine va_copyi c1 c2 (c3.trans hL.size.symm) c4 (c5 _ hlk) (c5 _ hnat) (c5 _ hstt) (c5 _ hini) c9 hP hD hS sq dq 0 0 (ty := .int) (kz_get hsa g2) (kz_get hda h2) rfl rfl rfl hz hz (by rw [kn_lt0 hn]; omega) (by rw [hcn, hc0]; omega) (by rw [hcn, hc0]; omega) (fun _ _ => rfl) hfr (by show _ ≤ 30 * fr; omega) hd (fun H1 locs1 hP1 hD1 hS1 => ?_)
      rw [hcn, hc0, kz_set hda] at hP1 hD1
      refine K kls _ _ rv kh' hr hk14 p e s m args below meth c A as0 as _ H1 locs1 ls _ C hA hp (kh_set hh ?_) hP1 hD1 hS1 hL hst5
      refine ⟨by show (kcp n x.2 y.2).length = y.1; rw [kcp_len]; exact y1, y2, _, rfl, fun j z hj => ?_⟩
      have hj : (kcp n x.2 y.2)[j]? = some (z + 1) := hj
      rw [kcp_at n _ _ (by omega) (by omega)] at hj
      by_cases hjn : j < n
      · rw [if_pos hjn] at hj
        obtain ⟨q1, q2⟩ := x4 j z hj
        exact ⟨q1, by rw [pk_cpy_in (by omega) (by omega)]; simpa using q2⟩
      · rw [if_neg hjn] at hj
        obtain ⟨q1, q2⟩ := y4 j z hj
        exact ⟨q1, by rw [pk_cpy_out (by omega)]; exact q2⟩
    · cases hk12
  · cases hk12
end KO7
