/-! ===== constructors: int[n][m]; what Past and the reference need besides ===== -/
theorem kh_app {cI cS cM : ClassId} {as bs : List Nat} {kh cs : KH} {es ds : List va_E} (h : k_h cI cS cM as kh es) (hb : bs.length = cs.length) (hd : ds.length = cs.length) (hc : ∀ (i : Nat) (c : KCell) (e : va_E), cs[i]? = some c → ds[i]? = some e → k_c cI cS cM (as ++ bs) c e) : k_h cI cS cM (as ++ bs) (kh ++ cs) (es ++ ds) := by
  obtain ⟨h1, h2, h3⟩ := h
  refine ⟨by simp [h1, hb], by simp [h2, hd], fun p c' e' hp he => ?_⟩
  by_cases hl : p < kh.length
  · rw [List.getElem?_append_left hl] at hp
    rw [List.getElem?_append_left (by omega)] at he
    exact (h3 p c' e' hp he).more (List.prefix_append _ _)
  · rw [List.getElem?_append_right (by omega)] at hp
    rw [List.getElem?_append_right (by omega), show p - es.length = p - kh.length by omega] at he
    exact hc _ _ _ hp he
theorem kz_app {as bs : List Nat} {es ds : List va_E} (h : as.length = es.length) : kz (as ++ bs) (es ++ ds) = kz as es ++ kz bs ds := by
  unfold kz
  exact List.zip_append h
theorem kz_rows (r : Nat → Nat) (e : va_E) (f : Nat → va_E) (n : Nat) : va_pl ((List.range n).map r) (vr_up f ((List.range n).map r) e) = kz ((List.range n).map r) (List.replicate n e) := by
  unfold va_pl kz
  apply List.ext_getElem?
  intro i
  by_cases h : i < n
  · have h1 : ((List.range n).map r)[i]? = some (r i) := by rw [List.getElem?_map, List.getElem?_range h]; rfl
    have h2 : (List.replicate n e)[i]? = some e := by simp [h]
    rw [List.getElem?_map, h1]
    show some (r i, vr_up f _ e (r i)) = _
    symm
    rw [List.getElem?_zip_eq_some]
    refine ⟨h1, ?_⟩
    rw [h2]
    show some e = some (vr_up f _ e (r i))
    rw [vr_up_in (List.mem_of_getElem? h1)]
  · rw [List.getElem?_eq_none (by simp; omega), List.getElem?_eq_none (by simp; omega)]
section KJC3
variable {l : Launch} {D : va_G} {cI cS cM : ClassId} {own : String} {cc : ByteArray} {nL : Nat} {R : Room} {mc ms : Nat} {kh' : KH} {pc : Nat} {kls kst : List KV} {kh : KH} {cells slots : Nat}
theorem c_mna {idx n m : Nat} (hd : decode cc pc = .ok (.multianewarray idx 2, 4)) (hcl : Cond.classLink own idx "[[I" ∈ k_tbl) (harr : Cond.arrayClass .int ∈ k_tbl) (hn : n ≤ 1000) (hm : m ≤ 1000) (h1 : cells + (1 + n) ≤ R.cells) (h2 : slots + (n + n * m) ≤ R.slots)
    (K : KJC l D cI cS cM own cc nL R mc ms kh' (pc + 4) kls (k_r (kh.length + 1) :: kst) (kh ++ (k_rf 1 n ((List.range n).map fun i => kh.length + 1 + i + 2) :: List.replicate n (k_ar m (List.replicate m 1)))) (cells + 1 + n) (slots + n + n * m)) : KJC l D cI cS cM own cc nL R mc ms kh' pc kls (k_i m :: k_i n :: kst) kh cells slots := by
  intro p e s mi args below meth c A as0 as es H locs ls st C hx hA hp hh hP hD hS hL hst
  obtain ⟨v, st, rfl, ⟨-, rfl⟩, hst1⟩ := k_vs_cons hst
  obtain ⟨v, st, rfl, ⟨-, rfl⟩, hst2⟩ := k_vs_cons hst1
  obtain ⟨c1, c2, c3, c4, c5, c6, c7, c8, c9, c10⟩ := id C
  have hle : as.length = es.length := by rw [hh.1, hh.2.1]
  have hcy : s.vm.findClass (FieldType.array .int).toString = some cI := (c9.2 0 _ rfl).2
  refine va_mna (X := kz as es) (L := []) (f := fun _ => .inr (0, [])) (ty := .int) (cy := cI) (N' := n) (K' := m) (z := (m, .inl (fun _ => 0))) c1 c2 c4 (c5 _ hcl) hx.2 (c5 _ harr) hcy c9 (by rw [show va_pl [] (fun _ => (.inr (0, []) : va_E)) = [] from rfl, List.append_nil]; exact hP) (by rw [show va_pl [] (fun _ => (.inr (0, []) : va_E)) = [] from rfl, List.append_nil]; exact hD) hS hA (by rw [kn_lt0 (by omega)]; omega) (by rw [kn_lt0 (by omega)]; omega) (kn_cl (by omega)) (kn_cl (by omega)) (by omega) (by show m * 4 ≤ _; omega) (by omega) rfl rfl h1 h2 (fun c => by rw [vp_cell_i]; exact arrV_new c m (.int 0)) hd (fun q r cA H1 hinj hnl hK1 hP1 hD1 hS1 => ?_)
  have e1 : cA = cM := by
    have a1 : s.vm.findClass ("[" ++ (FieldType.array .int).toString) = some cA := (hK1.2 3 _ rfl).2
    have a2 : s.vm.findClass ("[" ++ (FieldType.array .int).toString) = some cM := (c9.2 2 _ rfl).2
    exact Option.some.inj (a1.symm.trans a2)
  subst e1
  rw [List.nil_append, kz_rows, List.append_assoc] at hP1 hD1
  have ez : kz as es ++ ([(q, .inl (cA, n, .inr (.inr (.inr (.inr (fun i => if i < n then some (r i) else none))))))] ++ kz ((List.range n).map r) (List.replicate n (.inl (cI, m, .inl (fun _ => 0))))) = kz (as ++ (q :: (List.range n).map r)) (es ++ (.inl (cA, n, .inr (.inr (.inr (.inr (fun i => if i < n then some (r i) else none))))) :: List.replicate n (.inl (cI, m, .inl (fun _ => 0))))) := by
    rw [kz_app hle]
    rfl
  rw [ez] at hP1 hD1
  refine K p e s mi args below meth c A as0 _ _ H1 locs ls _ C hx hA (hp.trans (List.prefix_append _ _)) (kh_app hh (by simp) (by simp) ?_) hP1 hD1 hS1 (hL.more (List.prefix_append _ _)) ⟨?_, hst2.more (List.prefix_append _ _)⟩
  · intro i ce ee hi he
    cases i with
    | zero =>
      cases hi
      cases he
      refine ⟨by simp, by show n < _; omega, _, rfl, fun j z hj => ?_⟩
      have hj : ((List.range n).map fun i => kh.length + 1 + i + 2)[j]? = some (z + 1) := hj
      have hlt : j < n := by
        have := (List.getElem?_eq_some_iff.mp hj).1
        simpa using this
      rw [List.getElem?_map, List.getElem?_range hlt] at hj
      have : z = kh.length + 1 + j + 1 := by
        have h9 : kh.length + 1 + j + 2 = z + 1 := Option.some.inj hj
        omega
      subst this
      refine ⟨r j, ?_, by simp [hlt, va_rf]⟩
      rw [List.getElem?_append_right (by rw [hh.1]; omega), hh.1, show kh.length + 1 + j - kh.length = j + 1 by omega]
      simp [hlt]
    | succ i =>
      have hi : (List.replicate n (k_ar m (List.replicate m 1)))[i]? = some ce := by simpa using hi
      have he : (List.replicate n (.inl (cI, m, .inl (fun _ => 0)) : va_E))[i]? = some ee := by simpa using he
      have a1 := (List.getElem?_eq_some_iff.mp hi).2
      have a2 := (List.getElem?_eq_some_iff.mp he).2
      rw [List.getElem_replicate] at a1 a2
      subst a1
      subst a2
      refine ⟨by simp, by show m < _; omega, _, rfl, fun j z hj => ?_⟩
      have hj : (List.replicate m 1)[j]? = some (z + 1) := hj
      have := (List.getElem?_eq_some_iff.mp hj).2
      simp at this
      subst this
      exact ⟨by decide, rfl⟩
  · exact ⟨q, by rw [List.getElem?_append_right (by rw [hh.1]; exact Nat.le_refl _), hh.1, Nat.sub_self]; rfl, rfl⟩
theorem c_get {idx ci sl N q : Nat} {Cn : String} {Tf : u_T} {fs : List KV} {w : KV} (hd : decode cc pc = .ok (.getfield idx, 3)) (hc : vwCl[ci]? = some (Cn, Tf, N)) (hsl : sl < N) (hin : ∀ w ∈ u_ws Cn Tf N, w ∈ k_tbl) (hlk : Cond.fieldLink own idx (Tf sl).1 (Tf sl).2.1 (Tf sl).2.2.1 ∈ k_tbl) (ho : k_cell kh q = k_ob ci fs) (hw : fs[sl]? = some w) (K : KJC l D cI cS cM own cc nL R mc ms kh' (pc + 3) kls (w :: kst) kh cells slots) : KJC l D cI cS cM own cc nL R mc ms kh' pc kls (k_r (q + 1) :: kst) kh cells slots := by
  intro p e s m args below meth c A as0 as es H locs ls st C hx hA hp hh hP hD hS hL hst
  obtain ⟨v, st, rfl, ⟨a, ha, rfl⟩, hst1⟩ := k_vs_cons hst
  obtain ⟨c1, c2, c3, c4, c5, c6, c7, c8, c9, c10⟩ := id C
  obtain ⟨a', ev, h1, h2, h3⟩ := kh_at hh (kh_in hh ha)
  cases ha.symm.trans h1
  rw [ho] at h3
  obtain ⟨⟨q9, g1, g2⟩, vs, rfl, g4, g5⟩ := h3
  cases hc.symm.trans g1
  obtain ⟨u, hu, hv⟩ := g5 sl _ hw
  refine va_get (D := D) (ci := ci) (v := u) (C := Cn) (T := Tf) (N := N) c1 c2 c5 hin c4 c9 hP q (kz_get ha h2) hc sl hsl (c5 _ hlk) (fun _ h9 => h9) hu hd ?_
  exact K p e s m args below meth c A as0 as es H locs ls _ C hx hA hp hh hP hD hS hL ⟨hv, hst1⟩
theorem c_iast {q i x n : Nat} {xs : List Nat} {kh1 : KH} (hd : decode cc pc = .ok (.iastore, 1)) (ho : k_cell kh q = k_ar n xs) (hi : i < n) (he : kset kh q (k_ar n (kset xs i (x + 1))) = kh1) (K : KJC l D cI cS cM own cc nL R mc ms kh' (pc + 1) kls kst kh1 cells slots) : KJC l D cI cS cM own cc nL R mc ms kh' pc kls (k_i x :: k_i i :: k_r (q + 1) :: kst) kh cells slots := by
  subst he
  intro p e s m args below meth c A as0 as es H locs ls st C hx hA hp hh hP hD hS hL hst
  obtain ⟨z, st, rfl, ⟨hx1, rfl⟩, hst1⟩ := k_vs_cons hst
  obtain ⟨u, st, rfl, ⟨hi1, rfl⟩, hst2⟩ := k_vs_cons hst1
  obtain ⟨v, st, rfl, ⟨a, ha, rfl⟩, hst3⟩ := k_vs_cons hst2
  obtain ⟨c1, c2, c3, c4, c5, c6, c7, c8, c9, c10⟩ := id C
  obtain ⟨a', ev, h1, h2, h3⟩ := kh_at hh (kh_in hh ha)
  cases ha.symm.trans h1
  rw [ho] at h3
  obtain ⟨g1, g2, f, rfl, g4⟩ := h3
  refine va_iast c1 c2 c9 hP hD hS q 0 (kz_get ha h2) rfl (kn_in hi g2) hd (fun H1 locs1 hP1 hD1 hS1 => ?_)
  have g2' : n < 2147483648 := g2
  rw [kn_cl (by omega), kz_set ha] at hP1 hD1
  refine K p e s m args below meth c A as0 as _ H1 locs1 ls _ C hx hA hp (kh_set hh ?_) hP1 hD1 hS1 hL hst3
  refine ⟨by show (kset xs i (x + 1)).length = n; rw [kset_eq, List.length_set]; exact g1, g2, _, rfl, fun j m hj => ?_⟩
  have hj : (kset xs i (x + 1))[j]? = some (m + 1) := hj
  rw [kset_eq] at hj
  have g1' : xs.length = n := g1
  by_cases hji : j = i
  · subst hji
    rw [List.getElem?_set_self (by omega)] at hj
    have : x = m := by have := Option.some.inj hj; omega
    subst this
    exact ⟨hx1, by simp [upd]⟩
  · rw [List.getElem?_set_ne (Ne.symm hji)] at hj
    obtain ⟨g5, g6⟩ := g4 j m hj
    exact ⟨g5, by simp [upd, hji, g6]⟩
/-- into an array of Settings -/
theorem c_aast {q i wp n : Nat} {xs : List Nat} {fs : List KV} {kh1 : KH} (hd : decode cc pc = .ok (.aastore, 1)) (ho : k_cell kh q = k_rf 0 n xs) (hw : k_cell kh wp = k_ob 5 fs) (hi : i < n) (he : kset kh q (k_rf 0 n (kset xs i (Nat.succ (Nat.succ wp)))) = kh1) (K : KJC l D cI cS cM own cc nL R mc ms kh' (pc + 1) kls kst kh1 cells slots) : KJC l D cI cS cM own cc nL R mc ms kh' pc kls (k_r (wp + 1) :: k_i i :: k_r (q + 1) :: kst) kh cells slots := by
  subst he
  intro p e s m args below meth c A as0 as es H locs ls st C hx hA hp hh hP hD hS hL hst
  obtain ⟨z, st, rfl, ⟨av, hav, rfl⟩, hst1⟩ := k_vs_cons hst
  obtain ⟨u, st, rfl, ⟨hi1, rfl⟩, hst2⟩ := k_vs_cons hst1
  obtain ⟨v, st, rfl, ⟨a, ha, rfl⟩, hst3⟩ := k_vs_cons hst2
  obtain ⟨c1, c2, c3, c4, c5, c6, c7, c8, c9, c10⟩ := id C
  obtain ⟨a', ev, h1, h2, h3⟩ := kh_at hh (kh_in hh ha)
  cases ha.symm.trans h1
  obtain ⟨av', ew, hw1, hw2, hw3⟩ := kh_at hh (kh_in hh hav)
  cases hav.symm.trans hw1
  rw [ho] at h3
  rw [hw] at hw3
  obtain ⟨g1, g2, f, rfl, g4⟩ := h3
  obtain ⟨-, vs, rfl, -, -⟩ := hw3
  have g2' : n < 2147483648 := g2
  have hcl : (nI i).toNatClampNeg = i := kn_cl (by omega)
  refine va_astq c1 c2 c9 hP hD hS q 1 wp 5 (r := (RX5, TX5, 3)) (kz_get ha h2) rfl (kz_get hav hw2) rfl (kn_in hi g2) hd (fun H1 locs1 hP1 hD1 hS1 => ?_)
  rw [hcl, kz_set ha] at hP1 hD1
  refine K p e s m args below meth c A as0 as _ H1 locs1 ls _ C hx hA hp (kh_set hh ?_) hP1 hD1 hS1 hL hst3
  exact ⟨by show (kset xs i _).length = n; rw [kset_eq, List.length_set]; exact g1, g2, _, rfl, k_rfset (x := (0, n, xs)) g1 hi g4 hav⟩
theorem c_istore1 {n : Nat} (hd : decode cc pc = .ok (.istore_n 1, 1)) (hi : 1 < nL) (K : KJC l D cI cS cM own cc nL R mc ms kh' (pc + 1) (kset kls 1 (k_i n)) kst kh cells slots) : KJC l D cI cS cM own cc nL R mc ms kh' pc kls (k_i n :: kst) kh cells slots := by
  intro p e s m args below meth c A as0 as es H locs ls st C hx hA hp hh hP hD hS hL hst
  obtain ⟨v, st, rfl, hv, hst1⟩ := k_vs_cons hst
  obtain ⟨hn, rfl⟩ := id hv
  obtain ⟨lv, h1, h2, h3⟩ := hL
  refine lv_istore_n C.1 C.2.1 hd rfl h1 hi rfl fun ls' hl' => ?_
  exact K p e s m args below meth c A as0 as es H locs ls' _ C hx hA hp hh hP hD hS (k_ls.put (kv := k_i n) h2 (h3 rfl) hv (by simp) hl') hst1
theorem c_iload1 {n : Nat} (hd : decode cc pc = .ok (.iload_n 1, 1)) (hk : kget k_u kls 1 = k_i n) (K : KJC l D cI cS cM own cc nL R mc ms kh' (pc + 1) kls (k_i n :: kst) kh cells slots) : KJC l D cI cS cM own cc nL R mc ms kh' pc kls kst kh cells slots := by
  intro p e s m args below meth c A as0 as es H locs ls st C hx hA hp hh hP hD hS hL hst
  obtain ⟨v, hv, hn, rfl⟩ := hL.at hk (by simp)
  exact lv_iload_n C.1 C.2.1 hd rfl hv (K p e s m args below meth c A as0 as es H locs ls _ C hx hA hp hh hP hD hS hL ⟨⟨hn, rfl⟩, hst⟩)
theorem c_iinc1 {x n : Nat} {z : Int} (hd : decode cc pc = .ok (.iinc 1 z, 3)) (hv : Int32.ofInt z = nI n) (hi : 1 < nL) (hk : kget k_u kls 1 = k_i x) (K : KJC l D cI cS cM own cc nL R mc ms kh' (pc + 3) (kset kls 1 (k_i (n_add x n))) kst kh cells slots) : KJC l D cI cS cM own cc nL R mc ms kh' pc kls kst kh cells slots := by
  intro p e s m args below meth c A as0 as es H locs ls st C hx hA hp hh hP hD hS hL hst
  obtain ⟨lv, h1, h2, h3⟩ := hL
  rcases h2 1 _ (kget_some hk (by simp)) with q | ⟨v, q1, q2⟩
  · cases q
  obtain ⟨hn, rfl⟩ := id q2
  obtain ⟨j, hj⟩ := List.getElem?_of_mem q1
  have e2 : nI x + Int32.ofInt z = nI (n_add x n) := by rw [hv, kn_add]
  refine lv_iinc C.1 C.2.1 hd h1 hj e2 hi rfl fun ls' hl' => ?_
  exact K p e s m args below meth c A as0 as es H locs ls' _ C hx hA hp hh hP hD hS (k_ls.put (kv := k_i (n_add x n)) h2 (h3 rfl) ⟨Nat.mod_lt _ (by decide), rfl⟩ (by simp) hl') hst
theorem c_goto {off : Int} {tgt : Nat} (hd : decode cc pc = .ok (.goto off, 3)) (ht : (pc : Int) + off = (tgt : Int)) (K : KJC l D cI cS cM own cc nL R mc ms kh' tgt kls kst kh cells slots) : KJC l D cI cS cM own cc nL R mc ms kh' pc kls kst kh cells slots := by
  intro p e s m args below meth c A as0 as es H locs ls st C hx hA hp hh hP hD hS hL hst
  exact lv_goto C.1 C.2.1 hd ht (K p e s m args below meth c A as0 as es H locs ls st C hx hA hp hh hP hD hS hL hst)
theorem c_ge_t {a b : Nat} {off : Int} {tgt : Nat} (hd : decode cc pc = .ok (.if_icmp .ge off, 3)) (ht : (pc : Int) + off = (tgt : Int)) (hab : s_lt a b = false) (K : KJC l D cI cS cM own cc nL R mc ms kh' tgt kls kst kh cells slots) : KJC l D cI cS cM own cc nL R mc ms kh' pc kls (k_i b :: k_i a :: kst) kh cells slots := by
  intro p e s m args below meth c A as0 as es H locs ls st C hx hA hp hh hP hD hS hL hst
  obtain ⟨v, st, rfl, ⟨hb, rfl⟩, hst1⟩ := k_vs_cons hst
  obtain ⟨v, st, rfl, ⟨ha, rfl⟩, hst2⟩ := k_vs_cons hst1
  exact lv_icmp_ge C.1 C.2.1 hd ht (fun _ => K p e s m args below meth c A as0 as es H locs ls st C hx hA hp hh hP hD hS hL hst2) (fun q => absurd ((kn_le hb ha).mp hab) q)
theorem c_ge_f {a b : Nat} {off : Int} {tgt : Nat} (hd : decode cc pc = .ok (.if_icmp .ge off, 3)) (ht : (pc : Int) + off = (tgt : Int)) (hab : s_lt a b = true) (K : KJC l D cI cS cM own cc nL R mc ms kh' (pc + 3) kls kst kh cells slots) : KJC l D cI cS cM own cc nL R mc ms kh' pc kls (k_i b :: k_i a :: kst) kh cells slots := by
  intro p e s m args below meth c A as0 as es H locs ls st C hx hA hp hh hP hD hS hL hst
  obtain ⟨v, st, rfl, ⟨hb, rfl⟩, hst1⟩ := k_vs_cons hst
  obtain ⟨v, st, rfl, ⟨ha, rfl⟩, hst2⟩ := k_vs_cons hst1
  exact lv_icmp_ge C.1 C.2.1 hd ht (fun q => absurd ((kn_lt ha hb).mp hab) (Int32.not_lt.mpr q)) (fun _ => K p e s m args below meth c A as0 as es H locs ls st C hx hA hp hh hP hD hS hL hst2)
end KJC3
