/-! ===== call instructions, a whole method ===== -/
section KO6
variable {l : Launch} {D : va_G} {cI cS cM : ClassId} {own mn : String} {cc : ByteArray} {nL : Nat} {ret : Option FieldType} {R : Room} {lg : Bool} {pc d : Nat} {k t : KC}
/-- the stack at a call -/
theorem k_split {as : List Nat} {xs rest : List KV} {st : List Value} (h : k_vs as (xs.reverse ++ rest) st) : ∃ vx vr, st = vx.reverse ++ vr ∧ k_vs as xs vx ∧ k_vs as rest vr := by
  obtain ⟨x, y, rfl, h1, h2⟩ := k_vs_app h
  have h3 := k_vs_rev h1
  rw [List.reverse_reverse] at h3
  exact ⟨x.reverse, y, by rw [List.reverse_reverse], h3, h2⟩
theorem s_callS0 {fr fb : Nat} {idx n : Nat} {y : MethodName} {cb : ByteArray} {nb : Nat} {rb : Option FieldType} {F : KF} (hd : decode cc pc = .ok (.invokestatic idx, 3)) (hlk : Cond.methodLink own idx y ∈ k_tbl) (hstt : Cond.static y ∈ k_tbl) (hok : k_ok y cb nb rb n) (hfr : fb + 1 ≤ fr) (hnb : nb ≤ 11) (hF : k_snd l D cI cS cM y cb nb rb fb n F) (hdd : d ≤ 4) (K : KS l D cI cS cM own mn cc nL ret (k_rm fr 0 0) lg (pc + 3) d k) : KS l D cI cS cM own mn cc nL ret (k_rm fr 0 0) lg pc (d + n) (o_cS0 n F k) := by
  intro kls kst kh rv kh' hl hk
  obtain ⟨xs, rest, hx, rfl, hk1⟩ := k_args_some hk
  obtain ⟨rw1, kh1, hk2, hk3⟩ := k_res_some hk1
  rw [List.append_nil] at hk2
  intro p e s m args below meth c A as0 as es H locs ls st C hA hp hh hP hD hS hL hst
  obtain ⟨vx, vr, rfl, hvx, hvr⟩ := k_split hst
  have hl2 : rest.length = d := by simp at hl; omega
  exact s_back0 K C hA hp hD hS hL hvr hl2 (s_runS hd hlk hstt hok hfr hnb hF C hh hP hD hL hx hvx (by rw [k_vs_len hvr]; omega) hk2) hk3
theorem s_callS1 {fr fb : Nat} {idx n : Nat} {y : MethodName} {cb : ByteArray} {nb : Nat} {rb : Option FieldType} {F : KF} (hd : decode cc pc = .ok (.invokestatic idx, 3)) (hlk : Cond.methodLink own idx y ∈ k_tbl) (hstt : Cond.static y ∈ k_tbl) (hok : k_ok y cb nb rb n) (hfr : fb + 1 ≤ fr) (hnb : nb ≤ 11) (hF : k_snd l D cI cS cM y cb nb rb fb n F) (hdd : d ≤ 4) (K : KS l D cI cS cM own mn cc nL ret (k_rm fr 0 0) lg (pc + 3) (d + 1) k) : KS l D cI cS cM own mn cc nL ret (k_rm fr 0 0) lg pc (d + n) (o_cS1 n F k) := by
  intro kls kst kh rv kh' hl hk
  obtain ⟨xs, rest, hx, rfl, hk1⟩ := k_args_some hk
  obtain ⟨rw1, kh1, hk2, hk3⟩ := k_res_some hk1
  rw [List.append_nil] at hk2
  intro p e s m args below meth c A as0 as es H locs ls st C hA hp hh hP hD hS hL hst
  obtain ⟨vx, vr, rfl, hvx, hvr⟩ := k_split hst
  have hl2 : rest.length = d := by simp at hl; omega
  exact s_back1 K C hA hp hD hS hL hvr hl2 (s_runS hd hlk hstt hok hfr hnb hF C hh hP hD hL hx hvx (by rw [k_vs_len hvr]; omega) hk2) hk3
theorem s_callN1 {fr fb : Nat} {idx n : Nat} {y : MethodName} {cb : ByteArray} {nb : Nat} {rb : Option FieldType} {F : KF} (hd : decode cc pc = .ok (.invokestatic idx, 3)) (hlk : (own, idx, y) ∈ k_nl) (hstt : Cond.static y ∈ k_tbl) (hok : k_ok y cb nb rb n) (hfr : fb + 1 ≤ fr) (hnb : nb ≤ 11) (hF : k_snd l D cI cS cM y cb nb rb fb n F) (hdd : d ≤ 4) (K : KS l D cI cS cM own mn cc nL ret (k_rm fr 0 0) lg (pc + 3) (d + 1) k) : KS l D cI cS cM own mn cc nL ret (k_rm fr 0 0) lg pc (d + n) (o_cS1 n F k) := by
  intro kls kst kh rv kh' hl hk
  obtain ⟨xs, rest, hx, rfl, hk1⟩ := k_args_some hk
  obtain ⟨rw1, kh1, hk2, hk3⟩ := k_res_some hk1
  rw [List.append_nil] at hk2
  intro p e s m args below meth c A as0 as es H locs ls st C hA hp hh hP hD hS hL hst
  obtain ⟨vx, vr, rfl, hvx, hvr⟩ := k_split hst
  have hl2 : rest.length = d := by simp at hl; omega
  exact s_back1 K C hA hp hD hS hL hvr hl2 (s_runSN hd hlk hstt hok hfr hnb hF C hh hP hD hL hx hvx (by rw [k_vs_len hvr]; omega) hk2) hk3
theorem s_callV0 {fr fb : Nat} {idx n ci : Nat} {y : MethodName} {qc : vw_C} {cb : ByteArray} {nb : Nat} {rb : Option FieldType} {F : KF} (hd : decode cc pc = .ok (.invokevirtual idx, 3)) (hlk : Cond.methodLink own idx y ∈ k_tbl) (hins : Cond.instanceMethod y ∈ k_tbl) (hsel : Cond.selects qc.1 y y ∈ k_tbl) (hc : vwCl[ci]? = some qc) (hok : k_ok y cb nb rb n) (hfr : fb + 1 ≤ fr) (hnb : nb ≤ 11) (hF : k_snd l D cI cS cM y cb nb rb fb (n + 1) F) (hdd : d ≤ 4) (K : KS l D cI cS cM own mn cc nL ret (k_rm fr 0 0) lg (pc + 3) d k) : KS l D cI cS cM own mn cc nL ret (k_rm fr 0 0) lg pc (d + (n + 1)) (o_cV0 (n + 1) ci F k) := by
  intro kls kst kh rv kh' hl hk
  obtain ⟨xs, rest, hx, rfl, hk1⟩ := k_args_some hk
  rw [List.append_nil] at hk1
  obtain ⟨⟨q, t, fs, rfl, hq⟩, hk2⟩ := k_recv_some hk1
  obtain ⟨rw1, kh1, hk2, hk3⟩ := k_res_some hk2
  intro p e s m args below meth c A as0 as es H locs ls st C hA hp hh hP hD hS hL hst
  obtain ⟨vx, vr, rfl, hvx, hvr⟩ := k_split hst
  have hl2 : rest.length = d := by rw [List.length_append, List.length_reverse, hx] at hl; omega
  exact s_back0 K C hA hp hD hS hL hvr hl2 (s_runV hd hlk hins hsel hc hok hfr hnb hF C hh hP hD hL hx hvx hq (by rw [k_vs_len hvr]; omega) hk2) hk3
theorem s_callV1 {fr fb : Nat} {idx n ci : Nat} {y : MethodName} {qc : vw_C} {cb : ByteArray} {nb : Nat} {rb : Option FieldType} {F : KF} (hd : decode cc pc = .ok (.invokevirtual idx, 3)) (hlk : Cond.methodLink own idx y ∈ k_tbl) (hins : Cond.instanceMethod y ∈ k_tbl) (hsel : Cond.selects qc.1 y y ∈ k_tbl) (hc : vwCl[ci]? = some qc) (hok : k_ok y cb nb rb n) (hfr : fb + 1 ≤ fr) (hnb : nb ≤ 11) (hF : k_snd l D cI cS cM y cb nb rb fb (n + 1) F) (hdd : d ≤ 4) (K : KS l D cI cS cM own mn cc nL ret (k_rm fr 0 0) lg (pc + 3) (d + 1) k) : KS l D cI cS cM own mn cc nL ret (k_rm fr 0 0) lg pc (d + (n + 1)) (o_cV1 (n + 1) ci F k) := by
  intro kls kst kh rv kh' hl hk
  obtain ⟨xs, rest, hx, rfl, hk1⟩ := k_args_some hk
  rw [List.append_nil] at hk1
  obtain ⟨⟨q, t, fs, rfl, hq⟩, hk2⟩ := k_recv_some hk1
  obtain ⟨rw1, kh1, hk2, hk3⟩ := k_res_some hk2
  intro p e s m args below meth c A as0 as es H locs ls st C hA hp hh hP hD hS hL hst
  obtain ⟨vx, vr, rfl, hvx, hvr⟩ := k_split hst
  have hl2 : rest.length = d := by rw [List.length_append, List.length_reverse, hx] at hl; omega
  exact s_back1 K C hA hp hD hS hL hvr hl2 (s_runV hd hlk hins hsel hc hok hfr hnb hF C hh hP hD hL hx hvx hq (by rw [k_vs_len hvr]; omega) hk2) hk3
theorem kcat_eq : ∀ a b : List KV, kcat a b = a ++ b
  | [], _ => rfl
  | a :: l, b => by
    show a :: kcat l b = _
    rw [kcat_eq l b]
    rfl
theorem k_chk_some : ∀ {as : List KV} {k : KR} {r : List KV × KH}, k_chk as k = some r → k = some r ∧ ∀ v ∈ as, v ≠ k_u ∧ ∀ n, v ≠ k_l n
  | [], _, _, h => ⟨h, fun _ h => by cases h⟩
  | v :: l, k, r, h => by
    rcases v with n | n | n
    · obtain ⟨h1, h2⟩ := k_chk_some (as := l) (k := k) (r := r) h
      exact ⟨h1, fun w hw => by
        rcases List.mem_cons.mp hw with rfl | hw
        · exact ⟨by simp, by simp⟩
        · exact h2 w hw⟩
    · obtain ⟨h1, h2⟩ := k_chk_some (as := l) (k := k) (r := r) h
      exact ⟨h1, fun w hw => by
        rcases List.mem_cons.mp hw with rfl | hw
        · exact ⟨by simp, by simp⟩
        · exact h2 w hw⟩
    · cases h
theorem k_argat {as : List Nat} : ∀ {ka : List KV} {av : List Value} (n : Nat), k_vs as ka av → (∀ v ∈ ka, v ≠ k_u ∧ ∀ n, v ≠ k_l n) → (lg_sl av).length = ka.length ∧ ∀ (i : Nat) (kv : KV), ka[i]? = some kv → ∃ v, (n + i, v) ∈ lv_args n av ∧ k_v as kv v
  | [], [], n, _, _ => ⟨rfl, fun i kv h => by simp at h⟩
  | [], _ :: _, _, h, _ => h.elim
  | _ :: _, [], _, h, _ => h.elim
  | a :: l, v :: m, n, h, hn => by
    have hc := k_cat h.1 (hn a List.mem_cons_self).1 (hn a List.mem_cons_self).2
    obtain ⟨h1, h2⟩ := k_argat (n + 1) h.2 (fun w hw => hn w (List.mem_cons_of_mem _ hw))
    have e1 : lv_args n (v :: m) = (n, v) :: lv_args (n + 1) m := by
      simp [lv_args, hc]
    have e2 : (lg_sl (v :: m)).length = (lg_sl m).length + 1 := by
      simp [lg_sl, hc]
    refine ⟨by rw [e2, h1]; rfl, fun i kv hi => ?_⟩
    rw [e1]
    cases i with
    | zero =>
      cases hi
      exact ⟨v, List.mem_cons_self, h.1⟩
    | succ i =>
      obtain ⟨u, h3, h4⟩ := h2 i kv (by simpa using hi)
      exact ⟨u, List.mem_cons_of_mem _ (by rw [show n + (i + 1) = n + 1 + i by omega]; exact h3), h4⟩
/-- A METHOD: its body's row gives its contract -/
theorem k_method {y : MethodName} {fr n : Nat} {us : List KV} (hy : plainFor y = true) (hu : ∀ v ∈ us, v = k_u) (hn : n + us.length = nL) (K : KS l D cI cS cM y.cls y.name cc nL ret (k_rm fr 0 0) lg 0 0 k) : k_snd l D cI cS cM y cc nL ret fr n (k_fun us k) := by
  intro ka kh rv kh' hka hk
  obtain ⟨hk1, hk2⟩ := k_chk_some hk
  intro as es av sz hh hv
  refine va_MetF (cc := cc) (maxL := nL) (ret := ret) hy rfl ?_
  intro p e s m args below meth c s₁ B hml hvv
  obtain ⟨rfl, hsz, hP, hK, hM, hD0⟩ := hvv
  have hts := atoms_spec (ws := .code y cc nL ret :: k_tbl) B.pre
  have hown : s.vm.findClass y.cls = some m.cls := findClass_of_methodNamed B.named
  have hin : meth.name = y.name := (name_of_methodNamed B.named B.method).1
  subst hsz
  obtain ⟨e1, e2⟩ := k_argat 0 hv hk2
  have hl := lv_entry av (n := nL) (by rw [e1]; omega)
  rw [lg_entry_eq]
  generalize (lg_sl av ++ List.replicate (nL - (lg_sl av).length) Slot.unset).toArray = ls at hl ⊢
  refine K (kcat ka us) [] kh rv kh' rfl hk1 p e s m av.toArray below meth c (va_A (kz as es) s.heap.size) as as es s.heap [] ls [] ⟨B.exec, B.bytes, hml, hown, fun w hw => hts w (List.mem_cons_of_mem _ hw), B.returns, B.notSynchronized, hin, hK, hM⟩ (fun q h => Or.inr h) (List.prefix_refl as) hh hP (hD0.self (sz := s.heap.size)) va_S.rf ⟨_, hl, fun i kv hi => ?_, fun _ i n hi => ?_⟩ trivial
  · rw [kcat_eq] at hi
    by_cases hlt : i < ka.length
    · rw [List.getElem?_append_left hlt] at hi
      obtain ⟨v, h3, h4⟩ := e2 i kv hi
      exact Or.inr ⟨v, by simpa using h3, h4⟩
    · rw [List.getElem?_append_right (by omega)] at hi
      exact Or.inl (hu kv (List.mem_of_getElem? hi))
  · rw [kcat_eq] at hi
    by_cases hlt : i < ka.length
    · rw [List.getElem?_append_left hlt] at hi
      exact (hk2 _ (List.mem_of_getElem? hi)).2 n rfl
    · rw [List.getElem?_append_right (by omega)] at hi
      have := hu _ (List.mem_of_getElem? hi)
      simp at this
/-- THE LOOPS of a method: the heads by the heads -/
theorem k_loops {bs : List KC → List KC} {hs : List (Nat × Nat)} (h : ∀ J : List KC, (∀ (i pc d : Nat), hs[i]? = some (pc, d) → KS l D cI cS cM own mn cc nL ret R lg pc d (k_jmp J i)) → ∀ (i pc d : Nat), hs[i]? = some (pc, d) → KS l D cI cS cM own mn cc nL ret R lg pc d (k_jmp (bs J) i)) : ∀ (n i pc d : Nat), hs[i]? = some (pc, d) → KS l D cI cS cM own mn cc nL ret R lg pc d (k_jmp (k_loop bs n) i)
  | 0, i, pc, d, _ => fun kls kst kh rv kh' _ hk => by
    have : k_jmp (k_loop bs 0) i = k_no := rfl
    rw [this] at hk
    cases hk
  | n + 1, i, pc, d, hi => h (k_loop bs n) (k_loops h n) i pc d hi
end KO6
