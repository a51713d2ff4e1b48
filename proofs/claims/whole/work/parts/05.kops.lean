/-! ===== an instruction, a row ===== -/
section KO
variable {l : Launch} {D : va_G} {cI cS cM : ClassId} {own mn : String} {cc : ByteArray} {nL : Nat} {ret : Option FieldType} {R : Room} {lg : Bool} {pc d : Nat} {k t : KC}
theorem s_iload {i : Nat} (hd : decode cc pc = .ok (.iload i, 2)) (K : KS l D cI cS cM own mn cc nL ret R lg (pc + 2) (d + 1) k) : KS l D cI cS cM own mn cc nL ret R lg pc d (o_iload i k) := by
  intro kls kst kh rv kh' hl hk
  obtain ⟨n, e1, hk1⟩ := k_int_some hk
  intro p e s m args below meth c A as0 as es H locs ls st C hA hp hh hP hD hS hL hst
  obtain ⟨v, hx, hn, rfl⟩ := hL.at e1 (by simp)
  refine lv_iload C.1 C.2.1 hd hx ?_
  exact K kls _ kh rv kh' (by simp [hl]) hk1 p e s m args below meth c A as0 as es H locs ls _ C hA hp hh hP hD hS hL ⟨⟨hn, rfl⟩, hst⟩
theorem s_iload_n {j : Fin 4} {i : Nat} (hd : decode cc pc = .ok (.iload_n j, 1)) (hi : (j : Nat) = i) (K : KS l D cI cS cM own mn cc nL ret R lg (pc + 1) (d + 1) k) : KS l D cI cS cM own mn cc nL ret R lg pc d (o_iload i k) := by
  intro kls kst kh rv kh' hl hk
  obtain ⟨n, e1, hk1⟩ := k_int_some hk
  intro p e s m args below meth c A as0 as es H locs ls st C hA hp hh hP hD hS hL hst
  obtain ⟨v, hx, hn, rfl⟩ := hL.at e1 (by simp)
  refine lv_iload_n C.1 C.2.1 hd hi hx ?_
  exact K kls _ kh rv kh' (by simp [hl]) hk1 p e s m args below meth c A as0 as es H locs ls _ C hA hp hh hP hD hS hL ⟨⟨hn, rfl⟩, hst⟩
theorem s_aload {i : Nat} (hd : decode cc pc = .ok (.aload i, 2)) (K : KS l D cI cS cM own mn cc nL ret R lg (pc + 2) (d + 1) k) : KS l D cI cS cM own mn cc nL ret R lg pc d (o_aload i k) := by
  intro kls kst kh rv kh' hl hk
  obtain ⟨n, e1, hk1⟩ := k_ref_some hk
  intro p e s m args below meth c A as0 as es H locs ls st C hA hp hh hP hD hS hL hst
  obtain ⟨v, hx, hv⟩ := hL.at e1 (by simp)
  have go := fun (v : Value) (hv : k_v as (k_r n) v) => K kls _ kh rv kh' (by simp [hl]) hk1 p e s m args below meth c A as0 as es H locs ls (v :: st) C hA hp hh hP hD hS hL ⟨hv, hst⟩
  cases n with
  | zero =>
    have : v = .null := hv
    subst this
    exact lv_aloadN C.1 C.2.1 hd hx (go _ hv)
  | succ q =>
    obtain ⟨a, h1, rfl⟩ := id hv
    exact lv_aload C.1 C.2.1 hd hx (go _ hv)
theorem s_aload_n {j : Fin 4} {i : Nat} (hd : decode cc pc = .ok (.aload_n j, 1)) (hi : (j : Nat) = i) (K : KS l D cI cS cM own mn cc nL ret R lg (pc + 1) (d + 1) k) : KS l D cI cS cM own mn cc nL ret R lg pc d (o_aload i k) := by
  intro kls kst kh rv kh' hl hk
  obtain ⟨n, e1, hk1⟩ := k_ref_some hk
  intro p e s m args below meth c A as0 as es H locs ls st C hA hp hh hP hD hS hL hst
  obtain ⟨v, hx, hv⟩ := hL.at e1 (by simp)
  have go := fun (v : Value) (hv : k_v as (k_r n) v) => K kls _ kh rv kh' (by simp [hl]) hk1 p e s m args below meth c A as0 as es H locs ls (v :: st) C hA hp hh hP hD hS hL ⟨hv, hst⟩
  cases n with
  | zero =>
    have : v = .null := hv
    subst this
    exact lv_aload_nN C.1 C.2.1 hd hi hx (go _ hv)
  | succ q =>
    obtain ⟨a, h1, rfl⟩ := id hv
    exact lv_aload_n C.1 C.2.1 hd hi hx (go _ hv)
theorem s_istore {i : Nat} (hd : decode cc pc = .ok (.istore i, 2)) (hi : i < nL) (K : KS l D cI cS cM own mn cc nL ret R false (pc + 2) d k) : KS l D cI cS cM own mn cc nL ret R false pc (d + 1) (o_istore i k) := by
  intro kls kst kh rv kh' hl hk
  obtain ⟨w, r, rfl, hk1⟩ := k_top_some hk
  obtain ⟨n, rfl, hk2⟩ := k_int_some hk1
  intro p e s m args below meth c A as0 as es H locs ls st C hA hp hh hP hD hS hL hst
  obtain ⟨v, st, rfl, hv, hst1⟩ := k_vs_cons hst
  obtain ⟨hn, rfl⟩ := id hv
  obtain ⟨lv, h1, h2, h3⟩ := hL
  refine lv_istore C.1 C.2.1 hd h1 hi rfl fun ls' hl' => ?_
  exact K _ _ kh rv kh' (by simpa using hl) hk2 p e s m args below meth c A as0 as es H locs ls' _ C hA hp hh hP hD hS (k_ls.put (kv := k_i n) h2 (h3 rfl) hv (by simp) hl') hst1
theorem s_istore_n {j : Fin 4} {i : Nat} (hd : decode cc pc = .ok (.istore_n j, 1)) (hj : (j : Nat) = i) (hi : i < nL) (K : KS l D cI cS cM own mn cc nL ret R false (pc + 1) d k) : KS l D cI cS cM own mn cc nL ret R false pc (d + 1) (o_istore i k) := by
  intro kls kst kh rv kh' hl hk
  obtain ⟨w, r, rfl, hk1⟩ := k_top_some hk
  obtain ⟨n, rfl, hk2⟩ := k_int_some hk1
  intro p e s m args below meth c A as0 as es H locs ls st C hA hp hh hP hD hS hL hst
  obtain ⟨v, st, rfl, hv, hst1⟩ := k_vs_cons hst
  obtain ⟨hn, rfl⟩ := id hv
  obtain ⟨lv, h1, h2, h3⟩ := hL
  refine lv_istore_n C.1 C.2.1 hd hj h1 hi rfl fun ls' hl' => ?_
  exact K _ _ kh rv kh' (by simpa using hl) hk2 p e s m args below meth c A as0 as es H locs ls' _ C hA hp hh hP hD hS (k_ls.put (kv := k_i n) h2 (h3 rfl) hv (by simp) hl') hst1
theorem s_astore {i : Nat} (hd : decode cc pc = .ok (.astore i, 2)) (hi : i < nL) (K : KS l D cI cS cM own mn cc nL ret R false (pc + 2) d k) : KS l D cI cS cM own mn cc nL ret R false pc (d + 1) (o_astore i k) := by
  intro kls kst kh rv kh' hl hk
  obtain ⟨w, r, rfl, hk1⟩ := k_top_some hk
  obtain ⟨n, rfl, hk2⟩ := k_ref_some hk1
  intro p e s m args below meth c A as0 as es H locs ls st C hA hp hh hP hD hS hL hst
  obtain ⟨v, st, rfl, hv, hst1⟩ := k_vs_cons hst
  obtain ⟨lv, h1, h2, h3⟩ := hL
  have go := fun ls' hl' => K _ _ kh rv kh' (by simpa using hl) hk2 p e s m args below meth c A as0 as es H locs ls' _ C hA hp hh hP hD hS (k_ls.put (kv := k_r n) (i := i) h2 (h3 rfl) hv (by simp) hl') hst1
  cases n with
  | zero =>
    have : v = .null := hv
    subst this
    exact lv_astoreN C.1 C.2.1 hd h1 hi rfl go
  | succ q =>
    obtain ⟨a, h4, rfl⟩ := id hv
    exact lv_astore C.1 C.2.1 hd h1 hi rfl go
theorem s_astore_n {j : Fin 4} {i : Nat} (hd : decode cc pc = .ok (.astore_n j, 1)) (hj : (j : Nat) = i) (hi : i < nL) (K : KS l D cI cS cM own mn cc nL ret R false (pc + 1) d k) : KS l D cI cS cM own mn cc nL ret R false pc (d + 1) (o_astore i k) := by
  intro kls kst kh rv kh' hl hk
  obtain ⟨w, r, rfl, hk1⟩ := k_top_some hk
  obtain ⟨n, rfl, hk2⟩ := k_ref_some hk1
  intro p e s m args below meth c A as0 as es H locs ls st C hA hp hh hP hD hS hL hst
  obtain ⟨v, st, rfl, hv, hst1⟩ := k_vs_cons hst
  obtain ⟨lv, h1, h2, h3⟩ := hL
  have go := fun ls' hl' => K _ _ kh rv kh' (by simpa using hl) hk2 p e s m args below meth c A as0 as es H locs ls' _ C hA hp hh hP hD hS (k_ls.put (kv := k_r n) (i := i) h2 (h3 rfl) hv (by simp) hl') hst1
  cases n with
  | zero =>
    have : v = .null := hv
    subst this
    exact lv_astore_nN C.1 C.2.1 hd hj h1 hi rfl go
  | succ q =>
    obtain ⟨a, h4, rfl⟩ := id hv
    exact lv_astore_n C.1 C.2.1 hd hj h1 hi rfl go
theorem s_push1 {z : Int} {n : Nat} (hd : decode cc pc = .ok (.iconst z, 1)) (hv : Int32.ofInt z = nI n) (hn : n < 4294967296) (K : KS l D cI cS cM own mn cc nL ret R lg (pc + 1) (d + 1) k) : KS l D cI cS cM own mn cc nL ret R lg pc d (o_push n k) := by
  intro kls kst kh rv kh' hl hk
  intro p e s m args below meth c A as0 as es H locs ls st C hA hp hh hP hD hS hL hst
  refine lv_iconst C.1 C.2.1 hd hv ?_
  exact K kls _ kh rv kh' (by simp [hl]) hk p e s m args below meth c A as0 as es H locs ls _ C hA hp hh hP hD hS hL ⟨⟨hn, rfl⟩, hst⟩
theorem s_push2 {z : Int} {n : Nat} (hd : decode cc pc = .ok (.bipush z, 2)) (hv : (Int8.ofInt z).toInt32 = nI n) (hn : n < 4294967296) (K : KS l D cI cS cM own mn cc nL ret R lg (pc + 2) (d + 1) k) : KS l D cI cS cM own mn cc nL ret R lg pc d (o_push n k) := by
  intro kls kst kh rv kh' hl hk
  intro p e s m args below meth c A as0 as es H locs ls st C hA hp hh hP hD hS hL hst
  refine lv_bipush C.1 C.2.1 hd hv ?_
  exact K kls _ kh rv kh' (by simp [hl]) hk p e s m args below meth c A as0 as es H locs ls _ C hA hp hh hP hD hS hL ⟨⟨hn, rfl⟩, hst⟩
theorem s_push3 {z : Int} {n : Nat} (hd : decode cc pc = .ok (.sipush z, 3)) (hv : (Int16.ofInt z).toInt32 = nI n) (hn : n < 4294967296) (K : KS l D cI cS cM own mn cc nL ret R lg (pc + 3) (d + 1) k) : KS l D cI cS cM own mn cc nL ret R lg pc d (o_push n k) := by
  intro kls kst kh rv kh' hl hk
  intro p e s m args below meth c A as0 as es H locs ls st C hA hp hh hP hD hS hL hst
  refine lv_sipush C.1 C.2.1 hd hv ?_
  exact K kls _ kh rv kh' (by simp [hl]) hk p e s m args below meth c A as0 as es H locs ls _ C hA hp hh hP hD hS hL ⟨⟨hn, rfl⟩, hst⟩
theorem s_iinc {i n : Nat} {z : Int} (hd : decode cc pc = .ok (.iinc i z, 3)) (hv : Int32.ofInt z = nI n) (hi : i < nL) (K : KS l D cI cS cM own mn cc nL ret R false (pc + 3) d k) : KS l D cI cS cM own mn cc nL ret R false pc d (o_iinc i n k) := by
  intro kls kst kh rv kh' hl hk
  obtain ⟨x, e1, hk1⟩ := k_int_some hk
  rw [kseq_eq] at hk1
  intro p e s m args below meth c A as0 as es H locs ls st C hA hp hh hP hD hS hL hst
  obtain ⟨lv, h1, h2, h3⟩ := hL
  rcases h2 i _ (kget_some e1 (by simp)) with q | ⟨v, q1, q2⟩
  · cases q
  obtain ⟨hn, rfl⟩ := id q2
  obtain ⟨j, hj⟩ := List.getElem?_of_mem q1
  have e2 : nI x + Int32.ofInt z = nI (n_add x n) := by rw [hv, kn_add]
  refine lv_iinc C.1 C.2.1 hd h1 hj e2 hi rfl fun ls' hl' => ?_
  exact K _ _ kh rv kh' hl hk1 p e s m args below meth c A as0 as es H locs ls' _ C hA hp hh hP hD hS (k_ls.put (kv := k_i (n_add x n)) h2 (h3 rfl) ⟨Nat.mod_lt _ (by decide), rfl⟩ (by simp) hl') hst
theorem s_bin {f : Nat → Nat → Nat} (kk : ∀ (as0 as : List Nat) {p : Program} {e : Env} {s : State} {m : MethodId} {args : Array Value} {below : List Frame} {meth : Method} {c : Code} {H : Heap} {locs : List Loc} {Q : State → Prop} {ls : Array Slot} {rest : List Value} (x y : Nat), p.tables.exec = Jvm.exec → c.code = cc → x < 4294967296 → y < 4294967296 → (f x y < 4294967296 ∧ (W p l e R s m args below meth c H locs 0 0 Q (F0 m (pc + 1) ls (.int (nI (f x y)) :: rest)) → W p l e R s m args below meth c H locs 0 0 Q (F0 m pc ls (.int (nI y) :: .int (nI x) :: rest))))) (K : KS l D cI cS cM own mn cc nL ret R lg (pc + 1) (d + 1) k) : KS l D cI cS cM own mn cc nL ret R lg pc (d + 2) (o_bin f k) := by
  intro kls kst kh rv kh' hl hk
  obtain ⟨w, r, rfl, hk1⟩ := k_top_some hk
  obtain ⟨w2, r, rfl, hk2⟩ := k_top_some hk1
  obtain ⟨b, rfl, hk3⟩ := k_int_some hk2
  obtain ⟨a, rfl, hk4⟩ := k_int_some hk3
  rw [kseq_eq] at hk4
  intro p e s m args below meth c A as0 as es H locs ls st C hA hp hh hP hD hS hL hst
  obtain ⟨v, st, rfl, ⟨hb, rfl⟩, hst1⟩ := k_vs_cons hst
  obtain ⟨v, st, rfl, ⟨ha, rfl⟩, hst2⟩ := k_vs_cons hst1
  obtain ⟨h1, h2⟩ := kk as0 as (p := p) (e := e) (s := s) (m := m) (args := args) (below := below) (meth := meth) (c := c) (H := H) (locs := locs) (ls := ls) (rest := st) a b C.1 C.2.1 ha hb
  exact h2 (K _ _ kh rv kh' (by simpa using hl) hk4 p e s m args below meth c A as0 as es H locs ls _ C hA hp hh hP hD hS hL ⟨⟨h1, rfl⟩, hst2⟩)
theorem s_iadd (hd : decode cc pc = .ok (.iadd, 1)) (K : KS l D cI cS cM own mn cc nL ret R lg (pc + 1) (d + 1) k) : KS l D cI cS cM own mn cc nL ret R lg pc (d + 2) (o_bin n_add k) :=
  s_bin (fun _ _ _ _ _ _ _ _ _ _ _ _ _ _ _ x y hx hb _ _ => ⟨Nat.mod_lt _ (by decide), fun h => lv_iadd hx hb hd (by rw [← kn_add]; exact h)⟩) K
theorem s_isub (hd : decode cc pc = .ok (.isub, 1)) (K : KS l D cI cS cM own mn cc nL ret R lg (pc + 1) (d + 1) k) : KS l D cI cS cM own mn cc nL ret R lg pc (d + 2) (o_bin n_sub k) :=
  s_bin (fun _ _ _ _ _ _ _ _ _ _ _ _ _ _ _ x y hx hb _ h2 => ⟨Nat.mod_lt _ (by decide), fun h => lv_isub hx hb hd (by rw [← kn_sub (by omega)]; exact h)⟩) K
theorem s_imul (hd : decode cc pc = .ok (.imul, 1)) (K : KS l D cI cS cM own mn cc nL ret R lg (pc + 1) (d + 1) k) : KS l D cI cS cM own mn cc nL ret R lg pc (d + 2) (o_bin n_mul k) :=
  s_bin (fun _ _ _ _ _ _ _ _ _ _ _ _ _ _ _ x y hx hb _ _ => ⟨Nat.mod_lt _ (by decide), fun h => lv_imul hx hb hd (by rw [← kn_mul]; exact h)⟩) K
theorem s_iand (hd : decode cc pc = .ok (.iand, 1)) (K : KS l D cI cS cM own mn cc nL ret R lg (pc + 1) (d + 1) k) : KS l D cI cS cM own mn cc nL ret R lg pc (d + 2) (o_bin n_and k) :=
  s_bin (fun _ _ _ _ _ _ _ _ _ _ _ _ _ _ _ x y hx hb h1 h2 => ⟨Nat.lt_of_le_of_lt Nat.and_le_left h1, fun h => lv_iand hx hb hd (by rw [← kn_and]; exact h)⟩) K
theorem s_ior (hd : decode cc pc = .ok (.ior, 1)) (K : KS l D cI cS cM own mn cc nL ret R lg (pc + 1) (d + 1) k) : KS l D cI cS cM own mn cc nL ret R lg pc (d + 2) (o_bin n_or k) :=
  s_bin (fun _ _ _ _ _ _ _ _ _ _ _ _ _ _ _ x y hx hb h1 h2 => ⟨Nat.or_lt_two_pow (n := 32) h1 h2, fun h => lv_ior hx hb hd (by rw [← kn_or]; exact h)⟩) K
theorem s_divr {f : Nat → Nat → Nat} (kk : ∀ {p : Program} {e : Env} {s : State} {m : MethodId} {args : Array Value} {below : List Frame} {meth : Method} {c : Code} {H : Heap} {locs : List Loc} {Q : State → Prop} {ls : Array Slot} {rest : List Value} (x y : Nat), p.tables.exec = Jvm.exec → c.code = cc → x < 4294967296 → 0 < y → y < 2147483648 → (f x y < 4294967296 ∧ (W p l e R s m args below meth c H locs 0 0 Q (F0 m (pc + 1) ls (.int (nI (f x y)) :: rest)) → W p l e R s m args below meth c H locs 0 0 Q (F0 m pc ls (.int (nI y) :: .int (nI x) :: rest))))) (K : KS l D cI cS cM own mn cc nL ret R lg (pc + 1) (d + 1) k) : KS l D cI cS cM own mn cc nL ret R lg pc (d + 2) (o_div f k) := by
  intro kls kst kh rv kh' hl hk
  obtain ⟨w, r, rfl, hk1⟩ := k_top_some hk
  obtain ⟨w2, r, rfl, hk2⟩ := k_top_some hk1
  obtain ⟨b, rfl, hk3⟩ := k_int_some hk2
  obtain ⟨a, rfl, hk4⟩ := k_int_some hk3
  cases b with
  | zero => cases hk4
  | succ b =>
    cases hb2 : Nat.blt (b + 1) 2147483648 with
    | false =>
      have hk4 : (Bool.rec none (kseq (f a (b + 1)) fun c => k kls (k_i c :: r) kh) (Nat.blt (b + 1) 2147483648) : KR) = some (rv, kh') := hk4
      rw [hb2] at hk4
      cases hk4
    | true =>
      have hk4 : (Bool.rec none (kseq (f a (b + 1)) fun c => k kls (k_i c :: r) kh) (Nat.blt (b + 1) 2147483648) : KR) = some (rv, kh') := hk4
      rw [hb2] at hk4
      have hk4 : (kseq (f a (b + 1)) fun c => k kls (k_i c :: r) kh) = some (rv, kh') := hk4
      rw [kseq_eq] at hk4
      rw [Nat.blt_eq] at hb2
      intro p e s m args below meth c A as0 as es H locs ls st C hA hp hh hP hD hS hL hst
      obtain ⟨v, st, rfl, ⟨hb, rfl⟩, hst1⟩ := k_vs_cons hst
      obtain ⟨v, st, rfl, ⟨ha, rfl⟩, hst2⟩ := k_vs_cons hst1
      obtain ⟨h1, h2⟩ := kk (p := p) (e := e) (s := s) (m := m) (args := args) (below := below) (meth := meth) (c := c) (H := H) (locs := locs) (ls := ls) (rest := st) a (b + 1) C.1 C.2.1 ha (by omega) hb2
      exact h2 (K _ _ kh rv kh' (by simpa using hl) hk4 p e s m args below meth c A as0 as es H locs ls _ C hA hp hh hP hD hS hL ⟨⟨h1, rfl⟩, hst2⟩)
theorem n_div_lt {a b : Nat} (ha : a < 4294967296) : n_div a b < 4294967296 := by
  unfold n_div
  cases Nat.blt a 2147483648 with
  | true => exact Nat.lt_of_le_of_lt (Nat.div_le_self _ _) ha
  | false => exact Nat.mod_lt _ (by decide)
theorem n_rem_lt {a b : Nat} (ha : a < 4294967296) : n_rem a b < 4294967296 := by
  unfold n_rem
  cases Nat.blt a 2147483648 with
  | true => exact Nat.lt_of_le_of_lt (Nat.mod_le _ _) ha
  | false => exact Nat.mod_lt _ (by decide)
theorem s_idiv (hd : decode cc pc = .ok (.idiv, 1)) (K : KS l D cI cS cM own mn cc nL ret R lg (pc + 1) (d + 1) k) : KS l D cI cS cM own mn cc nL ret R lg pc (d + 2) (o_div n_div k) :=
  s_divr (fun x y hx hb h1 h2 h3 => ⟨n_div_lt h1, fun h => lv_idiv hx hb hd (fun q => by rw [kn_eq0 (by omega)] at q; omega) (by rw [← kn_div0 h1 h2 h3]; exact h)⟩) K
theorem s_irem (hd : decode cc pc = .ok (.irem, 1)) (K : KS l D cI cS cM own mn cc nL ret R lg (pc + 1) (d + 1) k) : KS l D cI cS cM own mn cc nL ret R lg pc (d + 2) (o_div n_rem k) :=
  s_divr (fun x y hx hb h1 h2 h3 => ⟨n_rem_lt h1, fun h => lv_irem hx hb hd (fun q => by rw [kn_eq0 (by omega)] at q; omega) (by rw [← kn_rem0 h1 h2 h3]; exact h)⟩) K
theorem s_ineg (hd : decode cc pc = .ok (.ineg, 1)) (K : KS l D cI cS cM own mn cc nL ret R lg (pc + 1) (d + 1) k) : KS l D cI cS cM own mn cc nL ret R lg pc (d + 1) (o_neg k) := by
  intro kls kst kh rv kh' hl hk
  obtain ⟨w, r, rfl, hk1⟩ := k_top_some hk
  obtain ⟨a, rfl, hk2⟩ := k_int_some hk1
  rw [kseq_eq] at hk2
  intro p e s m args below meth c A as0 as es H locs ls st C hA hp hh hP hD hS hL hst
  obtain ⟨v, st, rfl, ⟨ha, rfl⟩, hst1⟩ := k_vs_cons hst
  refine lv_ineg C.1 C.2.1 hd ?_
  rw [← kn_neg (Nat.le_of_lt ha)]
  exact K _ _ kh rv kh' (by simpa using hl) hk2 p e s m args below meth c A as0 as es H locs ls _ C hA hp hh hP hD hS hL ⟨⟨Nat.mod_lt _ (by decide), rfl⟩, hst1⟩
theorem s_ishl (hd : decode cc pc = .ok (.ishl, 1)) (K : KS l D cI cS cM own mn cc nL ret R lg (pc + 1) (d + 1) k) : KS l D cI cS cM own mn cc nL ret R lg pc (d + 2) (o_shl k) := by
  intro kls kst kh rv kh' hl hk
  obtain ⟨w, r, rfl, hk1⟩ := k_top_some hk
  obtain ⟨w2, r, rfl, hk2⟩ := k_top_some hk1
  obtain ⟨b, rfl, hk3⟩ := k_int_some hk2
  obtain ⟨a, rfl, hk4⟩ := k_int_some hk3
  cases hb2 : Nat.blt b 32 with
  | false => rw [hb2] at hk4; cases hk4
  | true =>
    rw [hb2] at hk4
    have hk4 : (kseq (a * 2 ^ b % 4294967296) fun c => k kls (k_i c :: r) kh) = some (rv, kh') := hk4
    rw [kseq_eq] at hk4
    rw [Nat.blt_eq] at hb2
    intro p e s m args below meth c A as0 as es H locs ls st C hA hp hh hP hD hS hL hst
    obtain ⟨v, st, rfl, ⟨hb, rfl⟩, hst1⟩ := k_vs_cons hst
    obtain ⟨v, st, rfl, ⟨ha, rfl⟩, hst2⟩ := k_vs_cons hst1
    refine lv_ishl C.1 C.2.1 hd ?_
    rw [← kn_shl hb2]
    exact K _ _ kh rv kh' (by simpa using hl) hk4 p e s m args below meth c A as0 as es H locs ls _ C hA hp hh hP hD hS hL ⟨⟨Nat.mod_lt _ (by decide), rfl⟩, hst2⟩
theorem s_ishr (hd : decode cc pc = .ok (.ishr, 1)) (K : KS l D cI cS cM own mn cc nL ret R lg (pc + 1) (d + 1) k) : KS l D cI cS cM own mn cc nL ret R lg pc (d + 2) (o_shr k) := by
  intro kls kst kh rv kh' hl hk
  obtain ⟨w, r, rfl, hk1⟩ := k_top_some hk
  obtain ⟨w2, r, rfl, hk2⟩ := k_top_some hk1
  obtain ⟨b, rfl, hk3⟩ := k_int_some hk2
  obtain ⟨a, rfl, hk4⟩ := k_int_some hk3
  cases ha2 : Nat.blt a 2147483648 with
  | false => rw [ha2] at hk4; cases hk4
  | true =>
  rw [ha2] at hk4
  cases hb2 : Nat.blt b 32 with
  | false => rw [hb2] at hk4; cases hk4
  | true =>
    rw [hb2] at hk4
    have hk4 : (kseq (a / 2 ^ b) fun c => k kls (k_i c :: r) kh) = some (rv, kh') := hk4
    rw [kseq_eq] at hk4
    rw [Nat.blt_eq] at hb2 ha2
    intro p e s m args below meth c A as0 as es H locs ls st C hA hp hh hP hD hS hL hst
    obtain ⟨v, st, rfl, ⟨hb, rfl⟩, hst1⟩ := k_vs_cons hst
    obtain ⟨v, st, rfl, ⟨ha, rfl⟩, hst2⟩ := k_vs_cons hst1
    refine lv_ishr C.1 C.2.1 hd ?_
    rw [← kn_shr ha2 hb2]
    exact K _ _ kh rv kh' (by simpa using hl) hk4 p e s m args below meth c A as0 as es H locs ls _ C hA hp hh hP hD hS hL ⟨⟨Nat.lt_of_le_of_lt (Nat.div_le_self _ _) ha, rfl⟩, hst2⟩
theorem s_goto {off : Int} {tgt : Nat} (hd : decode cc pc = .ok (.goto off, 3)) (ht : (pc : Int) + off = (tgt : Int)) (K : KS l D cI cS cM own mn cc nL ret R lg tgt d k) : KS l D cI cS cM own mn cc nL ret R lg pc d k := by
  intro kls kst kh rv kh' hl hk
  intro p e s m args below meth c A as0 as es H locs ls st C hA hp hh hP hD hS hL hst
  exact lv_goto C.1 C.2.1 hd ht (K kls kst kh rv kh' hl hk p e s m args below meth c A as0 as es H locs ls st C hA hp hh hP hD hS hL hst)

end KO
