/-! ===== K: a small machine of plain lists and numbers; what it answers, the machine answers =====
  A value: int n (n below 2^32, told as a Nat), ref (0: null; k + 1: the cell at place k), long n, unknown.
  A cell: an object (its kind, its fields), an int array as a list (length; entries: 0 unknown, v + 1 the value v), an int array as a function, an array of references (0: Setting[], 1: int[][]; length; entries: 0 unknown, 1 null, k + 2 place k). -/
abbrev KV : Type := Nat ⊕ (Nat ⊕ (Nat ⊕ Unit))
abbrev KCell : Type := (Nat × List KV) ⊕ ((Nat × List Nat) ⊕ ((Nat × (Nat → Nat)) ⊕ (Nat × (Nat × List Nat))))
abbrev KH : Type := List KCell
abbrev KR : Type := Option (List KV × KH)
abbrev KC : Type := List KV → List KV → KH → KR
abbrev k_i (n : Nat) : KV := .inl n
abbrev k_r (n : Nat) : KV := .inr (.inl n)
abbrev k_l (n : Nat) : KV := .inr (.inr (.inl n))
abbrev k_u : KV := .inr (.inr (.inr ()))
abbrev k_ob (c : Nat) (fs : List KV) : KCell := .inl (c, fs)
abbrev k_ar (n : Nat) (xs : List Nat) : KCell := .inr (.inl (n, xs))
abbrev k_af (n : Nat) (f : Nat → Nat) : KCell := .inr (.inr (.inl (n, f)))
abbrev k_rf (t n : Nat) (xs : List Nat) : KCell := .inr (.inr (.inr (t, n, xs)))
noncomputable def kget {α : Type} (d : α) : List α → Nat → α := fun l => List.rec (fun _ => d) (fun a _ ih n => Nat.rec a (fun m _ => ih m) n) l
noncomputable def kset {α : Type} : List α → Nat → α → List α := fun l => List.rec (fun _ _ => []) (fun a l ih n v => Nat.rec (v :: l) (fun m _ => a :: ih m v) n) l
noncomputable def kseq {β : Type} (n : Nat) (k : Nat → β) : β := Nat.rec (k 0) (fun m _ => k (Nat.succ m)) n
theorem kget_eq {α : Type} (d : α) : ∀ (l : List α) (n : Nat), kget d l n = l.getD n d
  | [], n => rfl
  | a :: l, 0 => rfl
  | a :: l, n + 1 => by
    have h : kget d (a :: l) (n + 1) = kget d l n := rfl
    rw [h, kget_eq d l n]
    simp
theorem kset_eq {α : Type} : ∀ (l : List α) (n : Nat) (v : α), kset l n v = l.set n v
  | [], n, v => rfl
  | a :: l, 0, v => rfl
  | a :: l, n + 1, v => by
    have h : kset (a :: l) (n + 1) v = a :: kset l n v := rfl
    rw [h, kset_eq l n v]
    simp
theorem kseq_eq {β : Type} (n : Nat) (k : Nat → β) : kseq n k = k n := by cases n <;> rfl
theorem kget_some {α : Type} {d a : α} {l : List α} {n : Nat} (h : kget d l n = a) (hd : a ≠ d) : l[n]? = some a := by
  rw [kget_eq, List.getD_eq_getElem?_getD] at h
  cases hl : l[n]? with
  | none => rw [hl] at h; exact absurd h.symm hd
  | some b => rw [hl] at h; exact congrArg some h
/-! what a place of the stack, a cell, must be -/
noncomputable def k_top (st : List KV) (k : KV → List KV → KR) : KR := List.rec none (fun v s _ => k v s) st
noncomputable def k_int (v : KV) (k : Nat → KR) : KR := Sum.rec (fun n => k n) (fun _ => none) v
noncomputable def k_ref (v : KV) (k : Nat → KR) : KR := Sum.rec (fun _ => none) (fun q => Sum.rec (fun n => k n) (fun _ => none) q) v
noncomputable def k_lng (v : KV) (k : Nat → KR) : KR := Sum.rec (fun _ => none) (fun q => Sum.rec (fun _ => none) (fun q => Sum.rec (fun n => k n) (fun _ => none) q) q) v
/-- not null: its place -/
noncomputable def k_pl (a : Nat) (k : Nat → KR) : KR := Nat.rec none (fun p _ => k p) a
noncomputable def k_cell (h : KH) (p : Nat) : KCell := kget (k_ob 0 []) h p
noncomputable def k_obj (c : KCell) (k : Nat × List KV → KR) : KR := Sum.rec (fun o => k o) (fun _ => none) c
theorem k_top_some {st : List KV} {k : KV → List KV → KR} {r : List KV × KH} (h : k_top st k = some r) : ∃ v s, st = v :: s ∧ k v s = some r := by
  cases st with
  | nil => cases h
  | cons v s => exact ⟨v, s, rfl, h⟩
theorem k_int_some {v : KV} {k : Nat → KR} {r : List KV × KH} (h : k_int v k = some r) : ∃ n, v = k_i n ∧ k n = some r := by
  cases v with
  | inl n => exact ⟨n, rfl, h⟩
  | inr q => cases h
theorem k_ref_some {v : KV} {k : Nat → KR} {r : List KV × KH} (h : k_ref v k = some r) : ∃ n, v = k_r n ∧ k n = some r := by
  rcases v with n | n | q
  · cases h
  · exact ⟨n, rfl, h⟩
  · cases h
theorem k_lng_some {v : KV} {k : Nat → KR} {r : List KV × KH} (h : k_lng v k = some r) : ∃ n, v = k_l n ∧ k n = some r := by
  rcases v with n | n | n | q
  · cases h
  · cases h
  · exact ⟨n, rfl, h⟩
  · cases h
theorem k_pl_some {a : Nat} {k : Nat → KR} {r : List KV × KH} (h : k_pl a k = some r) : ∃ p, a = p + 1 ∧ k p = some r := by
  cases a with
  | zero => cases h
  | succ p => exact ⟨p, rfl, h⟩
theorem k_obj_some {c : KCell} {k : Nat × List KV → KR} {r : List KV × KH} (h : k_obj c k = some r) : ∃ o, c = .inl o ∧ k o = some r := by
  cases c with
  | inl o => exact ⟨o, rfl, h⟩
  | inr q => cases h
/-! the instructions -/
noncomputable def o_iload (i : Nat) (k : KC) : KC := fun ls st h => k_int (kget k_u ls i) fun n => k ls (k_i n :: st) h
noncomputable def o_aload (i : Nat) (k : KC) : KC := fun ls st h => k_ref (kget k_u ls i) fun n => k ls (k_r n :: st) h
noncomputable def o_istore (i : Nat) (k : KC) : KC := fun ls st h => k_top st fun v st => k_int v fun n => k (kset ls i (k_i n)) st h
noncomputable def o_astore (i : Nat) (k : KC) : KC := fun ls st h => k_top st fun v st => k_ref v fun n => k (kset ls i (k_r n)) st h
noncomputable def o_push (n : Nat) (k : KC) : KC := fun ls st h => k ls (k_i n :: st) h
noncomputable def o_iinc (i c : Nat) (k : KC) : KC := fun ls st h => k_int (kget k_u ls i) fun n => kseq (Nat.mod (Nat.add n c) 4294967296) fun n => k (kset ls i (k_i n)) st h
noncomputable def o_bin (f : Nat → Nat → Nat) (k : KC) : KC := fun ls st h => k_top st fun b st => k_top st fun a st => k_int b fun b => k_int a fun a => kseq (f a b) fun c => k ls (k_i c :: st) h
def n_add (a b : Nat) : Nat := Nat.mod (Nat.add a b) 4294967296
def n_sub (a b : Nat) : Nat := Nat.mod (Nat.add a (Nat.sub 4294967296 b)) 4294967296
def n_mul (a b : Nat) : Nat := Nat.mod (Nat.mul a b) 4294967296
def n_and (a b : Nat) : Nat := Nat.land a b
def n_or (a b : Nat) : Nat := Nat.lor a b
/-- signed, by a positive divisor -/
noncomputable def n_div (a b : Nat) : Nat := Bool.rec (Nat.mod (Nat.sub 4294967296 (Nat.div (Nat.sub 4294967296 a) b)) 4294967296) (Nat.div a b) (Nat.blt a 2147483648)
noncomputable def n_rem (a b : Nat) : Nat := Bool.rec (Nat.mod (Nat.sub 4294967296 (Nat.mod (Nat.sub 4294967296 a) b)) 4294967296) (Nat.mod a b) (Nat.blt a 2147483648)
noncomputable def o_div (f : Nat → Nat → Nat) (k : KC) : KC := fun ls st h => k_top st fun b st => k_top st fun a st => k_int b fun b => k_int a fun a => Nat.rec none (fun _ _ => Bool.rec none (kseq (f a b) fun c => k ls (k_i c :: st) h) (Nat.blt b 2147483648)) b
noncomputable def o_neg (k : KC) : KC := fun ls st h => k_top st fun a st => k_int a fun a => kseq (Nat.mod (Nat.sub 4294967296 a) 4294967296) fun c => k ls (k_i c :: st) h
/-- shifts by less than 32; to the right of what is not negative -/
noncomputable def o_shl (k : KC) : KC := fun ls st h => k_top st fun b st => k_top st fun a st => k_int b fun b => k_int a fun a => Bool.rec none (kseq (Nat.mod (Nat.mul a (Nat.pow 2 b)) 4294967296) fun c => k ls (k_i c :: st) h) (Nat.blt b 32)
noncomputable def o_shr (k : KC) : KC := fun ls st h => k_top st fun b st => k_top st fun a st => k_int b fun b => k_int a fun a => Bool.rec none (Bool.rec none (kseq (Nat.div a (Nat.pow 2 b)) fun c => k ls (k_i c :: st) h) (Nat.blt b 32)) (Nat.blt a 2147483648)
noncomputable def o_dup (k : KC) : KC := fun ls st h => k_top st fun v st => k_ref v fun a => k ls (k_r a :: k_r a :: st) h
noncomputable def o_dup2 (k : KC) : KC := fun ls st h => k_top st fun b st => k_top st fun a st => k_int b fun b => k_ref a fun a => k ls (k_i b :: k_r a :: k_i b :: k_r a :: st) h
noncomputable def o_pop (k : KC) : KC := fun ls st h => k_top st fun v st => k_int v fun _ => k ls st h
def s_lt (a b : Nat) : Bool := Nat.blt (Nat.mod (Nat.add a 2147483648) 4294967296) (Nat.mod (Nat.add b 2147483648) 4294967296)
def s_gt (a b : Nat) : Bool := s_lt b a
noncomputable def o_c2 (f : Nat → Nat → Bool) (t k : KC) : KC := fun ls st h => k_top st fun b st => k_top st fun a st => k_int b fun b => k_int a fun a => Bool.rec (k ls st h) (t ls st h) (f a b)
noncomputable def g_lt (x y : KR) (a : Nat) : KR := Bool.rec x y (Nat.blt a 2147483648)
noncomputable def g_eq (x y : KR) (a : Nat) : KR := Nat.rec x (fun _ _ => y) a
noncomputable def g_gt (x y : KR) (a : Nat) : KR := Nat.rec y (fun _ _ => Bool.rec y x (Nat.blt a 2147483648)) a
/-- below 0, 0, above 0: to t, else to k -/
noncomputable def o_c1 (g : KR → KR → Nat → KR) (t k : KC) : KC := fun ls st h => k_top st fun a st => k_int a fun a => g (t ls st h) (k ls st h) a
/-- a field of an object of kind c -/
noncomputable def o_get (c s : Nat) (k : KC) : KC := fun ls st h => k_top st fun v st => k_ref v fun a => k_pl a fun p => k_obj (k_cell h p) fun o => Bool.rec none (k ls (kget k_u o.2 s :: st) h) (Nat.beq o.1 c)
noncomputable def k_fld (c s : Nat) (w : KV) (v : KV) (h : KH) (k : KH → KR) : KR := k_ref v fun a => k_pl a fun p => k_obj (k_cell h p) fun o => Bool.rec none (k (kset h p (k_ob o.1 (kset o.2 s w)))) (Nat.beq o.1 c)
noncomputable def o_puti (c s : Nat) (k : KC) : KC := fun ls st h => k_top st fun w st => k_top st fun v st => k_int w fun n => k_fld c s (k_i n) v h fun h => k ls st h
noncomputable def o_putz (c s : Nat) (k : KC) : KC := fun ls st h => k_top st fun w st => k_top st fun v st => k_int w fun n => Bool.rec none (k_fld c s (k_i n) v h fun h => k ls st h) (Nat.blt n 2)
noncomputable def o_putr (c s : Nat) (k : KC) : KC := fun ls st h => k_top st fun w st => k_top st fun v st => k_ref w fun n => k_fld c s (k_r n) v h fun h => k ls st h
noncomputable def o_putl (c s : Nat) (k : KC) : KC := fun ls st h => k_top st fun w st => k_top st fun v st => k_lng w fun n => k_fld c s (k_l n) v h fun h => k ls st h
/-- an entry that is known -/
noncomputable def k_kn (e : Nat) (k : Nat → KR) : KR := Nat.rec none (fun n _ => k n) e
theorem k_kn_some {a : Nat} {k : Nat → KR} {r : List KV × KH} (h : k_kn a k = some r) : ∃ p, a = p + 1 ∧ k p = some r := k_pl_some h
noncomputable def o_iald (k : KC) : KC := fun ls st h => k_top st fun i st => k_top st fun v st => k_int i fun i => k_ref v fun a => k_pl a fun p =>
  Sum.rec (fun _ => none) (fun q => Sum.rec (fun x => k_kn (kget 0 x.2 i) fun n => k ls (k_i n :: st) h) (fun q => Sum.rec (fun x => Bool.rec none (k_kn (x.2 i) fun n => k ls (k_i n :: st) h) (Nat.blt i x.1)) (fun _ => none) q) q) (k_cell h p)
noncomputable def o_iast (k : KC) : KC := fun ls st h => k_top st fun w st => k_top st fun i st => k_top st fun v st => k_int w fun w => k_int i fun i => k_ref v fun a => k_pl a fun p =>
  Sum.rec (fun _ => none) (fun q => Sum.rec (fun x => Bool.rec none (k ls st (kset h p (k_ar x.1 (kset x.2 i (Nat.succ w))))) (Nat.blt i x.1)) (fun q => Sum.rec (fun x => Bool.rec none (k ls st (kset h p (k_af x.1 (fun j => Bool.rec (x.2 j) (Nat.succ w) (Nat.beq j i))))) (Nat.blt i x.1)) (fun _ => none) q) q) (k_cell h p)
noncomputable def o_aald (k : KC) : KC := fun ls st h => k_top st fun i st => k_top st fun v st => k_int i fun i => k_ref v fun a => k_pl a fun p =>
  Sum.rec (fun _ => none) (fun q => Sum.rec (fun _ => none) (fun q => Sum.rec (fun _ => none) (fun x => k_kn (kget 0 x.2.2 i) fun n => k ls (k_r n :: st) h) q) q) (k_cell h p)
/-- into Setting[] (kind t = 0) an object of kind c; into int[][] (t = 1) an int array -/
noncomputable def k_fits (t c : Nat) (x : KCell) (k : KR) : KR := Sum.rec (fun o => Bool.rec none (Bool.rec none k (Nat.beq o.1 c)) (Nat.beq t 0)) (fun q => Sum.rec (fun _ => Bool.rec none k (Nat.beq t 1)) (fun q => Sum.rec (fun _ => Bool.rec none k (Nat.beq t 1)) (fun _ => none) q) q) x
noncomputable def o_aast (c : Nat) (k : KC) : KC := fun ls st h => k_top st fun w st => k_top st fun i st => k_top st fun v st => k_ref w fun w => k_pl w fun wp => k_int i fun i => k_ref v fun a => k_pl a fun p =>
  Sum.rec (fun _ => none) (fun q => Sum.rec (fun _ => none) (fun q => Sum.rec (fun _ => none) (fun x => k_fits x.1 c (k_cell h wp) (Bool.rec none (k ls st (kset h p (k_rf x.1 x.2.1 (kset x.2.2 i (Nat.succ (Nat.succ wp)))))) (Nat.blt i x.2.1))) q) q) (k_cell h p)
noncomputable def o_alen (k : KC) : KC := fun ls st h => k_top st fun v st => k_ref v fun a => k_pl a fun p =>
  Sum.rec (fun _ => none) (fun q => Sum.rec (fun x => k ls (k_i x.1 :: st) h) (fun q => Sum.rec (fun x => k ls (k_i x.1 :: st) h) (fun _ => none) q) q) (k_cell h p)
noncomputable def o_ret : KC := fun _ _ h => some ([], h)
noncomputable def o_iret : KC := fun _ st h => k_top st fun v _ => k_int v fun n => some ([k_i n], h)
noncomputable def o_zret : KC := fun _ st h => k_top st fun v _ => k_int v fun n => Bool.rec none (some ([k_i n], h)) (Nat.blt n 2)
noncomputable def o_lret : KC := fun _ st h => k_top st fun v _ => k_lng v fun n => some ([k_l n], h)
/-- n of the stack, the deepest first -/
noncomputable def k_args (n : Nat) : List KV → List KV → (List KV → List KV → KR) → KR := Nat.rec (fun st acc k => k acc st) (fun _ ih st acc k => k_top st fun v st => ih st (v :: acc) k) n
noncomputable def k_res (r : KR) (k : List KV → KH → KR) : KR := Option.rec none (fun x => k x.1 x.2) r
noncomputable def k_app0 (r : List KV) (k : KR) : KR := List.rec k (fun _ _ _ => none) r
noncomputable def k_app1 (r : List KV) (k : KV → KR) : KR := List.rec none (fun v _ _ => k v) r
abbrev KF : Type := List KV → KH → KR
/-- a call without a receiver (S), with one of kind c (V); without an answer (0), with one (1) -/
noncomputable def o_cS0 (n : Nat) (F : KF) (k : KC) : KC := fun ls st h => k_args n st [] fun as st => k_res (F as h) fun r h => k_app0 r (k ls st h)
noncomputable def o_cS1 (n : Nat) (F : KF) (k : KC) : KC := fun ls st h => k_args n st [] fun as st => k_res (F as h) fun r h => k_app1 r fun v => k ls (v :: st) h
noncomputable def k_recv (c : Nat) (as : List KV) (h : KH) (k : KR) : KR := k_top as fun v _ => k_ref v fun a => k_pl a fun p => k_obj (k_cell h p) fun o => Bool.rec none k (Nat.beq o.1 c)
noncomputable def o_cV0 (n c : Nat) (F : KF) (k : KC) : KC := fun ls st h => k_args n st [] fun as st => k_recv c as h (k_res (F as h) fun r h => k_app0 r (k ls st h))
noncomputable def o_cV1 (n c : Nat) (F : KF) (k : KC) : KC := fun ls st h => k_args n st [] fun as st => k_recv c as h (k_res (F as h) fun r h => k_app1 r fun v => k ls (v :: st) h)
/-- a method: its arguments are ints and references; us: the other locals, unknown -/
noncomputable def kcat (l m : List KV) : List KV := List.rec m (fun a _ ih => a :: ih) l
noncomputable def k_chk (as : List KV) (k : KR) : KR := List.rec k (fun v _ ih => Sum.rec (fun _ => ih) (fun q => Sum.rec (fun _ => ih) (fun _ => none) q) v) as
noncomputable def k_fun (us : List KV) (k : KC) : KF := fun ka kh => k_chk ka (k (kcat ka us) [] kh)
/-- the heads of its loops, n times -/
def k_no : KC := fun _ _ _ => none
noncomputable def k_loop (bs : List KC → List KC) (n : Nat) : List KC := Nat.rec [] (fun _ ih => bs ih) n
noncomputable def k_jmp (J : List KC) (i : Nat) : KC := kget k_no J i
/-- a table of places, from 0 on: the n-th, or d -/
noncomputable def o_switch (ts : List KC) (d : KC) : KC := fun ls st h => k_top st fun v st => k_int v fun n => kget d ts n ls st h
/-- two places by their numbers, or d -/
noncomputable def o_look (a b : Nat) (s t d : KC) : KC := fun ls st h => k_top st fun v st => k_int v fun n => Bool.rec (Bool.rec (d ls st h) (t ls st h) (Nat.beq n b)) (s ls st h) (Nat.beq n a)
/-! longs -/
noncomputable def o_lpush (n : Nat) (k : KC) : KC := fun ls st h => k ls (k_l n :: st) h
noncomputable def o_i2l (k : KC) : KC := fun ls st h => k_top st fun v st => k_int v fun n => kseq (Bool.rec (Nat.add n 18446744069414584320) n (Nat.blt n 2147483648)) fun c => k ls (k_l c :: st) h
noncomputable def o_lbin (f : Nat → Nat → Nat) (k : KC) : KC := fun ls st h => k_top st fun b st => k_top st fun a st => k_lng b fun b => k_lng a fun a => kseq (f a b) fun c => k ls (k_l c :: st) h
def l_add (a b : Nat) : Nat := Nat.mod (Nat.add a b) 18446744073709551616
def l_mul (a b : Nat) : Nat := Nat.mod (Nat.mul a b) 18446744073709551616
noncomputable def o_lload (i : Nat) (k : KC) : KC := fun ls st h => k_lng (kget k_u ls i) fun n => k ls (k_l n :: st) h
/-- a long into the places i and i + 1, an int into a place, in a method with longs: the place before it holds none -/
noncomputable def k_nolong (v : KV) (k : KR) : KR := Sum.rec (fun _ => k) (fun q => Sum.rec (fun _ => k) (fun q => Sum.rec (fun _ => none) (fun _ => k) q) q) v
noncomputable def o_lstore (i : Nat) (k : KC) : KC := fun ls st h => k_top st fun v st => k_lng v fun n => k_nolong (kget k_u ls (Nat.pred i)) (k (kset (kset ls i (k_l n)) (Nat.succ i) k_u) st h)
noncomputable def o_istoreL (i : Nat) (k : KC) : KC := fun ls st h => k_top st fun v st => k_int v fun n => k_nolong (kget k_u ls (Nat.pred i)) (k (kset ls i (k_i n)) st h)
noncomputable def o_iincL (i c : Nat) (k : KC) : KC := fun ls st h => k_int (kget k_u ls i) fun n => k_nolong (kget k_u ls (Nat.pred i)) (kseq (Nat.mod (Nat.add n c) 4294967296) fun n => k (kset ls i (k_i n)) st h)
