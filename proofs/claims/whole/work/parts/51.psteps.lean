/-! ===== an instruction of K, a row: beside P ===== -/
section PE
variable {β : Type} {r : β} {R : KR} {S : List KV × KH} {k t : KC} {ls ls' st st0 as : List KV} {hh hh' h1 : KH} {fs : List KV}
theorem e_iload {i n : Nat} (hl : kget k_u ls i = k_i n) (hk : k ls (k_i n :: st) hh = R) : o_iload i k ls st hh = R := by
  unfold o_iload
  rw [hl]
  exact hk
theorem e_aload {i n : Nat} (hl : kget k_u ls i = k_r n) (hk : k ls (k_r n :: st) hh = R) : o_aload i k ls st hh = R := by
  unfold o_aload
  rw [hl]
  exact hk
theorem e_push {n : Nat} (hk : k ls (k_i n :: st) hh = R) : o_push n k ls st hh = R := hk
theorem e_istore {i n : Nat} (hl : kset ls i (k_i n) = ls') (hk : k ls' st hh = R) : o_istore i k ls (k_i n :: st) hh = R := by
  subst hl
  exact hk
theorem e_astore {i n : Nat} (hl : kset ls i (k_r n) = ls') (hk : k ls' st hh = R) : o_astore i k ls (k_r n :: st) hh = R := by
  subst hl
  exact hk
theorem e_iinc {i n c : Nat} {p : Nat → Option β} {lf : Nat → List KV} (h : kseq (Nat.mod (Nat.add n c) 4294967296) p = some r) (hl : kget k_u ls i = k_i n) (hs : ∀ x, kset ls i (k_i x) = lf x) (hk : ∀ x, p x = some r → k (lf x) st hh = some S) : o_iinc i c k ls st hh = some S := by
  unfold o_iinc
  rw [hl]
  show kseq (Nat.mod (Nat.add n c) 4294967296) (fun n => k (kset ls i (k_i n)) st hh) = some S
  refine tb_seq h (fun x h => ?_)
  show k (kset ls i (k_i x)) st hh = some S
  rw [hs x]
  exact hk x h
theorem e_bin {f : Nat → Nat → Nat} {a b : Nat} {p : Nat → Option β} (h : kseq (f a b) p = some r) (hk : ∀ x, p x = some r → k ls (k_i x :: st) hh = some S) : o_bin f k ls (k_i b :: k_i a :: st) hh = some S := tb_seq (k := fun c => k ls (k_i c :: st) hh) h hk
theorem e_div {f : Nat → Nat → Nat} {a b : Nat} {p : Nat → Option β} (h : pd b (kseq (f a b) p) = some r) (hk : ∀ x, p x = some r → k ls (k_i x :: st) hh = some S) : o_div f k ls (k_i b :: k_i a :: st) hh = some S := tb_d (k := kseq (f a b) fun c => k ls (k_i c :: st) hh) h (fun h => tb_seq (k := fun c => k ls (k_i c :: st) hh) h hk)
theorem e_divL {f : Nat → Nat → Nat} {a b b' : Nat} {p : Nat → Option β} (hb : b = Nat.succ b') (hb2 : Nat.blt b 2147483648 = true) (h : kseq (f a b) p = some r) (hk : ∀ x, p x = some r → k ls (k_i x :: st) hh = some S) : o_div f k ls (k_i b :: k_i a :: st) hh = some S := by
  refine e_div (p := p) ?_ hk
  subst hb
  unfold pd
  show (Bool.rec none (kseq (f a (Nat.succ b')) p) (Nat.blt (Nat.succ b') 2147483648) : Option β) = some r
  rw [hb2]
  exact h
theorem e_neg {a : Nat} {p : Nat → Option β} (h : kseq (Nat.mod (Nat.sub 4294967296 a) 4294967296) p = some r) (hk : ∀ x, p x = some r → k ls (k_i x :: st) hh = some S) : o_neg k ls (k_i a :: st) hh = some S := tb_seq (k := fun c => k ls (k_i c :: st) hh) h hk
theorem e_shl {a b : Nat} {p : Nat → Option β} (h : pq (Nat.blt b 32) (kseq (Nat.mod (Nat.mul a (Nat.pow 2 b)) 4294967296) p) = some r) (hk : ∀ x, p x = some r → k ls (k_i x :: st) hh = some S) : o_shl k ls (k_i b :: k_i a :: st) hh = some S := tb_g (k := kseq (Nat.mod (Nat.mul a (Nat.pow 2 b)) 4294967296) fun c => k ls (k_i c :: st) hh) h (fun h => tb_seq (k := fun c => k ls (k_i c :: st) hh) h hk)
theorem e_shr {a b : Nat} {p : Nat → Option β} (h : pq (Nat.blt a 2147483648) (pq (Nat.blt b 32) (kseq (Nat.div a (Nat.pow 2 b)) p)) = some r) (hk : ∀ x, p x = some r → k ls (k_i x :: st) hh = some S) : o_shr k ls (k_i b :: k_i a :: st) hh = some S := by
  obtain ⟨h1, h⟩ := pq_some h
  obtain ⟨h2, h⟩ := pq_some h
  show (Bool.rec none (Bool.rec none (kseq (Nat.div a (Nat.pow 2 b)) fun c => k ls (k_i c :: st) hh) (Nat.blt b 32)) (Nat.blt a 2147483648) : KR) = some S
  rw [h1, h2]
  exact tb_seq (k := fun c => k ls (k_i c :: st) hh) h hk
theorem e_dup {a : Nat} (hk : k ls (k_r a :: k_r a :: st) hh = R) : o_dup k ls (k_r a :: st) hh = R := hk
theorem e_dup2 {a b : Nat} (hk : k ls (k_i b :: k_r a :: k_i b :: k_r a :: st) hh = R) : o_dup2 k ls (k_i b :: k_r a :: st) hh = R := hk
theorem e_pop {a : Nat} (hk : k ls st hh = R) : o_pop k ls (k_i a :: st) hh = R := hk
theorem e_get {c s q : Nat} {v : KV} (hc : k_cell hh q = k_ob c fs) (hf : kget k_u fs s = v) (hk : k ls (v :: st) hh = R) : o_get c s k ls (k_r (Nat.succ q) :: st) hh = R := by
  show k_obj (k_cell hh q) (fun o => Bool.rec none (k ls (kget k_u o.2 s :: st) hh) (Nat.beq o.1 c)) = R
  rw [hc]
  show (Bool.rec none (k ls (kget k_u fs s :: st) hh) (Nat.beq c c) : KR) = R
  rw [hf, Nat.beq_refl]
  exact hk
theorem k_fld_e {c s q : Nat} {w : KV} {k : KH → KR} (hc : k_cell hh q = k_ob c fs) (he : kset hh q (k_ob c (kset fs s w)) = hh') (hk : k hh' = R) : k_fld c s w (k_r (Nat.succ q)) hh k = R := by
  show k_obj (k_cell hh q) (fun o => Bool.rec none (k (kset hh q (k_ob o.1 (kset o.2 s w)))) (Nat.beq o.1 c)) = R
  rw [hc]
  show (Bool.rec none (k (kset hh q (k_ob c (kset fs s w)))) (Nat.beq c c) : KR) = R
  rw [he, Nat.beq_refl]
  exact hk
theorem e_puti {c s q n : Nat} (hc : k_cell hh q = k_ob c fs) (he : kset hh q (k_ob c (kset fs s (k_i n))) = hh') (hk : k ls st hh' = R) : o_puti c s k ls (k_i n :: k_r (Nat.succ q) :: st) hh = R := k_fld_e (k := fun h => k ls st h) hc he hk
theorem e_putl {c s q n : Nat} (hc : k_cell hh q = k_ob c fs) (he : kset hh q (k_ob c (kset fs s (k_l n))) = hh') (hk : k ls st hh' = R) : o_putl c s k ls (k_l n :: k_r (Nat.succ q) :: st) hh = R := k_fld_e (k := fun h => k ls st h) hc he hk
theorem e_putz {c s q n : Nat} {p : Option β} (h : pq (Nat.blt n 2) p = some r) (hc : k_cell hh q = k_ob c fs) (he : kset hh q (k_ob c (kset fs s (k_i n))) = hh') (hk : p = some r → k ls st hh' = some S) : o_putz c s k ls (k_i n :: k_r (Nat.succ q) :: st) hh = some S := tb_g (k := k_fld c s (k_i n) (k_r (Nat.succ q)) hh fun h => k ls st h) h (fun h => k_fld_e (k := fun h => k ls st h) hc he (hk h))
theorem e_iald {q i m : Nat} {f : Nat → Nat} {p : Nat → Option β} (h : pq (Nat.blt i m) (pn (f i) p) = some r) (hc : k_cell hh q = k_af m f) (hk : ∀ x, p x = some r → k ls (k_i x :: st) hh = some S) : o_iald k ls (k_i i :: k_r (Nat.succ q) :: st) hh = some S := by
  show Sum.rec (fun _ => none) (fun u => Sum.rec (fun x => k_kn (kget 0 x.2 i) fun n => k ls (k_i n :: st) hh) (fun u => Sum.rec (fun x => Bool.rec none (k_kn (x.2 i) fun n => k ls (k_i n :: st) hh) (Nat.blt i x.1)) (fun _ => none) u) u) (k_cell hh q) = some S
  rw [hc]
  exact tb_g (k := k_kn (f i) fun n => k ls (k_i n :: st) hh) h (fun h => tb_n (k := fun n => k ls (k_i n :: st) hh) h hk)
theorem e_iast0 {q i m v : Nat} {f : Nat → Nat} {p : Option β} (h : pq (Nat.blt i m) p = some r) (hc : k_cell hh q = k_af m f) (hk : p = some r → k ls st (kset hh q (k_af m (uf f i (Nat.succ v)))) = some S) : o_iast k ls (k_i v :: k_i i :: k_r (Nat.succ q) :: st) hh = some S := by
  show Sum.rec (fun _ => none) (fun u => Sum.rec (fun x => Bool.rec none (k ls st (kset hh q (k_ar x.1 (kset x.2 i (Nat.succ v))))) (Nat.blt i x.1)) (fun u => Sum.rec (fun x => Bool.rec none (k ls st (kset hh q (k_af x.1 (fun j => Bool.rec (x.2 j) (Nat.succ v) (Nat.beq j i))))) (Nat.blt i x.1)) (fun _ => none) u) u) (k_cell hh q) = some S
  rw [hc]
  exact tb_g (k := k ls st (kset hh q (k_af m (uf f i (Nat.succ v))))) h hk
theorem e_iastF {q i m v : Nat} {f : Nat → Nat} {p : Option β} (h : pq (Nat.blt i m) p = some r) (hc : k_cell hh q = k_af m f) (he : kset hh q (k_af m (uf f i (Nat.succ v))) = hh') (hk : p = some r → k ls st hh' = some S) : o_iast k ls (k_i v :: k_i i :: k_r (Nat.succ q) :: st) hh = some S := e_iast0 h hc (fun h => by rw [he]; exact hk h)
theorem e_iastP {q i m v w B : Nat} {X : Nat} {p : Nat → Option β} {hf : Nat → KH} (hB : B = Nat.pow 2 w) (h : pq (Nat.blt i m) (pq (Nat.blt (Nat.succ v) B) (kseq (ua w X i (Nat.succ v)) p)) = some r) (hc : k_cell hh q = k_af m (pk w X)) (he : ∀ Y, kset hh q (k_af m (pk w Y)) = hf Y) (hk : ∀ Y, p Y = some r → k ls st (hf Y) = some S) : o_iast k ls (k_i v :: k_i i :: k_r (Nat.succ q) :: st) hh = some S := e_iast0 h hc (fun h => by
  obtain ⟨hb, h⟩ := pq_some h
  rw [ua_eq (hB ▸ hb), he]
  exact hk _ (ps_some h))
theorem e_alen {q m : Nat} {f : Nat → Nat} (hc : k_cell hh q = k_af m f) (hk : k ls (k_i m :: st) hh = R) : o_alen k ls (k_r (Nat.succ q) :: st) hh = R := by
  show Sum.rec (fun _ => none) (fun u => Sum.rec (fun x => k ls (k_i x.1 :: st) hh) (fun u => Sum.rec (fun x => k ls (k_i x.1 :: st) hh) (fun _ => none) u) u) (k_cell hh q) = R
  rw [hc]
  exact hk
theorem e_c2 {f : Nat → Nat → Bool} {a b : Nat} {p q : Option β} (h : pb (f a b) p q = some r) (hp : p = some r → t ls st hh = some S) (hq : q = some r → k ls st hh = some S) : o_c2 f t k ls (k_i b :: k_i a :: st) hh = some S := tb_b (k := t ls st hh) (l := k ls st hh) h hp hq
theorem e_c1_eq {a : Nat} {p q : Option β} (h : pg_eq p q a = some r) (hp : p = some r → t ls st hh = some S) (hq : q = some r → k ls st hh = some S) : o_c1 g_eq t k ls (k_i a :: st) hh = some S := tb_eq h hp hq
theorem e_c1_lt {a : Nat} {p q : Option β} (h : pg_lt p q a = some r) (hp : p = some r → t ls st hh = some S) (hq : q = some r → k ls st hh = some S) : o_c1 g_lt t k ls (k_i a :: st) hh = some S := tb_lt h hp hq
theorem e_c1_gt {a : Nat} {p q : Option β} (h : pg_gt p q a = some r) (hp : p = some r → t ls st hh = some S) (hq : q = some r → k ls st hh = some S) : o_c1 g_gt t k ls (k_i a :: st) hh = some S := tb_gt h hp hq
theorem e_cS0 {n : Nat} {F : KF} (ha : ∀ κ, k_args n st0 [] κ = κ as st) (hF : F as hh = some ([], h1)) (hk : k ls st h1 = R) : o_cS0 n F k ls st0 hh = R := by
  unfold o_cS0
  rw [ha, hF]
  exact hk
theorem e_cS1 {n : Nat} {F : KF} {v : KV} (ha : ∀ κ, k_args n st0 [] κ = κ as st) (hF : F as hh = some ([v], h1)) (hk : k ls (v :: st) h1 = R) : o_cS1 n F k ls st0 hh = R := by
  unfold o_cS1
  rw [ha, hF]
  exact hk
theorem k_recv_e {c q : Nat} {x : KR} (hc : k_cell hh q = k_ob c fs) (hk : x = R) : k_recv c (k_r (Nat.succ q) :: as) hh x = R := by
  show k_obj (k_cell hh q) (fun o => Bool.rec none x (Nat.beq o.1 c)) = R
  rw [hc]
  show (Bool.rec none x (Nat.beq c c) : KR) = R
  rw [Nat.beq_refl]
  exact hk
theorem e_cV0 {n c q : Nat} {F : KF} (hc : k_cell hh q = k_ob c fs) (ha : ∀ κ, k_args n st0 [] κ = κ (k_r (Nat.succ q) :: as) st) (hF : F (k_r (Nat.succ q) :: as) hh = some ([], h1)) (hk : k ls st h1 = R) : o_cV0 n c F k ls st0 hh = R := by
  unfold o_cV0
  rw [ha]
  refine k_recv_e hc ?_
  rw [hF]
  exact hk
theorem e_cV1 {n c q : Nat} {F : KF} {v : KV} (hc : k_cell hh q = k_ob c fs) (ha : ∀ κ, k_args n st0 [] κ = κ (k_r (Nat.succ q) :: as) st) (hF : F (k_r (Nat.succ q) :: as) hh = some ([v], h1)) (hk : k ls (v :: st) h1 = R) : o_cV1 n c F k ls st0 hh = R := by
  unfold o_cV1
  rw [ha]
  refine k_recv_e hc ?_
  rw [hF]
  exact hk
theorem e_cW1 {n c q : Nat} {F : KF} {v : KV} (hst : ∀ x, k_chk st x = x) (hc : k_cell hh q = k_ob c fs) (ha : ∀ κ, k_args n st0 [] κ = κ (k_r (Nat.succ q) :: as) st) (hF : F (k_r (Nat.succ q) :: as) hh = some ([v], h1)) (hk : k ls (v :: st) h1 = R) : o_cW1 n c F k ls st0 hh = R := by
  unfold o_cW1
  rw [ha, hst]
  refine k_recv_e hc ?_
  rw [hF]
  exact hk
theorem e_zret {n : Nat} {p : Option β} (h : pq (Nat.blt n 2) p = some r) (hk : p = some r → (some ([k_i n], hh) : KR) = some S) : o_zret ls (k_i n :: st) hh = some S := tb_g (k := some ([k_i n], hh)) h hk
theorem e_iret {n : Nat} (hk : (some ([k_i n], hh) : KR) = R) : o_iret ls (k_i n :: st) hh = R := hk
theorem e_lret {n : Nat} (hk : (some ([k_l n], hh) : KR) = R) : o_lret ls (k_l n :: st) hh = R := hk
theorem e_ret (hk : (some ([], hh) : KR) = R) : o_ret ls st hh = R := hk
theorem e_swn {n : Nat} {pd : Option β} {dk : KC} (h : kget pd [] n = some r) (hd : pd = some r → dk ls st hh = some S) : o_switch [] dk ls (k_i n :: st) hh = some S := hd h
theorem e_swc {n : Nat} {pd p : Option β} {ps : List (Option β)} {dk : KC} {ts : List KC} (h : kget pd (p :: ps) n = some r) (h0 : p = some r → t ls st hh = some S) (hs : ∀ m, kget pd ps m = some r → o_switch ts dk ls (k_i m :: st) hh = some S) : o_switch (t :: ts) dk ls (k_i n :: st) hh = some S := by
  cases n with
  | zero => exact h0 h
  | succ n => exact hs n h
end PE
theorem kj_0 {bs : List KC → List KC} {J l : List KC} {a : KC} (h : bs J = a :: l) : k_jmp (bs J) 0 = a := by rw [h]; rfl
theorem kj_1 {bs : List KC → List KC} {J l : List KC} {a b : KC} (h : bs J = a :: b :: l) : k_jmp (bs J) 1 = b := by rw [h]; rfl
theorem kj_2 {bs : List KC → List KC} {J l : List KC} {a b c : KC} (h : bs J = a :: b :: c :: l) : k_jmp (bs J) 2 = c := by rw [h]; rfl
theorem kj_3 {bs : List KC → List KC} {J l : List KC} {a b c d : KC} (h : bs J = a :: b :: c :: d :: l) : k_jmp (bs J) 3 = d := by rw [h]; rfl
theorem kj_4 {bs : List KC → List KC} {J l : List KC} {a b c d e : KC} (h : bs J = a :: b :: c :: d :: e :: l) : k_jmp (bs J) 4 = e := by rw [h]; rfl
theorem kj_s (bs : List KC → List KC) (n : Nat) : k_loop bs (n + 1) = bs (k_loop bs n) := rfl
theorem kf_e {us ka ls : List KV} {k : KC} {kh : KH} {R : KR} (hc : ∀ x, k_chk ka x = x) (hl : kcat ka us = ls) (hk : k ls [] kh = R) : k_fun us k ka kh = R := by
  unfold k_fun
  rw [hc, hl]
  exact hk
theorem kj_5 {bs : List KC → List KC} {J l : List KC} {a0 a1 a2 a3 a4 a5 : KC} (h : bs J = a0 :: a1 :: a2 :: a3 :: a4 :: a5 :: l) : k_jmp (bs J) 5 = a5 := by rw [h]; rfl
theorem kj_6 {bs : List KC → List KC} {J l : List KC} {a0 a1 a2 a3 a4 a5 a6 : KC} (h : bs J = a0 :: a1 :: a2 :: a3 :: a4 :: a5 :: a6 :: l) : k_jmp (bs J) 6 = a6 := by rw [h]; rfl
theorem kj_7 {bs : List KC → List KC} {J l : List KC} {a0 a1 a2 a3 a4 a5 a6 a7 : KC} (h : bs J = a0 :: a1 :: a2 :: a3 :: a4 :: a5 :: a6 :: a7 :: l) : k_jmp (bs J) 7 = a7 := by rw [h]; rfl
theorem kj_8 {bs : List KC → List KC} {J l : List KC} {a0 a1 a2 a3 a4 a5 a6 a7 a8 : KC} (h : bs J = a0 :: a1 :: a2 :: a3 :: a4 :: a5 :: a6 :: a7 :: a8 :: l) : k_jmp (bs J) 8 = a8 := by rw [h]; rfl
