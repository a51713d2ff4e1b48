/-! ===== numbers of K and of the machine ===== -/
theorem kn_bv (n : Nat) : (nI n).toBitVec = BitVec.ofNat 32 n := rfl
theorem kn_ext {x y : Int32} (h : x.toBitVec = y.toBitVec) : x = y := Int32.toBitVec_inj.mp h
theorem kn_mod (n : Nat) : nI (n % 4294967296) = nI n := by
  apply kn_ext
  rw [kn_bv, kn_bv]
  apply BitVec.eq_of_toNat_eq
  simp
theorem kn_add (a b : Nat) : nI (n_add a b) = nI a + nI b := by
  show nI ((a + b) % 4294967296) = _
  rw [kn_mod, nI_add]
theorem kn_mul (a b : Nat) : nI (n_mul a b) = nI a * nI b := by
  show nI ((a * b) % 4294967296) = _
  rw [kn_mod, pk_mul]
theorem kn_neg {a : Nat} (h : a ≤ 4294967296) : nI ((4294967296 - a) % 4294967296) = - nI a := by
  rw [kn_mod]
  apply kn_ext
  rw [Int32.toBitVec_neg, kn_bv, kn_bv]
  apply BitVec.eq_of_toNat_eq
  simp [BitVec.toNat_neg]
  omega
theorem kn_sub {a b : Nat} (h : b ≤ 4294967296) : nI (n_sub a b) = nI a - nI b := by
  show nI ((a + (4294967296 - b)) % 4294967296) = _
  rw [kn_mod]
  apply kn_ext
  rw [Int32.toBitVec_sub, kn_bv, kn_bv, kn_bv]
  apply BitVec.eq_of_toNat_eq
  simp [BitVec.toNat_sub]
  omega
theorem kn_and (a b : Nat) : nI (n_and a b) = nI a &&& nI b := by
  apply kn_ext
  rw [Int32.toBitVec_and, kn_bv, kn_bv, kn_bv]
  apply BitVec.eq_of_toNat_eq
  show _ = _
  simp only [BitVec.toNat_and, BitVec.toNat_ofNat]
  exact Nat.and_mod_two_pow
theorem kn_or (a b : Nat) : nI (n_or a b) = nI a ||| nI b := by
  apply kn_ext
  rw [Int32.toBitVec_or, kn_bv, kn_bv, kn_bv]
  apply BitVec.eq_of_toNat_eq
  simp only [BitVec.toNat_or, BitVec.toNat_ofNat]
  exact Nat.or_mod_two_pow
theorem kn_int {a : Nat} (h : a < 4294967296) : (nI a).toInt = if a < 2147483648 then (a : Int) else (a : Int) - 4294967296 := by
  have h1 : (nI a).toInt = ((a : Int)).bmod 4294967296 := by
    show (BitVec.ofNat 32 a).toInt = _
    rw [BitVec.toInt_eq_toNat_bmod, BitVec.toNat_ofNat, Nat.mod_eq_of_lt (by omega)]
  rw [h1, Int.bmod_def]
  split <;> split <;> omega
theorem kn_inj {a b : Nat} (ha : a < 4294967296) (hb : b < 4294967296) : nI a = nI b ↔ a = b := by
  constructor
  · intro h
    have := congrArg Int32.toInt h
    rw [kn_int ha, kn_int hb] at this
    split at this <;> split at this <;> omega
  · intro h
    rw [h]
theorem kn_lt {a b : Nat} (ha : a < 4294967296) (hb : b < 4294967296) : s_lt a b = true ↔ nI a < nI b := by
  rw [Int32.lt_iff_toInt_lt, kn_int ha, kn_int hb]
  show Nat.blt ((a + 2147483648) % 4294967296) ((b + 2147483648) % 4294967296) = true ↔ _
  rw [Nat.blt_eq]
  split <;> split <;> omega
theorem kn_lt0 {a : Nat} (ha : a < 4294967296) : nI a < 0 ↔ ¬ a < 2147483648 := by
  rw [Int32.lt_iff_toInt_lt, kn_int ha]
  have h0 : (0 : Int32).toInt = 0 := rfl
  rw [h0]
  split <;> omega
theorem kn_eq0 {a : Nat} (ha : a < 4294967296) : nI a = 0 ↔ a = 0 := by
  have := kn_inj ha (b := 0) (by decide)
  rw [nI_0] at this
  exact this
theorem kn_le {a b : Nat} (ha : a < 4294967296) (hb : b < 4294967296) : s_lt b a = false ↔ nI a ≤ nI b := by
  have h := kn_lt hb ha
  rw [← Int32.not_lt, ← h]
  cases s_lt b a <;> simp
theorem kn_in {i n : Nat} (h : i < n) (hn : n < 2147483648) : vp_in (nI i) n := vp_in_nI h (by omega)
theorem kn_cl {i : Nat} (h : i < 2147483648) : (nI i).toNatClampNeg = i := nI_clamp (by omega)
theorem kn_negm (x y : Int32) : (-x) * y = -(x * y) := by
  apply kn_ext
  rw [Int32.toBitVec_mul, Int32.toBitVec_neg, Int32.toBitVec_neg, Int32.toBitVec_mul, BitVec.neg_mul]
theorem kn_div0 {a b : Nat} (ha : a < 4294967296) (h0 : 0 < b) (hb : b < 2147483648) : nI (n_div a b) = nI a / nI b := by
  unfold n_div
  cases h : Nat.blt a 2147483648 with
  | true =>
    have h1 : a < 2147483648 := by rw [Nat.blt_eq] at h; exact h
    exact (pk_div (by omega) h0 (by omega)).symm
  | false =>
    have h1 : ¬ a < 2147483648 := by intro q; rw [← Nat.blt_eq] at q; rw [h] at q; cases q
    show nI ((4294967296 - (4294967296 - a) / b) % 4294967296) = _
    have hq : (4294967296 - a) / b ≤ 4294967296 - a := Nat.div_le_self _ _
    apply Int32.toInt_inj.mp
    have e : (a : Int) - 4294967296 = -(((4294967296 - a : Nat)) : Int) := by omega
    rw [Int32.toInt_div, kn_int (Nat.mod_lt _ (by decide)), kn_int ha, kn_int (a := b) (by omega), if_neg h1, if_pos hb, e, Int.neg_tdiv]
    have e2 : (((4294967296 - a : Nat)) : Int).tdiv (b : Int) = (((4294967296 - a) / b : Nat) : Int) := rfl
    rw [e2]
    generalize (4294967296 - a) / b = q at hq ⊢
    show _ = (-(q : Int)).bmod 4294967296
    rw [Int.bmod_def]
    split <;> split <;> omega
theorem kn_rem0 {a b : Nat} (ha : a < 4294967296) (h0 : 0 < b) (hb : b < 2147483648) : nI (n_rem a b) = nI a - nI a / nI b * nI b := by
  unfold n_rem
  cases h : Nat.blt a 2147483648 with
  | true =>
    have h1 : a < 2147483648 := by rw [Nat.blt_eq] at h; exact h
    exact (pk_rem (by omega) h0 (by omega)).symm
  | false =>
    have h1 : ¬ a < 2147483648 := by intro q; rw [← Nat.blt_eq] at q; rw [h] at q; cases q
    show nI ((4294967296 - (4294967296 - a) % b) % 4294967296) = _
    have hd := kn_div0 ha h0 hb
    unfold n_div at hd
    rw [h] at hd
    have hd : nI ((4294967296 - (4294967296 - a) / b) % 4294967296) = nI a / nI b := hd
    have hq : (4294967296 - a) / b ≤ 4294967296 - a := Nat.div_le_self _ _
    have hr : (4294967296 - a) % b ≤ 4294967296 - a := Nat.mod_le _ _
    rw [← hd, kn_neg (by omega), kn_neg (by omega), kn_negm, pk_mul]
    have ea : nI a = - nI (4294967296 - a) := by
      rw [← kn_neg (by omega)]
      congr 1
      omega
    rw [ea]
    have hm : b * ((4294967296 - a) / b) + (4294967296 - a) % b = 4294967296 - a := Nat.div_add_mod _ _
    have e2 : nI (4294967296 - a) = nI ((4294967296 - a) / b * b) + nI ((4294967296 - a) % b) := by
      rw [nI_add]
      congr 1
      rw [Nat.mul_comm] at hm
      omega
    rw [e2]
    apply kn_ext
    simp only [Int32.toBitVec_neg, Int32.toBitVec_sub, Int32.toBitVec_add]
    generalize (nI ((4294967296 - a) / b * b)).toBitVec = u
    generalize (nI ((4294967296 - a) % b)).toBitVec = w
    have hu := u.isLt
    have hw := w.isLt
    apply BitVec.eq_of_toNat_eq
    simp only [BitVec.toNat_neg, BitVec.toNat_sub, BitVec.toNat_add]
    omega
theorem kn_b31 : ∀ b, b < 32 → ((nI b &&& 31 : Int32).toBitVec.smod 32).toNat = b := by decide +kernel
theorem kn_shl {a b : Nat} (hb : b < 32) : nI (a * 2 ^ b % 4294967296) = nI a <<< (nI b &&& 31) := by
  rw [kn_mod]
  apply kn_ext
  apply BitVec.eq_of_toNat_eq
  rw [pk_shl (nI a) (nI b &&& 31) b (kn_b31 b hb), kn_bv, kn_bv]
  simp only [BitVec.toNat_ofNat]
  rw [Nat.mod_mul_mod]
theorem kn_shr {a b : Nat} (ha : a < 2147483648) (hb : b < 32) : nI (a / 2 ^ b) = nI a >>> (nI b &&& 31) := (pk_shrN (by omega) (nI b &&& 31) b (kn_b31 b hb)).symm
/-! long -/
theorem kl_mod (n : Nat) : lN (n % 18446744073709551616) = lN n := by
  apply Int64.toBitVec_inj.mp
  show BitVec.ofNat 64 _ = BitVec.ofNat 64 _
  apply BitVec.eq_of_toNat_eq
  simp
theorem kl_ext {a : Nat} (ha : a < 4294967296) : lN (if a < 2147483648 then a else a + 18446744069414584320) = (nI a).toInt64 := by
  apply Int64.toInt_inj.mp
  rw [Int32.toInt_toInt64, kn_int ha]
  show (BitVec.ofNat 64 _).toInt = _
  rw [BitVec.toInt_eq_toNat_bmod, BitVec.toNat_ofNat, Nat.mod_eq_of_lt (by split <;> omega), Int.bmod_def]
  by_cases h : a < 2147483648
  · simp only [h, if_true]
    split <;> omega
  · simp only [h, if_false]
    split <;> omega
