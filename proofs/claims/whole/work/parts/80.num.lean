/-! ===== P by hand: numbers within bounds, small steps ===== -/
theorem na {a b : Nat} (h : a + b < 4294967296) : n_add a b = a + b := Nat.mod_eq_of_lt h
theorem nm {a b : Nat} (h : a * b < 4294967296) : n_mul a b = a * b := Nat.mod_eq_of_lt h
theorem nsb {a b : Nat} (h : b ≤ a) (ha : a < 4294967296) : n_sub a b = a - b := by
  show (a + (4294967296 - b)) % 4294967296 = a - b
  rw [show a + (4294967296 - b) = (a - b) + 4294967296 by omega, Nat.add_mod_right]
  exact Nat.mod_eq_of_lt (by omega)
theorem ninc {a c : Nat} (h : a + c < 4294967296) : Nat.mod (Nat.add a c) 4294967296 = a + c := Nat.mod_eq_of_lt h
theorem ndec {a : Nat} (h0 : 0 < a) (h : a < 4294967296) : Nat.mod (Nat.add a 4294967295) 4294967296 = a - 1 := by
  show (a + 4294967295) % 4294967296 = a - 1
  rw [show a + 4294967295 = (a - 1) + 4294967296 by omega, Nat.add_mod_right]
  exact Nat.mod_eq_of_lt (by omega)
theorem bl_t {a b : Nat} (h : a < b) : Nat.blt a b = true := by rw [Nat.blt_eq]; exact h
theorem bl_f {a b : Nat} (h : b ≤ a) : Nat.blt a b = false := Bool.eq_false_iff.mpr fun z => by rw [Nat.blt_eq] at z; omega
theorem be_f {a b : Nat} (h : a ≠ b) : Nat.beq a b = false := Bool.eq_false_iff.mpr fun z => h (Nat.eq_of_beq_eq_true z)
theorem slt_t {a b : Nat} (h : a < b) (hb : b < 2147483648) : s_lt a b = true := by
  show Nat.blt ((a + 2147483648) % 4294967296) ((b + 2147483648) % 4294967296) = true
  rw [Nat.mod_eq_of_lt (by omega), Nat.mod_eq_of_lt (by omega)]
  exact bl_t (by omega)
theorem slt_f {a b : Nat} (h : b ≤ a) (ha : a < 2147483648) : s_lt a b = false := by
  show Nat.blt ((a + 2147483648) % 4294967296) ((b + 2147483648) % 4294967296) = false
  rw [Nat.mod_eq_of_lt (by omega), Nat.mod_eq_of_lt (by omega)]
  exact bl_f (by omega)
theorem ndv {a b : Nat} (h : a < 2147483648) : n_div a b = a / b := by
  show (Bool.rec _ (a / b) (Nat.blt a 2147483648) : Nat) = a / b
  rw [bl_t h]
theorem nrm {a b : Nat} (h : a < 2147483648) : n_rem a b = a % b := by
  show (Bool.rec _ (a % b) (Nat.blt a 2147483648) : Nat) = a % b
  rw [bl_t h]
section PH
variable {α γ δ ε β : Type} {x y : Option β}
theorem pb_t {b : Bool} (h : b = true) : pb b x y = x := by rw [h]; rfl
theorem pb_f {b : Bool} (h : b = false) : pb b x y = y := by rw [h]; rfl
theorem pn_s {e v : Nat} {k : Nat → Option β} (h : e = v + 1) : pn e k = k v := by rw [h]; rfl
theorem ks {n m : Nat} {k : Nat → Option β} (h : n = m) : kseq n k = k m := by rw [h, kseq_eq]
theorem po1_s {x : Option α} {a : α} {k : α → Option β} (h : x = some a) : po1 x k = k a := by rw [h]; rfl
theorem po2_s {x : Option (α × γ)} {a : α} {b : γ} {k : α → γ → Option β} (h : x = some (a, b)) : po2 x k = k a b := by rw [h]; rfl
theorem po3_s {x : Option (α × γ × δ)} {a : α} {b : γ} {c : δ} {k : α → γ → δ → Option β} (h : x = some (a, b, c)) : po3 x k = k a b c := by rw [h]; rfl
theorem po4_s {x : Option (α × γ × δ × ε)} {a : α} {b : γ} {c : δ} {d : ε} {k : α → γ → δ → ε → Option β} (h : x = some (a, b, c, d)) : po4 x k = k a b c d := by rw [h]; rfl
theorem pglt_n {a : Nat} (h : a < 2147483648) : pg_lt x y a = y := by unfold pg_lt; rw [bl_t h]
theorem pglt_p {a : Nat} (h : 2147483648 ≤ a) : pg_lt x y a = x := by unfold pg_lt; rw [bl_f h]
theorem pgeq_0 {a : Nat} (h : a = 0) : pg_eq x y a = x := by rw [h]; rfl
theorem pgeq_s {a : Nat} (h : a ≠ 0) : pg_eq x y a = y := by
  cases a with
  | zero => exact absurd rfl h
  | succ => rfl
end PH
theorem uf_same {f : Nat → Nat} {i v j : Nat} (h : j = i) : uf f i v j = v := by
  subst h
  unfold uf
  rw [Nat.beq_refl]
theorem uf_ne {f : Nat → Nat} {i v j : Nat} (h : j ≠ i) : uf f i v j = f j := by
  unfold uf
  rw [be_f h]
/-! folds of figures -/
def kfold (d : Nat → Nat) : Nat → Nat
  | 0 => 0
  | p + 1 => 5 * kfold d p + d p
def cfold (d : Nat → Nat) : Nat → Nat
  | 0 => 0
  | p + 1 => 10 * cfold d p + d p
theorem kfold_lt {d : Nat → Nat} : ∀ (n : Nat), (∀ p, p < n → d p < 5) → kfold d n < 5 ^ n
  | 0, _ => by simp [kfold]
  | n + 1, h => by
    have h1 := kfold_lt n (fun p hp => h p (by omega))
    have h2 := h n (by omega)
    show 5 * kfold d n + d n < 5 ^ (n + 1)
    rw [Nat.pow_succ]
    omega
theorem cfold_lt {d : Nat → Nat} : ∀ (n : Nat), (∀ p, p < n → d p < 10) → cfold d n < 10 ^ n
  | 0, _ => by simp [cfold]
  | n + 1, h => by
    have h1 := cfold_lt n (fun p hp => h p (by omega))
    have h2 := h n (by omega)
    show 10 * cfold d n + d n < 10 ^ (n + 1)
    rw [Nat.pow_succ]
    omega
theorem kfold_eq {d d' : Nat → Nat} : ∀ (n : Nat), (∀ p, p < n → d p = d' p) → kfold d n = kfold d' n
  | 0, _ => rfl
  | n + 1, h => by
    show 5 * kfold d n + d n = 5 * kfold d' n + d' n
    rw [kfold_eq n (fun p hp => h p (by omega)), h n (by omega)]
theorem cfold_eq {d d' : Nat → Nat} : ∀ (n : Nat), (∀ p, p < n → d p = d' p) → cfold d n = cfold d' n
  | 0, _ => rfl
  | n + 1, h => by
    show 10 * cfold d n + d n = 10 * cfold d' n + d' n
    rw [cfold_eq n (fun p hp => h p (by omega)), h n (by omega)]
theorem nodup_le : ∀ (n : Nat) (l : List Nat), l.Nodup → (∀ x ∈ l, x < n) → l.length ≤ n
  | 0, [], _, _ => Nat.le_refl _
  | 0, x :: l, _, h => absurd (h x List.mem_cons_self) (by omega)
  | n + 1, l, hn, h => by
    have h1 := nodup_le n (l.erase n) (hn.erase n) (fun x hx => by
      have h2 := List.mem_of_mem_erase hx
      have h3 := h x h2
      have h4 : x ≠ n := fun e => by
        subst e
        exact (List.Nodup.not_mem_erase hn) hx
      omega)
    by_cases hm : n ∈ l
    · rw [List.length_erase_of_mem hm] at h1
      omega
    · rw [List.erase_of_not_mem hm] at h1
      omega
/-- what is known of a set of moves: figures, keys, numbers, products, by places -/
def GF (N n : Nat) (dig : Nat → Nat → Nat) (key code : Nat → Nat) (M : Nat → Nat → Nat) : Prop :=
  1 ≤ N ∧ N ≤ 5 ∧ 1 ≤ n ∧ n ≤ 120 ∧ (∀ z, z < n → ∀ p, p < N → dig z p < N) ∧ (∀ p, p < N → dig 0 p = p) ∧ (∀ x y, x < n → y < n → M x y < n ∧ ∀ p, p < N → dig (M x y) p = dig y (dig x p)) ∧ (∀ z, z < n → key z = kfold (dig z) (N - 1)) ∧ (∀ z w, z < n → w < n → key z = key w → z = w) ∧ (∀ z, z < n → code z = cfold (dig z) N) ∧ (∀ z w, z < w → w < n → code z < code w)
