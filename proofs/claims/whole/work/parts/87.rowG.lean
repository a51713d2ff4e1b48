/-! ===== what the check of a set says ===== -/
theorem isS {x : Option Unit} (h : x.isSome = true) : x = some () := by
  cases x with
  | none => cases h
  | some u => rfl
theorem alN_some {f : Nat → Option Unit} : ∀ (n : Nat), alN n f = some () → ∀ i, i < n → f i = some ()
  | 0, _, i, hi => by omega
  | n + 1, h, i, hi => by
    obtain ⟨u, h1, h2⟩ := po1_some (x := f n) (k := fun _ => alN n f) h
    by_cases e : i = n
    · rw [e, h1]
    · exact alN_some n h2 i (by omega)
theorem eqs_some {a b : Nat} {k : Option Unit} (h : eqs a b k = some ()) : a = b ∧ k = some () := by
  obtain ⟨h1, h2⟩ := pq_some h
  exact ⟨Nat.eq_of_beq_eq_true h1, h2⟩
theorem pn_some {β : Type} {e : Nat} {k : Nat → Option β} {r : β} (h : pn e k = some r) : ∃ v, e = v + 1 ∧ k v = some r := by
  cases e with
  | zero => cases h
  | succ v => exact ⟨v, rfl, h⟩
theorem keyc_eq (N c : Nat) : keyc N c = kfold (dgc N c) (N - 1) := by
  show (Nat.rec 0 (fun p k => Nat.add (Nat.mul 5 k) (dgc N c p)) (N - 1) : Nat) = _
  generalize N - 1 = m
  induction m with
  | zero => rfl
  | succ m ih =>
    show Nat.add (Nat.mul 5 (Nat.rec 0 (fun p k => Nat.add (Nat.mul 5 k) (dgc N c p)) m : Nat)) (dgc N c m) = 5 * kfold (dgc N c) m + dgc N c m
    rw [ih]
    rfl
theorem cfold_self {N c : Nat} (hc : c < 10 ^ N) : cfold (dgc N c) N = c := by
  have h : ∀ k, k ≤ N → cfold (dgc N c) k = c / 10 ^ (N - k) := by
    intro k
    induction k with
    | zero =>
      intro _
      rw [Nat.sub_zero, Nat.div_eq_of_lt hc]
      rfl
    | succ k ih =>
      intro hk
      have ih := ih (by omega)
      show 10 * cfold (dgc N c) k + c / 10 ^ (N - 1 - k) % 10 = c / 10 ^ (N - (k + 1))
      rw [ih, show N - k = (N - (k + 1)) + 1 by omega, show N - 1 - k = N - (k + 1) by omega, Nat.pow_succ, ← Nat.div_div_eq_div_mul]
      omega
  have := h N (Nat.le_refl _)
  rw [Nat.sub_self, Nat.pow_zero, Nat.div_one] at this
  exact this
def rN (r : List Nat) : Nat := r.getD 0 0
def rn (r : List Nat) : Nat := r.getD 1 0
def rcode (r : List Nat) (z : Nat) : Nat := Nat.pred (pk 17 (r.getD 2 0) z)
def rdig (r : List Nat) (z p : Nat) : Nat := dgc (rN r) (rcode r z) p
noncomputable def rkey (r : List Nat) (z : Nat) : Nat := keyc (rN r) (rcode r z)
def rM (r : List Nat) (x y : Nat) : Nat := Nat.pred (pk 8 (r.getD 20 0) (120 * x + y))
/-- a set: it has been checked -/
def isRow (r : List Nat) : Prop := chkG r = some ()
theorem row_all {r : List Nat} (h : isRow r) : GF (rN r) (rn r) (rdig r) (rkey r) (rcode r) (rM r) ∧ (∀ z, z < rn r → pk 17 (r.getD 2 0) z = rcode r z + 1 ∧ rkey r z < 625 ∧ ∀ p, p < rN r → pk 8 (r.getD 3 0) (5 * z + p) = rdig r z p + 1) ∧ ∀ x y, x < rn r → y < rn r → pk 8 (r.getD 20 0) (120 * x + y) = rM r x y + 1 := by
  unfold isRow chkG at h
  have h := ps_some h
  have h := ps_some h
  have h := ps_some h
  have h := ps_some h
  have h := ps_some h
  have h := ps_some h
  simp only [kget_eq] at h
  obtain ⟨h1, h⟩ := pq_some h
  obtain ⟨h5, h⟩ := pq_some h
  obtain ⟨hn1, h⟩ := pq_some h
  obtain ⟨hn2, h⟩ := pq_some h
  have h1 : 1 ≤ rN r := Nat.le_of_ble_eq_true h1
  have h5 : rN r ≤ 5 := Nat.le_of_ble_eq_true h5
  have hn1 : 1 ≤ rn r := Nat.le_of_ble_eq_true hn1
  have hn2 : rn r ≤ 120 := Nat.le_of_ble_eq_true hn2
  obtain ⟨u, hid, h⟩ := po1_some h
  have hid : ∀ p, p < rN r → pk 8 (r.getD 3 0) p = p + 1 := fun p hp => (eqs_some (alN_some _ hid p hp)).1
  have key1 : ∀ z, z < rn r → ∃ c, pk 17 (r.getD 2 0) z = c + 1 ∧ keyc (rN r) c < 625 ∧ pk 8 (r.getD 4 0) (keyc (rN r) c) = z + 1 ∧ c < 10 ^ rN r ∧ (z + 1 < rn r → pk 17 (r.getD 2 0) z < pk 17 (r.getD 2 0) (z + 1)) ∧ (∀ p, p < rN r → pk 8 (r.getD 3 0) (5 * z + p) = dgc (rN r) c p + 1 ∧ dgc (rN r) c p < rN r) ∧ ∀ y, y < rn r → ∃ m, pk 8 (r.getD 20 0) (120 * z + y) = m + 1 ∧ m < rn r ∧ ∀ p, p < rN r → ∃ d, pk 8 (r.getD 3 0) (5 * z + p) = d + 1 ∧ pk 8 (r.getD 3 0) (5 * m + p) = pk 8 (r.getD 3 0) (5 * y + d) := by
    intro z hz
    obtain ⟨c, e1, g⟩ := pn_some (alN_some _ h z hz)
    obtain ⟨e2, g⟩ := pq_some g
    obtain ⟨e3, g⟩ := eqs_some g
    obtain ⟨e4, g⟩ := pq_some g
    obtain ⟨e5, g⟩ := pq_some g
    obtain ⟨u, e6, g⟩ := po1_some g
    refine ⟨c, e1, blt_t e2, e3, blt_t e4, fun hlt => ?_, fun p hp => ?_, fun y hy => ?_⟩
    · have e7 : Nat.blt (Nat.succ z) (rn r) = true := bl_t hlt
      have e5 : (Bool.rec true (Nat.blt (pk 17 (r.getD 2 0) z) (pk 17 (r.getD 2 0) (Nat.succ z))) (Nat.blt (Nat.succ z) (rn r)) : Bool) = true := e5
      rw [e7] at e5
      exact blt_t e5
    · obtain ⟨a1, a2⟩ := eqs_some (alN_some _ e6 p hp)
      exact ⟨a1, blt_t (pq_some a2).1⟩
    · obtain ⟨m, a1, a2⟩ := pn_some (alN_some _ g y hy)
      obtain ⟨a3, a4⟩ := pq_some a2
      refine ⟨m, a1, blt_t a3, fun p hp => ?_⟩
      obtain ⟨d, a5, a6⟩ := pn_some (alN_some _ a4 p hp)
      exact ⟨d, a5, (eqs_some a6).1⟩
  have hcode : ∀ z, z < rn r → pk 17 (r.getD 2 0) z = rcode r z + 1 := fun z hz => by
    obtain ⟨c, e1, -⟩ := key1 z hz
    unfold rcode
    rw [e1]
    rfl
  have hce : ∀ {z c}, z < rn r → pk 17 (r.getD 2 0) z = c + 1 → c = rcode r z := fun {z c} hz e => by
    have := hcode z hz
    omega
  have hdg : ∀ z, z < rn r → ∀ p, p < rN r → pk 8 (r.getD 3 0) (5 * z + p) = rdig r z p + 1 ∧ rdig r z p < rN r := fun z hz p hp => by
    obtain ⟨c, e1, -, -, -, -, e6, -⟩ := key1 z hz
    rw [hce hz e1] at e6
    exact e6 p hp
  have hM : ∀ x y, x < rn r → y < rn r → pk 8 (r.getD 20 0) (120 * x + y) = rM r x y + 1 ∧ rM r x y < rn r ∧ ∀ p, p < rN r → rdig r (rM r x y) p = rdig r y (rdig r x p) := fun x y hx hy => by
    obtain ⟨c, -, -, -, -, -, -, e7⟩ := key1 x hx
    obtain ⟨m, a1, a2, a3⟩ := e7 y hy
    have em : rM r x y = m := by
      unfold rM
      rw [a1]
      rfl
    rw [em]
    refine ⟨a1, a2, fun p hp => ?_⟩
    obtain ⟨d, b1, b2⟩ := a3 p hp
    have b3 := hdg x hx p hp
    have ed : d = rdig r x p := by omega
    rw [(hdg m a2 p hp).1, ed, (hdg y hy _ b3.2).1] at b2
    omega
  refine ⟨⟨h1, h5, hn1, hn2, fun z hz p hp => (hdg z hz p hp).2, fun p hp => ?_, fun x y hx hy => (hM x y hx hy).2, fun z _ => keyc_eq _ _, fun z w hz hw hk => ?_, fun z hz => ?_, ?_⟩, fun z hz => ⟨hcode z hz, ?_, fun p hp => (hdg z hz p hp).1⟩, fun x y hx hy => (hM x y hx hy).1⟩
  · have a1 := (hdg 0 (by omega) p hp).1
    rw [show 5 * 0 + p = p by omega, hid p hp] at a1
    omega
  · obtain ⟨c, e1, -, e3, -⟩ := key1 z hz
    obtain ⟨c', e1', -, e3', -⟩ := key1 w hw
    rw [hce hz e1] at e3
    rw [hce hw e1'] at e3'
    have hk : keyc (rN r) (rcode r z) = keyc (rN r) (rcode r w) := hk
    rw [hk, e3'] at e3
    omega
  · obtain ⟨c, e1, -, -, e4, -⟩ := key1 z hz
    rw [hce hz e1] at e4
    exact (cfold_self e4).symm
  · have step : ∀ z, z + 1 < rn r → rcode r z < rcode r (z + 1) := fun z hz => by
      obtain ⟨c, e1, -, -, -, e5, -⟩ := key1 z (by omega)
      have a1 := e5 hz
      rw [hcode z (by omega), hcode (z + 1) hz] at a1
      omega
    have go : ∀ d z, z + d + 1 < rn r → rcode r z < rcode r (z + d + 1) := by
      intro d
      induction d with
      | zero => intro z hz; exact step z hz
      | succ d ih =>
        intro z hz
        exact Nat.lt_trans (ih z (by omega)) (step (z + d + 1) hz)
    intro z w hzw hw
    have := go (w - z - 1) z (by omega)
    rw [show z + (w - z - 1) + 1 = w by omega] at this
    exact this
  · obtain ⟨c, e1, e2, -⟩ := key1 z hz
    rw [hce hz e1] at e2
    exact e2
theorem cak0_at : ∀ j, j < 625 → pk 40 cak0 j = 4294967296 := by decide +kernel
/-- the moves by their keys -/
theorem cakN_at {r : List Nat} (h : isRow r) : ∀ k, k ≤ rn r → ∀ j, j < 625 → (∀ z, z < k → rkey r z = j → pk 40 (cakN (rN r) (r.getD 2 0) k) j = rcode r z + 1) ∧ ((∀ z, z < k → rkey r z ≠ j) → pk 40 (cakN (rN r) (r.getD 2 0) k) j = 4294967296) := by
  obtain ⟨G, hz1, -⟩ := row_all h
  intro k
  induction k with
  | zero =>
    intro _ j hj
    exact ⟨fun z hz => by omega, fun _ => cak0_at j hj⟩
  | succ k ih =>
    intro hk j hj
    obtain ⟨ih1, ih2⟩ := ih (by omega) j hj
    have e1 := (hz1 k (by omega)).1
    have hc := (gf_code G (show k < rn r by omega)).1
    have e : cakN (rN r) (r.getD 2 0) (k + 1) = ua 40 (cakN (rN r) (r.getD 2 0) k) (rkey r k) (rcode r k + 1) := by
      show kseq (cakN (rN r) (r.getD 2 0) k) (fun acc => ua 40 acc (keyc (rN r) (Nat.pred (pk 17 (r.getD 2 0) k))) (pk 17 (r.getD 2 0) k)) = _
      rw [kseq_eq, e1]
      rfl
    rw [e, ua_at (by omega)]
    by_cases hjk : j = rkey r k
    · rw [if_pos hjk]
      refine ⟨fun z hz hzj => ?_, fun hno => absurd hjk.symm (hno k (by omega))⟩
      have := G.2.2.2.2.2.2.2.2.1 z k (by omega) (by omega) (hzj.trans hjk)
      rw [this]
    · rw [if_neg hjk]
      refine ⟨fun z hz hzj => ?_, fun hno => ih2 (fun z hz => hno z (by omega))⟩
      have : z ≠ k := fun e => hjk (by rw [← e, hzj])
      exact ih1 z (by omega) hzj
theorem cak_all {r : List Nat} (h : isRow r) {L : List Nat} {ck : Nat → Nat} (hc : cakR (rkey r) (rcode r) L ck) (hL : ∀ z ∈ L, z < rn r) (hall : ∀ z, z < rn r → z ∈ L) : ∀ j, j < 625 → ck j = pk 40 (cakN (rN r) (r.getD 2 0) (rn r)) j := by
  intro j hj
  obtain ⟨h1, h2⟩ := cakN_at h (rn r) (Nat.le_refl _) j hj
  rcases hc j hj with ⟨z, a1, a2, a3⟩ | ⟨a1, a2⟩
  · rw [a3, h1 z (hL z a1) a2]
  · rw [a2, h2 (fun z hz => a1 z (hall z hz))]
