/-! ===== at most three moves make one of the 195 sets ===== -/
def rw_ (g : Nat) : List Nat := RGS.getD g []
theorem row_is {g : Nat} (hg : g < 195) : isRow (rw_ g) := isS (allG g hg)
def cmpc (N a b : Nat) : Nat := cfold (fun p => dgc N b (dgc N a p)) N
section CL
variable {r : List Nat}
theorem row_comp (h : isRow r) {x y : Nat} (hx : x < rn r) (hy : y < rn r) : rM r x y < rn r ∧ rcode r (rM r x y) = cmpc (rN r) (rcode r x) (rcode r y) := by
  obtain ⟨G, -, -⟩ := row_all h
  have hM := G.2.2.2.2.2.2.1 x y hx hy
  refine ⟨hM.1, ?_⟩
  rw [G.2.2.2.2.2.2.2.2.2.1 _ hM.1]
  exact cfold_eq _ hM.2
theorem row_id (h : isRow r) : rcode r 0 = cfold (fun p => p) (rN r) := by
  obtain ⟨G, -, -⟩ := row_all h
  rw [G.2.2.2.2.2.2.2.2.2.1 0 G.2.2.1]
  exact cfold_eq _ G.2.2.2.2.2.1
theorem row_ext (h : isRow r) {x y : Nat} (hx : x < rn r) (hy : y < rn r) (he : ∀ p, p < rN r → rdig r x p = rdig r y p) : x = y := by
  obtain ⟨G, -, -⟩ := row_all h
  refine gf_inj G hx hy ?_
  rw [G.2.2.2.2.2.2.2.2.2.1 x hx, G.2.2.2.2.2.2.2.2.2.1 y hy]
  exact cfold_eq _ he
theorem row_assoc (h : isRow r) {x y z : Nat} (hx : x < rn r) (hy : y < rn r) (hz : z < rn r) : rM r (rM r x y) z = rM r x (rM r y z) := by
  obtain ⟨G, -, -⟩ := row_all h
  have hM := G.2.2.2.2.2.2.1
  have a1 := hM x y hx hy
  have a2 := hM y z hy hz
  have a3 := hM _ z a1.1 hz
  have a4 := hM x _ hx a2.1
  refine row_ext h a3.1 a4.1 (fun p hp => ?_)
  have hd := G.2.2.2.2.1 x hx p hp
  rw [a3.2 p hp, a1.2 p hp, a4.2 p hp, a2.2 _ hd]
theorem row_one (h : isRow r) {x : Nat} (hx : x < rn r) : rM r x 0 = x := by
  obtain ⟨G, -, -⟩ := row_all h
  have hM := G.2.2.2.2.2.2.1 x 0 hx G.2.2.1
  refine row_ext h hM.1 hx (fun p hp => ?_)
  rw [hM.2 p hp, G.2.2.2.2.2.1 _ (G.2.2.2.2.1 x hx p hp)]
end CL
theorem tbb_eq (m i : Nat) : tbb m i = m.testBit i := by
  rw [Nat.testBit_eq_decide_div_mod_eq]
  unfold tbb
  show Nat.beq (m >>> i % 2) 1 = _
  rw [Nat.shiftRight_eq_div_pow]
  by_cases h : m / 2 ^ i % 2 = 1
  · rw [h]
    rfl
  · rw [be_f h]
    simp [h]
theorem lor_bit (m i j : Nat) : (Nat.lor m (Nat.shiftLeft 1 i)).testBit j = (m.testBit j || decide (i = j)) := by
  show (m ||| 1 <<< i).testBit j = _
  rw [Nat.testBit_or, Nat.testBit_shiftLeft]
  congr 1
  by_cases h : i = j
  · subst h
    simp
  · by_cases h2 : i ≤ j
    · have : j - i ≠ 0 := by omega
      have h3 : Nat.testBit 1 (j - i) = false := by
        rw [Bool.eq_false_iff]
        intro hh
        rw [Nat.testBit_one_eq_true_iff_self_eq_zero] at hh
        omega
      simp [h, h2, h3]
    · simp [h, h2]
theorem atc_some {β : Type} {r : List Nat} {N c : Nat} {k : Nat → Option β} {b : β} (h : atc r N c k = some b) : ∃ i, i < rn r ∧ pk 17 (r.getD 2 0) i = c + 1 ∧ k i = some b := by
  unfold atc at h
  obtain ⟨i, -, h⟩ := pn_some h
  obtain ⟨h1, h⟩ := pq_some h
  obtain ⟨h2, h⟩ := pq_some h
  rw [kget_eq] at h1 h2
  exact ⟨i, blt_t h1, Nat.eq_of_beq_eq_true h2, h⟩
theorem code_of {r : List Nat} {i c : Nat} (h : pk 17 (r.getD 2 0) i = c + 1) : rcode r i = c := by
  unfold rcode
  rw [h]
  rfl
/-- the mask: which of all moves are in the set -/
theorem msk_some {r rS : List Nat} (hS : isRow rS) {N : Nat} : ∀ (n m : Nat), mskF r rS N n = some m → (∀ z, z < n → ∃ i, i < rn rS ∧ rcode rS i = rcode r z ∧ m.testBit i = true) ∧ ∀ i, i < rn rS → m.testBit i = true → ∃ z, z < n ∧ rcode rS i = rcode r z
  | 0, m, h => by
    have h : some 0 = some m := h
    cases h
    exact ⟨fun z hz => by omega, fun i _ hi => by simp at hi⟩
  | n + 1, m, h => by
    obtain ⟨m0, h0, h⟩ := po1_some (x := mskF r rS N n) h
    obtain ⟨c, hc, h⟩ := pn_some h
    obtain ⟨i, hi, hci, h⟩ := atc_some h
    have h := ps_some h
    cases h
    rw [kget_eq] at hc
    obtain ⟨a1, a2⟩ := msk_some hS n m0 h0
    have e1 := code_of hc
    have e2 := code_of hci
    refine ⟨fun z hz => ?_, fun j hj hb => ?_⟩
    · by_cases e : z = n
      · subst e
        exact ⟨i, hi, by rw [e1, e2], by rw [lor_bit]; simp⟩
      · obtain ⟨j, b1, b2, b3⟩ := a1 z (by omega)
        exact ⟨j, b1, b2, by rw [lor_bit, b3]; rfl⟩
    · rw [lor_bit] at hb
      by_cases e : i = j
      · subst e
        exact ⟨n, by omega, by rw [e1, e2]⟩
      · simp [e] at hb
        obtain ⟨z, b1, b2⟩ := a2 j hj hb
        exact ⟨z, by omega, b2⟩
/-- the tree: two of the set make all of it -/
theorem tr_some {r : List Nat} {u v : Nat} {X : Nat → Prop} (hX : ∀ x, X x → X (rM r x u) ∧ X (rM r x v)) : ∀ (l : List Nat) (m m' : Nat), trF r u v l m = some m' → (∀ i, m.testBit i = true → X i) → ∀ i, m'.testBit i = true → X i
  | [], m, m', h, hm => by
    have h : some m = some m' := h
    cases h
    exact hm
  | e :: l, m, m', h, hm => by
    obtain ⟨h1, h⟩ := pq_some (β := Nat) (b := tbb m (Nat.mod e 128)) h
    obtain ⟨y, hy, h⟩ := pn_some h
    have h := ps_some h
    rw [tbb_eq] at h1
    have hx := hX _ (hm _ h1)
    rw [kget_eq] at hy
    have hy2 : X y := by
      cases hb : Nat.blt e 128 with
      | true =>
        rw [hb] at hy
        have : rM r (Nat.mod e 128) u = y := by
          unfold rM
          rw [show 120 * Nat.mod e 128 + u = Nat.add (Nat.mul 120 (Nat.mod e 128)) u from rfl, hy]
          rfl
        rw [← this]
        exact hx.1
      | false =>
        rw [hb] at hy
        have : rM r (Nat.mod e 128) v = y := by
          unfold rM
          rw [show 120 * Nat.mod e 128 + v = Nat.add (Nat.mul 120 (Nat.mod e 128)) v from rfl, hy]
          rfl
        rw [← this]
        exact hx.2
    refine tr_some hX l _ m' h (fun i hi => ?_)
    rw [lor_bit] at hi
    by_cases e : y = i
    · rw [← e]
      exact hy2
    · simp [e] at hi
      exact hm i hi
/-- a word: what its letters are in, it is in -/
theorem wd_some {r r' : List Nat} {N n c : Nat} {R : Nat → Prop} (hR : ∀ x y, R x → R y → R (rM r' x y)) (hl : ∀ i, i < rn r' → (rcode r' i = c ∨ ∃ z, z < n ∧ rcode r' i = rcode r z) → R i) : ∀ (f W x y : Nat), wdF r r' N n c f W x = some y → R x → R y
  | 0, W, x, y, h, _ => by
    have h : (none : Option Nat) = some y := h
    cases h
  | f + 1, W, x, y, h, hx => by
    have h : pg_eq (some x) (pn (Nat.mod W 128) fun l => po1 (pg_eq (some c) (pn l fun z => pq (Nat.blt z n) <| pn (pk 17 (kget 0 r 2) z) fun d => some d) l) fun d => atc r' N d fun i => pn (pk 8 (kget 0 r' 20) (Nat.add (Nat.mul 120 x) i)) fun x => kseq (Nat.div W 128) fun W => wdF r r' N n c f W x) W = some y := h
    by_cases hW : W = 0
    · rw [pgeq_0 hW] at h
      cases h
      exact hx
    · rw [pgeq_s hW] at h
      obtain ⟨l, -, h⟩ := pn_some h
      obtain ⟨d, hd, h⟩ := po1_some h
      obtain ⟨i, hi, hci, h⟩ := atc_some h
      obtain ⟨x', hx', h⟩ := pn_some h
      have h := ps_some h
      have hRi : R i := by
        refine hl i hi ?_
        rw [code_of hci]
        by_cases hl0 : l = 0
        · rw [pgeq_0 hl0] at hd
          cases hd
          exact Or.inl rfl
        · rw [pgeq_s hl0] at hd
          obtain ⟨z, -, hd⟩ := pn_some hd
          obtain ⟨hz, hd⟩ := pq_some hd
          obtain ⟨d', hd', hd⟩ := pn_some hd
          cases hd
          rw [kget_eq] at hd'
          exact Or.inr ⟨z, blt_t hz, (code_of hd').symm⟩
      have e : rM r' x i = x' := by
        unfold rM
        rw [kget_eq] at hx'
        rw [show 120 * x + i = Nat.add (Nat.mul 120 x) i from rfl, hx']
        rfl
      exact wd_some hR hl f _ x' y h (e ▸ hR x i hx hRi)
/-- these of the set make all of it -/
def genR (r : List Nat) (a : Nat → Nat) (cnt : Nat) : Prop := ∀ X : Nat → Prop, X 0 → (∀ z h, z < rn r → h < cnt → X z → X (rM r z (a h))) → ∀ z, z < rn r → X z
theorem pow_bit {n i : Nat} (h : i < n) : (Nat.sub (Nat.pow 2 n) 1).testBit i = true := by
  show (2 ^ n - 1).testBit i = true
  rw [Nat.testBit_two_pow_sub_one]
  simp [h]
theorem join_ok {g : Nat} (hg : g < 195) : ∃ sN, sN < 195 ∧ rN (rw_ sN) = rN (rw_ g) ∧ sN = (JDS.getD g []).getD 0 0 ∧ ∀ (cnt : Nat) (a : Nat → Nat) (y : Nat), (∀ h, h < cnt → a h < rn (rw_ g)) → genR (rw_ g) a cnt → y < rn (rw_ sN) → ∃ g' a', g' < 195 ∧ rN (rw_ g') = rN (rw_ g) ∧ (JDS.getD g' []).getD 0 0 = sN ∧ (∀ h, h < cnt → a' h < rn (rw_ g') ∧ rcode (rw_ g') (a' h) = rcode (rw_ g) (a h)) ∧ a' cnt < rn (rw_ g') ∧ rcode (rw_ g') (a' cnt) = rcode (rw_ sN) y ∧ genR (rw_ g') a' (cnt + 1) := by
  have base : ∀ g, g < 195 → ∃ sN u v mask, sN = (JDS.getD g []).getD 0 0 ∧ u = (JDS.getD g []).getD 1 0 ∧ v = (JDS.getD g []).getD 2 0 ∧ mask = (JDS.getD g []).getD 3 0 ∧ sN < 195 ∧ rN (rw_ sN) = rN (rw_ g) ∧ u < rn (rw_ g) ∧ v < rn (rw_ g) ∧ mskF (rw_ g) (rw_ sN) (rN (rw_ g)) (rn (rw_ g)) = some mask ∧ trF (rw_ g) u v (JTS.getD g []) 1 = some (Nat.sub (Nat.pow 2 (rn (rw_ g))) 1) ∧ ∀ y, y < rn (rw_ sN) → pb (tbb mask y) (some ()) (pn (pk 17 ((rw_ sN).getD 2 0) y) fun c => entF (rw_ g) (rN (rw_ g)) (rn (rw_ g)) sN mask c y ((JES.getD g []).getD y 0)) = some () := by
    intro g hg
    have h := isS (allJ g hg)
    unfold chkJ at h
    have h := ps_some h
    have h := ps_some h
    have h := ps_some h
    have h := ps_some h
    have h := ps_some h
    have h := ps_some h
    simp only [kget_eq] at h
    obtain ⟨h1, h⟩ := eqs_some h
    obtain ⟨h2, h⟩ := pq_some h
    obtain ⟨h3, h⟩ := pq_some h
    obtain ⟨h4, h⟩ := pq_some h
    obtain ⟨m, h5, h⟩ := po1_some h
    obtain ⟨h6, h⟩ := eqs_some h
    obtain ⟨m', h7, h⟩ := po1_some h
    obtain ⟨h8, h⟩ := eqs_some h
    rw [h6] at h5
    rw [h8] at h7
    exact ⟨_, _, _, _, rfl, rfl, rfl, rfl, blt_t h4, h1.symm, blt_t h2, blt_t h3, h5, h7, fun y hy => alN_some _ h y hy⟩
  obtain ⟨sN, u, v, mask, e1, e2, e3, e4, h1, h2, h3, h4, h5, h6, h7⟩ := base g hg
  refine ⟨sN, h1, h2, e1, fun cnt a y ha hgen hy => ?_⟩
  have rowS := row_is h1
  have row0 := row_is hg
  obtain ⟨m1, m2⟩ := msk_some rowS _ _ h5
  obtain ⟨GS, zS, -⟩ := row_all rowS
  obtain ⟨G0, z0, -⟩ := row_all row0
  have h8 := h7 y hy
  by_cases hb : tbb mask y = true
  · obtain ⟨z, hz1, hz2⟩ := m2 y hy (by rw [← tbb_eq]; exact hb)
    refine ⟨g, fun h => if h < cnt then a h else z, hg, rfl, e1.symm, fun h hh => ?_, ?_, ?_, fun X hX0 hXc => hgen X hX0 (fun x h hx hh hXx => ?_)⟩
    · show (if h < cnt then a h else z) < _ ∧ rcode _ (if h < cnt then a h else z) = _
      rw [if_pos hh]
      exact ⟨ha h hh, rfl⟩
    · show (if cnt < cnt then a cnt else z) < _
      rw [if_neg (by omega)]
      exact hz1
    · show rcode _ (if cnt < cnt then a cnt else z) = _
      rw [if_neg (by omega)]
      exact hz2.symm
    · have := hXc x h hx (by omega) hXx
      have this : X (rM (rw_ g) x (if h < cnt then a h else z)) := this
      rw [if_pos hh] at this
      exact this
  · rw [pb_f (Bool.eq_false_iff.mpr hb)] at h8
    obtain ⟨c, hc, h8⟩ := pn_some h8
    have hcy : rcode (rw_ sN) y = c := code_of hc
    unfold entF at h8
    have h8 := ps_some h8
    have h8 := ps_some h8
    have h8 := ps_some h8
    obtain ⟨q1, h8⟩ := pq_some h8
    simp only [kget_eq] at h8
    generalize Nat.mod ((JES.getD g []).getD y 0) 256 = g' at q1 h8
    have hg' : g' < 195 := blt_t q1
    obtain ⟨q2, h8⟩ := eqs_some h8
    obtain ⟨q3, h8⟩ := eqs_some h8
    obtain ⟨q4, h8⟩ := eqs_some h8
    obtain ⟨q5, h8⟩ := pq_some h8
    obtain ⟨ua', w1, h8⟩ := po1_some h8
    obtain ⟨q6, h8⟩ := eqs_some h8
    obtain ⟨va', w2, h8⟩ := po1_some h8
    obtain ⟨q7, h8⟩ := eqs_some h8
    obtain ⟨sN', u', v', mask', f1, f2, f3, f4, k1, k2, k3, k4, k5, k6, -⟩ := base g' hg'
    rw [← f4] at q4 q5
    rw [← f2] at q6
    rw [← f3] at q7
    rw [← f1] at q3
    subst q3
    subst q6
    subst q7
    have row1 := row_is hg'
    obtain ⟨G1, z1, -⟩ := row_all row1
    obtain ⟨n1, n2⟩ := msk_some rowS _ _ k5
    have hN : rN (rw_ g') = rN (rw_ g) := q2.symm
    have hsub : ∀ i, mask.testBit i = true → mask'.testBit i = true := fun i hi => by
      rw [← q4] at hi
      have hi : (mask &&& mask').testBit i = true := hi
      rw [Nat.testBit_and] at hi
      simp at hi
      exact hi.2
    -- each of the smaller set in the larger
    have emb : ∀ z, z < rn (rw_ g) → ∃ z', z' < rn (rw_ g') ∧ rcode (rw_ g') z' = rcode (rw_ g) z := fun z hz => by
      obtain ⟨i, a1, a2, a3⟩ := m1 z hz
      obtain ⟨z', b1, b2⟩ := n2 i a1 (hsub i a3)
      exact ⟨z', b1, by rw [← b2, a2]⟩
    obtain ⟨yc, yc1, yc2⟩ := n2 y hy (by rw [← tbb_eq]; exact q5)
    let ea : Nat → Nat := fun h => if hh : a h < rn (rw_ g) then Classical.choose (emb (a h) hh) else 0
    have hea : ∀ h, h < cnt → ea h < rn (rw_ g') ∧ rcode (rw_ g') (ea h) = rcode (rw_ g) (a h) := fun h hh => by
      show (if hh : a h < rn (rw_ g) then Classical.choose (emb (a h) hh) else 0) < _ ∧ rcode _ (if hh : a h < rn (rw_ g) then Classical.choose (emb (a h) hh) else 0) = _
      rw [dif_pos (ha h hh)]
      exact Classical.choose_spec (emb (a h) (ha h hh))
    refine ⟨g', fun h => if h < cnt then ea h else yc, hg', hN, f1.symm, fun h hh => ?_, ?_, ?_, fun X hX0 hXc => ?_⟩
    · show (if h < cnt then ea h else yc) < _ ∧ rcode _ (if h < cnt then ea h else yc) = _
      rw [if_pos hh]
      exact hea h hh
    · show (if cnt < cnt then ea cnt else yc) < _
      rw [if_neg (by omega)]
      exact yc1
    · show rcode _ (if cnt < cnt then ea cnt else yc) = _
      rw [if_neg (by omega)]
      exact yc2.symm
    · -- what leads from X to X
      let R : Nat → Prop := fun h => h < rn (rw_ g') ∧ ∀ x, x < rn (rw_ g') → X x → X (rM (rw_ g') x h)
      have hR0 : R 0 := ⟨G1.2.2.1, fun x hx hXx => by rw [row_one row1 hx]; exact hXx⟩
      have hRm : ∀ x y, R x → R y → R (rM (rw_ g') x y) := fun x y hx hy => ⟨(row_comp row1 hx.1 hy.1).1, fun w hw hXw => by
        rw [← row_assoc row1 hw hx.1 hy.1]
        exact hy.2 _ (row_comp row1 hw hx.1).1 (hx.2 w hw hXw)⟩
      have hRy : R yc := ⟨yc1, fun x hx hXx => by
        have := hXc x cnt hx (by omega) hXx
        have this : X (rM (rw_ g') x (if cnt < cnt then ea cnt else yc)) := this
        rw [if_neg (by omega)] at this
        exact this⟩
      have hRa : ∀ h, h < cnt → R (ea h) := fun h hh => ⟨(hea h hh).1, fun x hx hXx => by
        have := hXc x h hx (by omega) hXx
        have this : X (rM (rw_ g') x (if h < cnt then ea h else yc)) := this
        rw [if_pos hh] at this
        exact this⟩
      have hall : ∀ z, z < rn (rw_ g) → ∀ z', z' < rn (rw_ g') → rcode (rw_ g') z' = rcode (rw_ g) z → R z' := by
        refine hgen (fun z => ∀ z', z' < rn (rw_ g') → rcode (rw_ g') z' = rcode (rw_ g) z → R z') (fun z' hz' he => ?_) (fun z h hz hh ih z' hz' he => ?_)
        · have : z' = 0 := gf_inj G1 hz' G1.2.2.1 (by rw [he, row_id row0, row_id row1, hN])
          rw [this]
          exact hR0
        · obtain ⟨zz, b1, b2⟩ := emb z hz
          have hzz := ih zz b1 b2
          have hm := row_comp row1 b1 (hea h hh).1
          have : z' = rM (rw_ g') zz (ea h) := gf_inj G1 hz' hm.1 (by rw [he, hm.2, (row_comp row0 hz (ha h hh)).2, b2, (hea h hh).2, hN])
          rw [this]
          exact hRm _ _ hzz (hRa h hh)
      have hlet : ∀ i, i < rn (rw_ g') → (rcode (rw_ g') i = c ∨ ∃ z, z < rn (rw_ g) ∧ rcode (rw_ g') i = rcode (rw_ g) z) → R i := fun i hi hor => by
        rcases hor with q | ⟨z, q1, q2⟩
        · have : i = yc := gf_inj G1 hi yc1 (by rw [q, ← yc2, hcy])
          rw [this]
          exact hRy
        · exact hall z q1 i hi q2
      have hu := wd_some hRm hlet 20 _ 0 _ w1 hR0
      have hv := wd_some hRm hlet 20 _ 0 _ w2 hR0
      have htr := tr_some (r := rw_ g') (X := fun z => z < rn (rw_ g') ∧ X z) (fun x hx => ⟨⟨(row_comp row1 hx.1 hu.1).1, hu.2 x hx.1 hx.2⟩, (row_comp row1 hx.1 hv.1).1, hv.2 x hx.1 hx.2⟩) _ _ _ k6 (fun i hi => by
        have : i = 0 := by
          rw [Nat.testBit_one_eq_true_iff_self_eq_zero] at hi
          exact hi
        rw [this]
        exact ⟨G1.2.2.1, hX0⟩)
      exact fun z hz => (htr z (pow_bit hz)).2
