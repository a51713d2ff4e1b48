/-! ===== the class: all that the generators make ===== -/
/-- downwards: 0 comes before 1 -/
def dnk (k : Nat) : Nat := if k = 0 then 4294967295 else k - 1
theorem spell_loop : ∀ (k f : Nat) (g : Nat → Nat) (s c : Nat), k ≤ 5 → k < f → s + k ≤ 15 → c < 2147483648 → ∃ g', pj_CXf_X0_spell_23_27 f g s c (dnk k) = some g' ∧ (∀ q, q < k → g' (s + q) = c / 10 ^ (k - 1 - q) % 10 + 1) ∧ ∀ j, j < s ∨ s + k ≤ j → g' j = g j
  | 0, f + 1, g, s, c, _, _, _, _ => by
    refine ⟨g, ?_, fun q hq => by omega, fun _ _ => rfl⟩
    show p_CXf_X0_spell_23_27_11 _ g s c 4294967295 = some g
    unfold p_CXf_X0_spell_23_27_11
    rw [pglt_p (by omega)]
    rfl
  | k + 1, f + 1, g, s, c, hk, hf, hs, hc => by
    have hd : c / 10 < 2147483648 := Nat.lt_of_le_of_lt (Nat.div_le_self c 10) hc
    obtain ⟨g', h1, h2, h3⟩ := spell_loop k f (uf g (s + k) (Nat.succ (c % 10))) s (c / 10) (by omega) (by omega) (by omega) hd
    refine ⟨g', ?_, fun q hq => ?_, fun j hj => ?_⟩
    · show p_CXf_X0_spell_23_27_11 (pj_CXf_X0_spell_23_27 f) g s c k = some g'
      unfold p_CXf_X0_spell_23_27_11
      rw [pglt_n (by omega)]
      unfold p_CXf_X0_spell_23_27_16
      rw [ks (na (a := s) (b := k) (by omega)), ks (nrm hc), pq_t (bl_t (by omega)), ks (ndv hc), kseq_eq]
      have e : Nat.mod (Nat.add k 4294967295) 4294967296 = dnk k := by
        unfold dnk
        split
        · next h => subst h; rfl
        · exact ndec (by omega) (by omega)
      rw [e]
      exact h1
    · by_cases hqk : q < k
      · rw [h2 q hqk, Nat.div_div_eq_div_mul, show 10 * 10 ^ (k - 1 - q) = 10 ^ (k + 1 - 1 - q) by
          rw [← Nat.pow_succ']
          congr 1
          omega]
      · have e : q = k := by omega
        subst e
        rw [h3 _ (Or.inr (Nat.le_refl _)), uf_same rfl]
        simp
    · rw [h3 j (by omega), uf_ne (by omega)]
theorem spell_ok {N : Nat} (h1 : 1 ≤ N) (h5 : N ≤ 5) (g : Nat → Nat) {s c : Nat} (hs : s + N ≤ 15) (hc : c < 2147483648) : ∃ g', P_CXf_X0_spell_23_27 N g c s = some g' ∧ (∀ q, q < N → g' (s + q) = dgc N c q + 1) ∧ ∀ j, j < s ∨ s + N ≤ j → g' j = g j := by
  obtain ⟨g', e1, e2, e3⟩ := spell_loop N 301 g s c h5 (by omega) hs hc
  refine ⟨g', ?_, e2, e3⟩
  unfold P_CXf_X0_spell_23_27 p_CXf_X0_spell_23_27_0
  rw [ks (nsb h1 (by omega))]
  have e : dnk N = N - 1 := by unfold dnk; rw [if_neg (by omega)]
  rw [e] at e1
  exact e1
theorem fill_loop : ∀ (d f : Nat) (g : Nat → Nat) (v i : Nat), i + d = 625 → d < f → ∃ g', pj_CXf_J7_fill_53178_28 f g v i 625 = some g' ∧ (∀ q, i ≤ q → q < 625 → g' q = v + 1) ∧ ∀ q, q < i → g' q = g q
  | 0, f + 1, g, v, i, hi, _ => by
    refine ⟨g, ?_, fun q h1 h2 => by omega, fun _ _ => rfl⟩
    show p_CXf_J7_fill_53178_28_5 _ g v i 625 = some g
    unfold p_CXf_J7_fill_53178_28_5
    rw [pb_f (slt_f (by omega) (by omega))]
    rfl
  | d + 1, f + 1, g, v, i, hi, hf => by
    obtain ⟨g', e1, e2, e3⟩ := fill_loop d f (uf g i (Nat.succ v)) v (i + 1) (by omega) (by omega)
    refine ⟨g', ?_, fun q h1 h2 => ?_, fun q hq => ?_⟩
    · show p_CXf_J7_fill_53178_28_5 (pj_CXf_J7_fill_53178_28 f) g v i 625 = some g'
      unfold p_CXf_J7_fill_53178_28_5
      rw [pb_t (slt_t (by omega) (by omega))]
      unfold p_CXf_J7_fill_53178_28_10
      rw [pq_t (bl_t (by omega)), ks (ninc (by omega))]
      exact e1
    · by_cases hq : q = i
      · subst hq
        rw [e3 q (by omega), uf_same rfl]
      · exact e2 q (by omega) h2
    · rw [e3 q (by omega), uf_ne (by omega)]
theorem fill_ok (g : Nat → Nat) (v : Nat) : ∃ g', P_CXf_J7_fill_53178_28 g v = some g' ∧ ∀ q, q < 625 → g' q = v + 1 := by
  obtain ⟨g', e1, e2, -⟩ := fill_loop 625 701 g v 0 (by omega) (by omega)
  exact ⟨g', e1, fun q hq => e2 q (Nat.zero_le _) hq⟩
theorem key_loop {N : Nat} (h1 : 1 ≤ N) (h5 : N ≤ 5) {m d : Nat → Nat} (hm : ∀ p, p < N → m p = d p + 1) (hd : ∀ p, p < N → d p < 5) : ∀ (k f p : Nat), p + k = N - 1 → k < f → pj_CXf_X0_keyOfMade_23 f N m (kfold d p) p = some (kfold d (N - 1))
  | 0, f + 1, p, hp, _ => by
    show p_CXf_X0_keyOfMade_23_4 _ N m (kfold d p) p = _
    unfold p_CXf_X0_keyOfMade_23_4
    rw [ks (nsb h1 (by omega)), pb_f (slt_f (by omega) (by omega))]
    unfold p_CXf_X0_keyOfMade_23_31
    rw [show p = N - 1 by omega]
  | k + 1, f + 1, p, hp, hf => by
    have hk := kfold_lt (d := d) p (fun q hq => hd q (by omega))
    have h4 : 5 ^ p ≤ 5 ^ 4 := Nat.pow_le_pow_right (by omega) (by omega)
    have hdp := hd p (by omega)
    show p_CXf_X0_keyOfMade_23_4 (pj_CXf_X0_keyOfMade_23 f) N m (kfold d p) p = _
    unfold p_CXf_X0_keyOfMade_23_4
    rw [ks (nsb h1 (by omega)), pb_t (slt_t (by omega) (by omega))]
    unfold p_CXf_X0_keyOfMade_23_14
    rw [ks (nm (by omega)), pq_t (bl_t (by omega)), pn_s (hm p (by omega)), ks (na (by omega)), ks (ninc (by omega))]
    exact key_loop h1 h5 hm hd k f (p + 1) (by omega) (by omega)
theorem key_ok {N : Nat} (h1 : 1 ≤ N) (h5 : N ≤ 5) {m d : Nat → Nat} (hm : ∀ p, p < N → m p = d p + 1) (hd : ∀ p, p < N → d p < 5) : P_CXf_X0_keyOfMade_23 N m = some (kfold d (N - 1)) := key_loop h1 h5 hm hd (N - 1) 301 0 (by omega) (by omega)
theorem below_t {i n : Nat} (h : i < n) (hn : n < 2147483648) : P_CXf_X8_isBelow i n = some 1 := by
  unfold P_CXf_X8_isBelow p_CXf_X8_isBelow_0
  rw [pglt_n (by omega)]
  unfold p_CXf_X8_isBelow_4
  rw [pb_t (slt_t h hn)]
  rfl
/-- the heap beside the list of places that have been made -/
def figR (N : Nat) (dig : Nat → Nat → Nat) (L : List Nat) (f : Nat → Nat) : Prop := ∀ (i z p : Nat), L[i]? = some z → p < N → f (5 * i + p) = dig z p + 1
def cakR (key code : Nat → Nat) (L : List Nat) (c : Nat → Nat) : Prop := ∀ k, k < 625 → (∃ z ∈ L, key z = k ∧ c k = code z + 1) ∨ ((∀ z ∈ L, key z ≠ k) ∧ c k = 4294967296)
theorem add_loop {N : Nat} (h5 : N ≤ 5) {m d : Nat → Nat} (hm : ∀ p, p < N → m p = d p + 1) (hd : ∀ p, p < N → d p < 5) {o k : Nat} (ho : o < 120) (hk : k < 625) (c : Nat → Nat) : ∀ (w f p : Nat) (g : Nat → Nat), p + w = N → w < f → ∃ g', pj_CXf_X0_addMade_23 f o N g c m k (cfold d p) p = some (o + 1, g', uf c k (Nat.succ (cfold d N))) ∧ (∀ q, p ≤ q → q < N → g' (5 * o + q) = d q + 1) ∧ ∀ j, j < 5 * o + p ∨ 5 * o + N ≤ j → g' j = g j
  | 0, f + 1, p, g, hp, _ => by
    have e : p = N := by omega
    subst e
    refine ⟨g, ?_, fun q h1 h2 => by omega, fun _ _ => rfl⟩
    show p_CXf_X0_addMade_23_39 _ o p g c m k (cfold d p) p = _
    unfold p_CXf_X0_addMade_23_39
    rw [pb_f (slt_f (Nat.le_refl _) (by omega))]
    unfold p_CXf_X0_addMade_23_84
    rw [pq_t (bl_t hk), ks (na (by omega))]
  | w + 1, f + 1, p, g, hp, hf => by
    have hcp := cfold_lt (d := d) p (fun q hq => by have := hd q (by omega); omega)
    have h4 : 10 ^ p ≤ 10 ^ 5 := Nat.pow_le_pow_right (by omega) (by omega)
    have hdp := hd p (by omega)
    obtain ⟨g', e1, e2, e3⟩ := add_loop h5 hm hd ho hk c w f (p + 1) (uf g (o * 5 + p) (Nat.succ (d p))) (by omega) (by omega)
    refine ⟨g', ?_, fun q h1 h2 => ?_, fun j hj => ?_⟩
    · show p_CXf_X0_addMade_23_39 (pj_CXf_X0_addMade_23 f) o N g c m k (cfold d p) p = _
      unfold p_CXf_X0_addMade_23_39
      rw [pb_t (slt_t (by omega) (by omega))]
      unfold p_CXf_X0_addMade_23_47
      rw [ks (nm (by omega)), ks (na (by omega)), pq_t (bl_t (by omega)), pn_s (hm p (by omega)), pq_t (bl_t (by omega)), ks (nm (by omega)), pq_t (bl_t (by omega)), pn_s (hm p (by omega)), ks (na (by omega)), ks (ninc (by omega))]
      exact e1
    · by_cases hq : q = p
      · subst hq
        rw [e3 _ (by omega), uf_same (by omega)]
      · exact e2 q (by omega) h2
    · rw [e3 j (by omega), uf_ne (by omega)]
section BX
variable {N n : Nat} {dig : Nat → Nat → Nat} {key code : Nat → Nat} {M : Nat → Nat → Nat}
/-- addMade: a place that is new goes behind the list -/
theorem add_ok (G : GF N n dig key code M) {L : List Nat} (hn : L.Nodup) (hL : ∀ z ∈ L, z < n) {f c m : Nat → Nat} (hf : figR N dig L f) (hc : cakR key code L c) {z : Nat} (hz : z < n) (hm : ∀ p, p < N → m p = dig z p + 1) : ∃ f' c', P_CXf_X0_addMade_23 L.length N f c m = some ((if z ∈ L then L else L ++ [z]).length, f', c') ∧ figR N dig (if z ∈ L then L else L ++ [z]) f' ∧ cakR key code (if z ∈ L then L else L ++ [z]) c' := by
  obtain ⟨h1, h5, hn1, hn2, hd, -, -, hk, hinj, hcd, -⟩ := G
  have hd5 : ∀ p, p < N → dig z p < 5 := fun p hp => by have := hd z hz p hp; omega
  have ek := key_ok h1 h5 hm hd5
  rw [← hk z hz] at ek
  have hk6 : key z < 625 := by
    rw [hk z hz]
    have a1 := kfold_lt (d := dig z) (N - 1) (fun p hp => hd5 p (by omega))
    have a2 : 5 ^ (N - 1) ≤ 5 ^ 4 := Nat.pow_le_pow_right (by omega) (by omega)
    omega
  have hc9 : ∀ w, w < n → code w < 100000 := fun w hw => by
    rw [hcd w hw]
    have a1 := cfold_lt (d := dig w) N (fun p hp => by have := hd w hw p hp; omega)
    have a2 : 10 ^ N ≤ 10 ^ 5 := Nat.pow_le_pow_right (by omega) (by omega)
    omega
  unfold P_CXf_X0_addMade_23 p_CXf_X0_addMade_23_0
  rw [po1_s ek, po1_s (below_t hk6 (by omega)), pgeq_s (by omega)]
  unfold p_CXf_X0_addMade_23_15
  rw [pq_t (bl_t hk6)]
  rcases hc (key z) hk6 with ⟨w, hw, hwk, hwc⟩ | ⟨hno, hwc⟩
  · have e : w = z := hinj w z (hL w hw) hz hwk
    subst e
    rw [if_pos hw, pn_s hwc, pb_f (be_f (by have := hc9 w hz; omega))]
    exact ⟨f, c, rfl, hf, hc⟩
  · have hzL : z ∉ L := fun h => hno z h rfl
    have hlt : L.length < 120 := by
      have := nodup_le n (z :: L) (List.nodup_cons.mpr ⟨hzL, hn⟩) (fun x hx => by
        rcases List.mem_cons.mp hx with rfl | hx
        · exact hz
        · exact hL x hx)
      simp at this
      omega
    rw [if_neg hzL, pn_s hwc, pb_t (Nat.beq_refl _)]
    unfold p_CXf_X0_addMade_23_25
    rw [pb_t (slt_t hlt (by omega))]
    unfold p_CXf_X0_addMade_23_35
    obtain ⟨g', e1, e2, e3⟩ := add_loop h5 hm hd5 hlt hk6 c N 11 0 f (by omega) (by omega)
    refine ⟨g', uf c (key z) (Nat.succ (cfold (dig z) N)), ?_, ?_, ?_⟩
    · rw [List.length_append]
      exact e1
    · intro i w p hi hp
      by_cases hil : i < L.length
      · rw [List.getElem?_append_left hil] at hi
        rw [e3 _ (by omega)]
        exact hf i w p hi hp
      · rw [List.getElem?_append_right (by omega)] at hi
        have hi0 : i - L.length = 0 := by
          have := (List.getElem?_eq_some_iff.mp hi).1
          simp at this
          omega
        rw [hi0] at hi
        cases hi
        have : i = L.length := by omega
        subst this
        exact e2 p (Nat.zero_le _) hp
    · intro k hk
      by_cases hkz : k = key z
      · subst hkz
        exact Or.inl ⟨z, by simp, rfl, by rw [uf_same rfl, hcd z hz]⟩
      · rw [uf_ne hkz]
        rcases hc k hk with ⟨w, q1, q2, q3⟩ | ⟨q1, q2⟩
        · exact Or.inl ⟨w, List.mem_append_left _ q1, q2, q3⟩
        · refine Or.inr ⟨fun w hw => ?_, q2⟩
          rcases List.mem_append.mp hw with h | h
          · exact q1 w h
          · rw [List.mem_singleton.mp h]
            exact fun e => hkz e.symm
end BX
