/-! ===== the text: an order, read by both ===== -/
section TZ
variable {t : Nat → Nat} {len : Nat}
theorem pow2m {v : Nat} (h : v < 10) : Nat.mod (Nat.mul 1 (Nat.pow 2 v)) 4294967296 = 2 ^ v := by
  have hp : 2 ^ v < 2 ^ 10 := Nat.pow_lt_pow_right (by omega) h
  show (1 * 2 ^ v) % 4294967296 = _
  rw [Nat.one_mul]
  exact Nat.mod_eq_of_lt (by omega)
theorem land1 (x : Nat) : Nat.land x 1 = 0 ∨ Nat.land x 1 = 1 := by
  have : Nat.land x 1 = x % 2 := Nat.and_one_is_mod x
  omega
theorem has_ok {sn v : Nat} (hs : sn < 1024) (hv : v < 10) : P_CMf_X9_has sn v = some (if Nat.land (sn / 2 ^ v) 1 = 0 then 0 else 1) := by
  unfold P_CMf_X9_has p_CMf_X9_has_0
  rw [pq_t (bl_t (by omega)), pq_t (bl_t (by omega)), kseq_eq, kseq_eq]
  rcases land1 (sn / 2 ^ v) with h | h
  · rw [if_pos h, pb_f (be_f (by show Nat.land (sn / 2 ^ v) 1 ≠ 1; omega))]
    rfl
  · rw [if_neg (by omega), pb_t (by show Nat.beq (Nat.land (sn / 2 ^ v) 1) 1 = true; rw [h]; rfl)]
    rfl
theorem n48 {c : Nat} (h : c < 128) : n_sub c 48 < 4294967296 ∧ (n_sub c 48 < 10 → c ≠ 32) := by
  constructor
  · exact Nat.mod_lt _ (by omega)
  · intro h2 e
    rw [e] at h2
    exact absurd h2 (by decide)
theorem n48e : n_sub 4294967295 48 = 4294967247 := by decide
/-- one figure -/
theorem fig_both (hl : len ≤ 80) (hk : ∀ k, k < len → ∃ b, t k = b + 1 ∧ b < 128) {i o kd pt lo hi : Nat} {ka na : Nat → Nat} (hi1 : i ≤ len) (hpt : pt < 100) (hkd : (kd = 110 ∧ lo = 1 ∧ hi = 5) ∨ (kd = 120 ∧ lo = 0 ∧ hi = 9)) (ho : o < 100) : (∃ v i2, P_CMf_X9_figure len i 4294967295 t lo hi = some (v, i2, 4294967295) ∧ i < i2 ∧ i2 ≤ len ∧ lo ≤ v ∧ v ≤ hi ∧ ∀ res, FF t len i2 o kd v 0 (2 ^ v) pt ka na res → FF t len i o kd 0 1 0 pt ka na res) ∨ (∃ v i2 q rest, P_CMf_X9_figure len i 4294967295 t lo hi = some (v, i2, q) ∧ i2 ≤ len ∧ q ≤ len ∧ v < 4294967296 ∧ FF t len i o kd 0 1 0 pt ka na (q, rest)) := by
  have hlo : lo ≤ hi ∧ hi < 10 ∧ kd ≠ 0 := by
    rcases hkd with ⟨k1, k2, k3⟩ | ⟨k1, k2, k3⟩
    · exact ⟨by omega, by omega, by omega⟩
    · exact ⟨by omega, by omega, by omega⟩
  obtain ⟨i', a1, a2, a3, a4⟩ := here_ok hl hk hi1
  have skip : ∀ res, FF t len i' o kd 0 1 0 pt ka na res → FF t len i o kd 0 1 0 pt ka na res := fun res h => FF_skip hl (i' - i) i (by omega) (fun k h1 h2 => a3 k h1 (by omega)) (by rw [show i + (i' - i) = i' by omega]; exact h)
  rcases a4 with ⟨e1, e2⟩ | ⟨e1, c, c1, c2, c3, e2⟩
  · right
    refine ⟨4294967247, len, len, _, ?_, Nat.le_refl _, Nat.le_refl _, by omega, skip _ (by
      have := FF_end (t := t) (o := o) (kd := kd) (nm := 0) (du := 1) (sn := 0) (pt := pt) (ka := ka) (na := na) hl e1 ho
      rw [if_neg (fun h => hlo.2.2 h.1)] at this
      exact this)⟩
    unfold P_CMf_X9_figure p_CMf_X9_figure_0
    rw [po2_s e2, ks n48e, po1_s (in_gen (by omega) hlo.1 (by omega)), if_neg (by omega), po2_s must_0]
  · have hv := n48 c2
    have hfig : figOk kd 0 pt (n_sub c 48) ↔ (lo ≤ n_sub c 48 ∧ n_sub c 48 ≤ hi) := by
      unfold figOk
      constructor
      · rintro ⟨q1, q2, -⟩
        rcases hkd with ⟨k1, k2, k3⟩ | ⟨k1, k2, k3⟩
        · have := q2 k1
          omega
        · omega
      · intro q
        exact ⟨by omega, fun k1 => by omega, fun k1 => by omega⟩
    by_cases hin : lo ≤ n_sub c 48 ∧ n_sub c 48 ≤ hi
    · left
      refine ⟨n_sub c 48, i' + 1, ?_, by omega, by omega, hin.1, hin.2, fun res h => skip res (FF_take hl e1 c3 c1 (tk_fig (o := o) (ka := ka) (na := na) hlo.2.2 (by omega) (by omega) (by omega) (by omega) rfl hv.1 hpt (hfig.mpr hin)) ?_)⟩
      · unfold P_CMf_X9_figure p_CMf_X9_figure_0
        rw [po2_s e2, ks rfl, po1_s (in_gen hv.1 hlo.1 (by omega)), if_pos hin, po2_s (must_1 (by omega))]
      · rw [show 10 * 0 + n_sub c 48 = n_sub c 48 by omega, show 1 - 1 = 0 from rfl, Nat.zero_or]
        exact h
    · right
      refine ⟨n_sub c 48, i', i', _, ?_, a2, a2, hv.1, skip _ (FF_fail hl e1 c3 c1 (tk_nofig (o := o) (nm_ := 0) (ka := ka) (na := na) hlo.2.2 (by omega) (by omega) (by omega) rfl hv.1 hpt (fun q => hin (hfig.mp q))))⟩
      unfold P_CMf_X9_figure p_CMf_X9_figure_0
      rw [po2_s e2, ks rfl, po1_s (in_gen hv.1 hlo.1 (by omega)), if_neg hin, po2_s must_0]
/-- the figures of a move -/
theorem move_both (hl : len ≤ 80) (hk : ∀ k, k < len → ∃ b, t k = b + 1 ∧ b < 128) {o pt : Nat} {ka na : Nat → Nat} (hpt : pt ≤ 5) (hpt1 : 1 ≤ pt) (ho : o < 100) : ∀ (w f i p code sn : Nat), p + w = pt → w + 1 < f → i ≤ len → sn < 1024 → code < 10 ^ p → (∃ code' sn' i2, pj_CMf_X9_readMove f len i 4294967295 pt t sn code p = some (code', i2, 4294967295) ∧ i + w ≤ i2 ∧ i2 ≤ len ∧ code' < 10 ^ pt ∧ ∀ res, FF t len i2 o 109 code' 0 sn' pt ka na res → FF t len i o 109 code w sn pt ka na res) ∨ (∃ code' i2 q rest, pj_CMf_X9_readMove f len i 4294967295 pt t sn code p = some (code', i2, q) ∧ i2 ≤ len ∧ q ≤ len ∧ FF t len i o 109 code w sn pt ka na (q, rest))
  | 0, f + 1, i, p, code, sn, hp, _, hi, hs, hc => by
    left
    refine ⟨code, sn, i, ?_, by omega, hi, by rw [show pt = p by omega]; exact hc, fun res h => h⟩
    show p_CMf_X9_readMove_6 (pj_CMf_X9_readMove f) len i 4294967295 pt t sn code p = _
    unfold p_CMf_X9_readMove_6
    rw [pb_f (slt_f (by omega) (by omega))]
    rfl
  | w + 1, f + 1, i, p, code, sn, hp, hf, hi, hs, hc => by
    obtain ⟨i', a1, a2, a3, a4⟩ := here_ok hl hk hi
    have h10 : 10 ^ p ≤ 10 ^ 4 := Nat.pow_le_pow_right (by omega) (by omega)
    have skip : ∀ res, FF t len i' o 109 code (w + 1) sn pt ka na res → FF t len i o 109 code (w + 1) sn pt ka na res := fun res h => FF_skip hl (i' - i) i (by omega) (fun k h1 h2 => a3 k h1 (by omega)) (by rw [show i + (i' - i) = i' by omega]; exact h)
    have head : pj_CMf_X9_readMove (f + 1) len i 4294967295 pt t sn code p = p_CMf_X9_readMove_22 (pj_CMf_X9_readMove f) len i 4294967295 pt t sn code p := by
      show p_CMf_X9_readMove_6 (pj_CMf_X9_readMove f) len i 4294967295 pt t sn code p = _
      unfold p_CMf_X9_readMove_6
      rw [pb_t (slt_t (by omega) (by omega))]
      unfold p_CMf_X9_readMove_14
      rw [pb_t (Nat.beq_refl _)]
    -- behind a fault
    have bad : ∀ a v, a ≤ len → v < 4294967296 → ∃ code', p_CMf_X9_readMove_60 (pj_CMf_X9_readMove f) len a 4294967295 pt t sn code p v = some (code', a, a) := fun a v ha hv => by
      obtain ⟨f, rfl⟩ : ∃ f', f = f' + 1 := ⟨f - 1, by omega⟩
      refine ⟨n_add (10 * code) v, ?_⟩
      unfold p_CMf_X9_readMove_60 p_CMf_X9_readMove_61
      rw [po2_s must_0, pb_f (be_f (by omega))]
      unfold p_CMf_X9_readMove_80 p_CMf_X9_readMove_81
      rw [kseq_eq, ks (n_m (by omega)), kseq_eq, ks (ninc (by omega))]
      show p_CMf_X9_readMove_6 (pj_CMf_X9_readMove f) len a a pt t _ _ (p + 1) = _
      unfold p_CMf_X9_readMove_6
      by_cases hpp : p + 1 < pt
      · rw [pb_t (slt_t hpp (by omega))]
        unfold p_CMf_X9_readMove_14
        rw [pb_f (be_f (by omega))]
        rfl
      · rw [pb_f (slt_f (by omega) (by omega))]
        rfl
    rcases a4 with ⟨e1, e2⟩ | ⟨e1, c, c1, c2, c3, e2⟩
    · right
      obtain ⟨code', hb⟩ := bad len 4294967247 (Nat.le_refl _) (by omega)
      refine ⟨code', len, len, _, ?_, Nat.le_refl _, Nat.le_refl _, skip _ (by
        have := FF_end (t := t) (o := o) (kd := 109) (nm := code) (du := w + 1) (sn := sn) (pt := pt) (ka := ka) (na := na) hl e1 ho
        rw [if_neg (by omega)] at this
        exact this)⟩
      rw [head]
      unfold p_CMf_X9_readMove_22
      rw [po2_s e2, ks n48e, ks (nsb hpt1 (by omega)), po1_s (in_gen (by omega) (by omega) (by omega)), if_neg (by omega), pgeq_0 rfl]
      exact hb
    · have hv := n48 c2
      by_cases hin : n_sub c 48 < pt
      · have hv10 : n_sub c 48 < 10 := by omega
        have hp2 : 2 ^ n_sub c 48 < 2 ^ 10 := Nat.pow_lt_pow_right (by omega) hv10
        by_cases hz : Nat.land (sn / 2 ^ n_sub c 48) 1 = 0
        · have hfig : figOk 109 sn pt (n_sub c 48) := ⟨hv10, fun e => by omega, fun _ => ⟨hin, hz⟩⟩
          have hcode : 10 * code + n_sub c 48 < 10 ^ (p + 1) := by
            rw [Nat.pow_succ]
            omega
          have hor : sn ||| 2 ^ n_sub c 48 < 1024 := Nat.or_lt_two_pow (n := 10) hs hp2
          have step : pj_CMf_X9_readMove (f + 1) len i 4294967295 pt t sn code p = pj_CMf_X9_readMove f len (i' + 1) 4294967295 pt t (sn ||| 2 ^ n_sub c 48) (10 * code + n_sub c 48) (p + 1) := by
            rw [head]
            unfold p_CMf_X9_readMove_22
            rw [po2_s e2, ks rfl, ks (nsb hpt1 (by omega)), po1_s (in_gen hv.1 (by omega) (by omega)), if_pos ⟨by omega, by omega⟩, pgeq_s (by omega)]
            unfold p_CMf_X9_readMove_47
            rw [po1_s (has_ok hs hv10), if_pos hz, pgeq_0 rfl]
            unfold p_CMf_X9_readMove_56 p_CMf_X9_readMove_61
            rw [po2_s (must_1 (by omega)), pb_t (Nat.beq_refl _)]
            unfold p_CMf_X9_readMove_73
            rw [pq_t (bl_t (by omega)), ks (pow2m hv10)]
            unfold p_CMf_X9_readMove_81
            rw [kseq_eq, ks (n_m (by omega)), ks (n_a (by omega)), ks (ninc (by omega))]
            rfl
          have adv : ∀ res, FF t len (i' + 1) o 109 (10 * code + n_sub c 48) w (sn ||| 2 ^ n_sub c 48) pt ka na res → FF t len i o 109 code (w + 1) sn pt ka na res := fun res h => skip res (FF_take hl e1 c3 c1 (tk_fig (o := o) (ka := ka) (na := na) (by omega) (by omega) (by omega) hs (by omega) rfl hv.1 (by omega) hfig) h)
          rcases move_both hl hk hpt hpt1 ho w f (i' + 1) (p + 1) _ _ (by omega) (by omega) (by omega) hor hcode with ⟨code', sn', i2, b1, b2, b3, b4, b5⟩ | ⟨code', i2, q, rest, b1, b2, b3, b4⟩
          · exact Or.inl ⟨code', sn', i2, step.trans b1, by omega, b3, b4, fun res h => adv res (b5 res h)⟩
          · exact Or.inr ⟨code', i2, q, rest, step.trans b1, b2, b3, adv _ b4⟩
        · right
          obtain ⟨code', hb⟩ := bad i' (n_sub c 48) a2 hv.1
          refine ⟨code', i', i', _, ?_, a2, a2, skip _ (FF_fail hl e1 c3 c1 (tk_nofig (o := o) (nm_ := code) (ka := ka) (na := na) (by omega) (by omega) (by omega) hs rfl hv.1 (by omega) (fun q => hz (q.2.2 rfl).2)))⟩
          rw [head]
          unfold p_CMf_X9_readMove_22
          rw [po2_s e2, ks rfl, ks (nsb hpt1 (by omega)), po1_s (in_gen hv.1 (by omega) (by omega)), if_pos ⟨by omega, by omega⟩, pgeq_s (by omega)]
          unfold p_CMf_X9_readMove_47
          rw [po1_s (has_ok hs hv10), if_neg hz, pgeq_s (by omega)]
          exact hb
      · right
        obtain ⟨code', hb⟩ := bad i' (n_sub c 48) a2 hv.1
        refine ⟨code', i', i', _, ?_, a2, a2, skip _ (FF_fail hl e1 c3 c1 (tk_nofig (o := o) (nm_ := code) (ka := ka) (na := na) (by omega) (by omega) (by omega) hs rfl hv.1 (by omega) (fun q => hin (q.2.2 rfl).1)))⟩
        rw [head]
        unfold p_CMf_X9_readMove_22
        rw [po2_s e2, ks rfl, ks (nsb hpt1 (by omega)), po1_s (in_gen hv.1 (by omega) (by omega)), if_neg (by omega), pgeq_0 rfl]
        exact hb
/-- the end of an order -/
theorem semi_both (hl : len ≤ 80) (hk : ∀ k, k < len → ∃ b, t k = b + 1 ∧ b < 128) {i o kd nm sn pt pt2 : Nat} {ka na la nb : Nat → Nat} (hi : i ≤ len) (hkd : kd ≠ 0) (ho : o < 27) : (∃ i2, p_CMf_X9_readOrder_130 len i 4294967295 o pt2 t la nb = some (i2, 4294967295, o + 1, pt2, la, nb) ∧ i < i2 ∧ i2 ≤ len ∧ ∀ res, FF t len i2 (o + 1) 0 nm 0 sn (if kd = 110 then nm else pt) (uf ka o (kd + 1)) (uf na o (nm + 1)) res → FF t len i o kd nm 0 sn pt ka na res) ∨ (∃ i2 q rest, p_CMf_X9_readOrder_130 len i 4294967295 o pt2 t la nb = some (i2, q, o + 1, pt2, la, nb) ∧ q ≤ len ∧ FF t len i o kd nm 0 sn pt ka na (q, rest)) := by
  obtain ⟨i', a1, a2, a3, a4⟩ := here_ok hl hk hi
  have skip : ∀ res, FF t len i' o kd nm 0 sn pt ka na res → FF t len i o kd nm 0 sn pt ka na res := fun res h => FF_skip hl (i' - i) i (by omega) (fun k h1 h2 => a3 k h1 (by omega)) (by rw [show i + (i' - i) = i' by omega]; exact h)
  rcases a4 with ⟨e1, e2⟩ | ⟨e1, c, c1, c2, c3, e2⟩
  · right
    refine ⟨len, len, _, ?_, Nat.le_refl _, skip _ (by
      have := FF_end (t := t) (o := o) (kd := kd) (nm := nm) (du := 0) (sn := sn) (pt := pt) (ka := ka) (na := na) hl e1 (by omega)
      rw [if_neg (fun h => hkd h.1)] at this
      exact this)⟩
    unfold p_CMf_X9_readOrder_130
    rw [ks (n_a (by omega)), po2_s e2, pb_f (be_f (by omega))]
    unfold p_CMf_X9_readOrder_154 p_CMf_X9_readOrder_155
    rw [po2_s must_0]
  · by_cases h59 : c = 59
    · left
      subst h59
      refine ⟨i' + 1, ?_, by omega, by omega, fun res h => skip res (FF_take hl e1 c3 c1 (tk_close hkd ho) h)⟩
      unfold p_CMf_X9_readOrder_130
      rw [ks (n_a (by omega)), po2_s e2, pb_t (Nat.beq_refl _)]
      unfold p_CMf_X9_readOrder_150 p_CMf_X9_readOrder_155
      rw [po2_s (must_1 (by omega))]
    · right
      refine ⟨i', i', _, ?_, a2, skip _ (FF_fail hl e1 c3 c1 (tk_noclose hkd h59))⟩
      unfold p_CMf_X9_readOrder_130
      rw [ks (n_a (by omega)), po2_s e2, pb_f (be_f h59)]
      unfold p_CMf_X9_readOrder_154 p_CMf_X9_readOrder_155
      rw [po2_s must_0]
theorem semi_x (hl : len ≤ 80) (hk : ∀ k, k < len → ∃ b, t k = b + 1 ∧ b < 128) {i o pt2 q : Nat} {la nb : Nat → Nat} (hi : i ≤ len) (ho : o < 27) (hq : q ≤ len) : ∃ i2, p_CMf_X9_readOrder_130 len i q o pt2 t la nb = some (i2, q, o + 1, pt2, la, nb) := by
  obtain ⟨i', a1, a2, a3, a4⟩ := here_ok hl hk hi
  have : ∃ c, P_CMf_X9_here len i t = some (c, i') := by
    rcases a4 with ⟨e1, e2⟩ | ⟨e1, c, c1, c2, c3, e2⟩
    · exact ⟨_, by rw [e2, e1]⟩
    · exact ⟨c, e2⟩
  obtain ⟨c, e⟩ := this
  refine ⟨i', ?_⟩
  unfold p_CMf_X9_readOrder_130
  rw [ks (n_a (by omega)), po2_s e]
  cases Nat.beq c 59 with
  | true =>
    rw [pb_t rfl]
    unfold p_CMf_X9_readOrder_150 p_CMf_X9_readOrder_155
    rw [po2_s (must_x (by omega))]
  | false =>
    rw [pb_f rfl]
    unfold p_CMf_X9_readOrder_154 p_CMf_X9_readOrder_155
    rw [po2_s (must_x (by omega))]
end TZ
