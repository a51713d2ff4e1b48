/-! ===== rows of int[][]: cells that are reached by references that move ===== -/
noncomputable def cf (n : Nat) (f g : Nat → Nat) : Nat → Nat := fun j => Bool.rec (g j) (f j) (Nat.blt j n)
noncomputable def o_copyF (k : KC) : KC := fun ls st h => k_top st fun n st => k_top st fun dp st => k_top st fun d st => k_top st fun sp st => k_top st fun s st => k_int n fun n => k_int dp fun dp => k_ref d fun d => k_int sp fun sp => k_ref s fun s => k_pl d fun d => k_pl s fun s => Nat.rec (Nat.rec (Sum.rec (fun _ => none) (fun q => Sum.rec (fun _ => none) (fun q => Sum.rec (fun x => Sum.rec (fun _ => none) (fun q => Sum.rec (fun _ => none) (fun q => Sum.rec (fun y => Bool.rec none (Bool.rec none (k ls st (kset h d (k_af y.1 (cf n x.2 y.2)))) (Nat.ble n y.1)) (Nat.ble n x.1)) (fun _ => none) q) q) (k_cell h d)) (fun _ => none) q) q) (k_cell h s)) (fun _ _ => none) sp) (fun _ _ => none) dp
section KO10
variable {l : Launch} {D : va_G} {cI cS cM : ClassId} {own mn : String} {cc : ByteArray} {nL : Nat} {ret : Option FieldType} {R : Room} {lg : Bool} {pc d : Nat} {k t : KC}
theorem s_copyF {fr idx : Nat} (hd : decode cc pc = .ok (.invokestatic idx, 3)) (hlk : Cond.methodLink own idx arraycopyName ∈ k_tbl) (hnat : Cond.native arraycopyName ∈ k_tbl) (hstt : Cond.static arraycopyName ∈ k_tbl) (hini : Cond.initialized "java/lang/System" ∈ k_tbl) (hfr : 1 ≤ fr) (hlo : 8 + (nativeFrameWords "java/lang/System" "arraycopy" 5 + 11) ≤ 30 * fr) (hdd : d ≤ 4) (K : KS l D cI cS cM own mn cc nL ret (k_rm fr 0 0) lg (pc + 3) d k) : KS l D cI cS cM own mn cc nL ret (k_rm fr 0 0) lg pc (d + 5) (o_copyF k) := by
  intro kls kst kh rv kh' hl hk
  obtain ⟨w, r, rfl, hk1⟩ := k_top_some hk
  obtain ⟨w2, r, rfl, hk2⟩ := k_top_some hk1
  obtain ⟨w3, r, rfl, hk3⟩ := k_top_some hk2
  obtain ⟨w4, r, rfl, hk4⟩ := k_top_some hk3
  obtain ⟨w5, r, rfl, hk5⟩ := k_top_some hk4
  obtain ⟨n, rfl, hk6⟩ := k_int_some hk5
  obtain ⟨dp, rfl, hk7⟩ := k_int_some hk6
  obtain ⟨d0, rfl, hk8⟩ := k_ref_some hk7
  obtain ⟨sp, rfl, hk9⟩ := k_int_some hk8
  obtain ⟨s0, rfl, hk10⟩ := k_ref_some hk9
  obtain ⟨dq, rfl, hk11⟩ := k_pl_some hk10
  obtain ⟨sq, rfl, hk12⟩ := k_pl_some hk11
  cases dp with
  | succ => cases hk12
  | zero =>
  cases sp with
  | succ => cases hk12
  | zero =>
  have hr : r.length = d := by simpa using hl
  intro p e s m args below meth c A as0 as es H locs ls st C hA hp hh hP hD hS hL hst
  obtain ⟨v1, st, rfl, ⟨hn, rfl⟩, hst1⟩ := k_vs_cons hst
  obtain ⟨v2, st, rfl, ⟨-, rfl⟩, hst2⟩ := k_vs_cons hst1
  obtain ⟨v3, st, rfl, ⟨da, hda, rfl⟩, hst3⟩ := k_vs_cons hst2
  obtain ⟨v4, st, rfl, ⟨-, rfl⟩, hst4⟩ := k_vs_cons hst3
  obtain ⟨v5, st, rfl, ⟨sa, hsa, rfl⟩, hst5⟩ := k_vs_cons hst4
  obtain ⟨c1, c2, c3, c4, c5, c6, c7, c8, c9, c10⟩ := id C
  obtain ⟨a', ev, h1, h2, h3⟩ := kh_at hh (kh_in hh hda)
  cases hda.symm.trans h1
  obtain ⟨a', ew, g1, g2, g3⟩ := kh_at hh (kh_in hh hsa)
  cases hsa.symm.trans g1
  have hk12 : (Sum.rec (fun _ => none) (fun q => Sum.rec (fun _ => none) (fun q => Sum.rec (fun x => Sum.rec (fun _ => none) (fun q => Sum.rec (fun _ => none) (fun q => Sum.rec (fun y => Bool.rec none (Bool.rec none (k kls r (kset kh dq (k_af y.1 (cf n x.2 y.2)))) (Nat.ble n y.1)) (Nat.ble n x.1)) (fun _ => none) q) q) (k_cell kh dq)) (fun _ => none) q) q) (k_cell kh sq) : KR) = some (rv, kh') := hk12
  generalize k_cell kh sq = cs at hk12 g3
  generalize k_cell kh dq = cd at hk12 h3
  rcases cs with o | x | x | x
  · cases hk12
  · cases hk12
  · rcases cd with o | y | y | y
    · cases hk12
    · cases hk12
    · obtain ⟨hb1, hk13⟩ := kb_some hk12
      obtain ⟨hb2, hk14⟩ := kb_some hk13
      have hn1 : n ≤ x.1 := Nat.le_of_ble_eq_true hb1
      have hn2 : n ≤ y.1 := Nat.le_of_ble_eq_true hb2
      obtain ⟨x2, f, rfl, x4⟩ := g3
      obtain ⟨y2, g, rfl, y4⟩ := h3
      have hcn : (nI n).toNatClampNeg = n := kn_cl (by omega)
      have hc0 : (nI 0).toNatClampNeg = 0 := kn_cl (by omega)
      have hz : ¬ nI 0 < 0 := by rw [kn_lt0 (by omega)]; omega
      have hrl : st.length ≤ 4 := by rw [k_vs_len hst5]; omega
      have hs8 := k_sum4 (st := st)
      refine va_copyi c1 c2 (c3.trans hL.size.symm) c4 (c5 _ hlk) (c5 _ hnat) (c5 _ hstt) (c5 _ hini) c9 hP hD hS sq dq 0 0 (ty := .int) (kz_get hsa g2) (kz_get hda h2) rfl rfl rfl hz hz (by rw [kn_lt0 hn]; omega) (by rw [hcn, hc0]; omega) (by rw [hcn, hc0]; omega) (fun _ _ => rfl) hfr (by show _ ≤ 30 * fr; omega) hd (fun H1 locs1 hP1 hD1 hS1 => ?_)
      rw [hcn, hc0, kz_set hda] at hP1 hD1
      refine K kls _ _ rv kh' hr hk14 p e s m args below meth c A as0 as _ H1 locs1 ls _ C hA hp (kh_set hh ?_) hP1 hD1 hS1 hL hst5
      refine ⟨y2, _, rfl, fun j z hj0 hj => ?_⟩
      have hj : (Bool.rec (y.2 j) (x.2 j) (Nat.blt j n) : Nat) = z + 1 := hj
      by_cases hjn : j < n
      · rw [kb_t (by rw [Nat.blt_eq]; exact hjn)] at hj
        obtain ⟨q1, q2⟩ := x4 j z (by omega) hj
        exact ⟨q1, by rw [pk_cpy_in (by omega) (by omega)]; simpa using q2⟩
      · rw [kb_f (Bool.eq_false_iff.mpr fun z => hjn (by rw [Nat.blt_eq] at z; exact z))] at hj
        obtain ⟨q1, q2⟩ := y4 j z hj0 hj
        exact ⟨q1, by rw [pk_cpy_out (by omega)]; exact q2⟩
    · cases hk12
  · cases hk12
end KO10
/-! the store of rows (8 bits an entry, 8 entries a row) and of the arrays of rows (16 bits), by reference -/
noncomputable def rwf (RS r : Nat) : Nat → Nat := fun j => Bool.rec 0 (pk 8 RS (Nat.add (Nat.mul 8 r) j)) (Nat.blt j 8)
def rfx (RF r : Nat) : List Nat := [pk 16 RF (Nat.add (Nat.mul 8 r) 0), pk 16 RF (Nat.add (Nat.mul 8 r) 1), pk 16 RF (Nat.add (Nat.mul 8 r) 2), pk 16 RF (Nat.add (Nat.mul 8 r) 3), pk 16 RF (Nat.add (Nat.mul 8 r) 4), pk 16 RF (Nat.add (Nat.mul 8 r) 5), pk 16 RF (Nat.add (Nat.mul 8 r) 6)]
noncomputable def dynOf (a8 n8 af nf ar nr RS RF : Nat) : KH := (List.range' a8 n8).map (fun r => k_af 8 (rwf RS r)) ++ ((List.range' af nf).map (fun r => k_rf 1 7 (rfx RF r)) ++ (List.range' ar nr).map (fun r => k_af 7 (rwf RS r)))
noncomputable def inb (a n r : Nat) : Bool := Bool.rec false (Nat.blt r (Nat.add a n)) (Nat.ble a r)
theorem inb_t {a n r : Nat} (h : inb a n r = true) : a ≤ r ∧ r < a + n := by
  unfold inb at h
  cases hb : Nat.ble a r with
  | false => rw [hb] at h; cases h
  | true =>
    rw [hb] at h
    exact ⟨Nat.le_of_ble_eq_true hb, by have h : Nat.blt r (a + n) = true := h; rw [Nat.blt_eq] at h; exact h⟩
theorem mapr_get {α : Type} (f : Nat → α) {a n r : Nat} (h1 : a ≤ r) (h2 : r < a + n) : ((List.range' a n).map f)[r - a]? = some (f r) := by
  rw [List.getElem?_map, List.getElem?_range' (by omega)]
  simp
  congr 1
  omega
theorem mapr_set {α : Type} (f f' : Nat → α) {a n r : Nat} (h1 : a ≤ r) (h2 : r < a + n) (hf : ∀ r', r' ≠ r → f' r' = f r') : ((List.range' a n).map f).set (r - a) (f' r) = (List.range' a n).map f' := by
  apply List.ext_getElem?
  intro i
  by_cases hi : i = r - a
  · subst hi
    rw [List.getElem?_set_self (by simp; omega), mapr_get f' h1 h2]
  · rw [List.getElem?_set_ne (Ne.symm hi), List.getElem?_map, List.getElem?_map]
    by_cases hl : i < n
    · rw [List.getElem?_range' hl]
      simp
      rw [hf _ (by omega)]
    · rw [List.getElem?_eq_none (by simp; omega)]
      rfl
theorem mapr_eq {α : Type} (f f' : Nat → α) {a n : Nat} (hf : ∀ r, a ≤ r → r < a + n → f' r = f r) : (List.range' a n).map f' = (List.range' a n).map f := by
  apply List.map_congr_left
  intro r hr
  rw [List.mem_range'_1] at hr
  exact hf r hr.1 hr.2
theorem rwf_ua {RS r i v : Nat} (hi : i < 8) (hv : v < 256) : rwf (ua 8 RS (Nat.add (Nat.mul 8 r) i) v) r = uf (rwf RS r) i v := by
  funext j
  show (Bool.rec 0 (pk 8 (ua 8 RS (Nat.add (Nat.mul 8 r) i) v) (Nat.add (Nat.mul 8 r) j)) (Nat.blt j 8) : Nat) = (Bool.rec (Bool.rec 0 (pk 8 RS (Nat.add (Nat.mul 8 r) j)) (Nat.blt j 8) : Nat) v (Nat.beq j i) : Nat)
  rw [ua_at (by omega)]
  by_cases hj : j < 8
  · rw [kb_t (show Nat.blt j 8 = true by rw [Nat.blt_eq]; exact hj), kb_t (show Nat.blt j 8 = true by rw [Nat.blt_eq]; exact hj)]
    by_cases hji : j = i
    · subst hji
      rw [kb_t (Nat.beq_refl j), if_pos rfl]
    · rw [kb_f (Bool.eq_false_iff.mpr fun z => hji (Nat.eq_of_beq_eq_true z)), if_neg (by simp only [Nat.add_eq]; omega)]
  · have e : Nat.blt j 8 = false := Bool.eq_false_iff.mpr fun z => hj (by rw [Nat.blt_eq] at z; exact z)
    rw [kb_f e, kb_f e, kb_f (Bool.eq_false_iff.mpr fun z => by have := Nat.eq_of_beq_eq_true z; omega)]
theorem rwf_ne {RS r r' i v : Nat} (hi : i < 8) (hv : v < 256) (hr : r' ≠ r) : rwf (ua 8 RS (Nat.add (Nat.mul 8 r) i) v) r' = rwf RS r' := by
  funext j
  unfold rwf
  rw [ua_at (by omega)]
  by_cases hj : j < 8
  · rw [if_neg (by simp only [Nat.add_eq, Nat.mul_eq]; omega)]
  · have e : Nat.blt j 8 = false := Bool.eq_false_iff.mpr fun z => hj (by rw [Nat.blt_eq] at z; exact z)
    rw [kb_f e, kb_f e]
theorem rfx_at {RF r : Nat} : ∀ i, i < 7 → kget 0 (rfx RF r) i = pk 16 RF (Nat.add (Nat.mul 8 r) i)
  | 0, _ => rfl
  | 1, _ => rfl
  | 2, _ => rfl
  | 3, _ => rfl
  | 4, _ => rfl
  | 5, _ => rfl
  | 6, _ => rfl
  | n + 7, h => by omega
theorem rfx_ua {RF r i v : Nat} (hi : i < 7) (hv : v < 65536) : rfx (ua 16 RF (Nat.add (Nat.mul 8 r) i) v) r = kset (rfx RF r) i v := by
  rw [kset_eq]
  apply List.ext_getElem?
  intro j
  by_cases hj : j < 7
  · have h1 : ∀ RF, (rfx RF r)[j]? = some (pk 16 RF (Nat.add (Nat.mul 8 r) j)) := fun RF => by
      have := rfx_at (RF := RF) (r := r) j hj
      rw [kget_eq, List.getD_eq_getElem?_getD] at this
      rw [List.getElem?_eq_getElem (show j < (rfx RF r).length from hj)] at this ⊢
      exact congrArg some this
    rw [h1, ua_at (by omega)]
    by_cases hji : j = i
    · subst hji
      rw [List.getElem?_set_self (show j < (rfx RF r).length from hj), if_pos rfl]
    · rw [List.getElem?_set_ne (Ne.symm hji), h1, if_neg (by simp only [Nat.add_eq]; omega)]
  · rw [List.getElem?_eq_none (show (rfx _ r).length ≤ j from by show 7 ≤ j; omega), List.getElem?_eq_none (by rw [List.length_set]; show 7 ≤ j; omega)]
theorem rfx_ne {RF r r' i v : Nat} (hi : i < 7) (hv : v < 65536) (hr : r' ≠ r) : rfx (ua 16 RF (Nat.add (Nat.mul 8 r) i) v) r' = rfx RF r' := by
  have h : ∀ j, j < 7 → pk 16 (ua 16 RF (Nat.add (Nat.mul 8 r) i) v) (Nat.add (Nat.mul 8 r') j) = pk 16 RF (Nat.add (Nat.mul 8 r') j) := fun j hj => by
    rw [ua_at (by omega), if_neg (by simp only [Nat.add_eq, Nat.mul_eq]; omega)]
  unfold rfx
  rw [h 0 (by omega), h 1 (by omega), h 2 (by omega), h 3 (by omega), h 4 (by omega), h 5 (by omega), h 6 (by omega)]
theorem dyG {P Q : KH} {f : Nat → KCell} {a n r : Nat} (h1 : a = P.length + 1) (hr : inb a n r = true) : ∃ q, r = Nat.succ q ∧ k_cell (P ++ ((List.range' a n).map f ++ Q)) q = f r ∧ ∀ f' : Nat → KCell, (∀ r', r' ≠ r → f' r' = f r') → kset (P ++ ((List.range' a n).map f ++ Q)) q (f' r) = P ++ ((List.range' a n).map f' ++ Q) := by
  obtain ⟨h2, h3⟩ := inb_t hr
  refine ⟨r - 1, by omega, ?_, fun f' hf => ?_⟩
  · unfold k_cell
    rw [kget_eq, List.getD_eq_getElem?_getD, List.getElem?_append_right (by omega), List.getElem?_append_left (by simp; omega), show r - 1 - P.length = r - a by omega, mapr_get _ h2 h3]
    rfl
  · rw [kset_eq, List.set_append_right _ _ (by omega), List.set_append_left _ _ (by simp; omega), show r - 1 - P.length = r - a by omega, mapr_set f f' h2 h3 hf]
section DY
variable {St : KH} {a8 n8 af nf ar nr RS RF r : Nat}
theorem dy_8 (h1 : a8 = St.length + 1) (h2 : af = a8 + n8) (h3 : ar = af + nf) (hr : inb a8 n8 r = true) : ∃ q, r = Nat.succ q ∧ k_cell (St ++ dynOf a8 n8 af nf ar nr RS RF) q = k_af 8 (rwf RS r) ∧ ∀ RS', (∀ r', r' ≠ r → rwf RS' r' = rwf RS r') → kset (St ++ dynOf a8 n8 af nf ar nr RS RF) q (k_af 8 (rwf RS' r)) = St ++ dynOf a8 n8 af nf ar nr RS' RF := by
  obtain ⟨q, e1, e2, e3⟩ := dyG (P := St) (Q := (List.range' af nf).map (fun r => k_rf 1 7 (rfx RF r)) ++ (List.range' ar nr).map (fun r => k_af 7 (rwf RS r))) (f := fun r => k_af 8 (rwf RS r)) h1 hr
  refine ⟨q, e1, e2, fun RS' hf => ?_⟩
  have e4 := e3 (fun r => k_af 8 (rwf RS' r)) (fun r' hn => by show k_af 8 (rwf RS' r') = _; rw [hf r' hn])
  have hr2 := inb_t hr
  unfold dynOf
  rw [e4, mapr_eq (fun r => k_af 7 (rwf RS r)) (fun r => k_af 7 (rwf RS' r)) (fun r' q1 q2 => by rw [hf r' (by omega)])]
theorem dy_f (h1 : a8 = St.length + 1) (h2 : af = a8 + n8) (h3 : ar = af + nf) (hr : inb af nf r = true) : ∃ q, r = Nat.succ q ∧ k_cell (St ++ dynOf a8 n8 af nf ar nr RS RF) q = k_rf 1 7 (rfx RF r) ∧ ∀ RF', (∀ r', r' ≠ r → rfx RF' r' = rfx RF r') → kset (St ++ dynOf a8 n8 af nf ar nr RS RF) q (k_rf 1 7 (rfx RF' r)) = St ++ dynOf a8 n8 af nf ar nr RS RF' := by
  obtain ⟨q, e1, e2, e3⟩ := dyG (P := St ++ (List.range' a8 n8).map (fun r => k_af 8 (rwf RS r))) (Q := (List.range' ar nr).map (fun r => k_af 7 (rwf RS r))) (f := fun r => k_rf 1 7 (rfx RF r)) (a := af) (n := nf) (by simp; omega) hr
  rw [List.append_assoc] at e2
  refine ⟨q, e1, e2, fun RF' hf => ?_⟩
  have e4 := e3 (fun r => k_rf 1 7 (rfx RF' r)) (fun r' hn => by show k_rf 1 7 (rfx RF' r') = _; rw [hf r' hn])
  rw [List.append_assoc, List.append_assoc] at e4
  exact e4
theorem dy_r (h1 : a8 = St.length + 1) (h2 : af = a8 + n8) (h3 : ar = af + nf) (hr : inb ar nr r = true) : ∃ q, r = Nat.succ q ∧ k_cell (St ++ dynOf a8 n8 af nf ar nr RS RF) q = k_af 7 (rwf RS r) ∧ ∀ RS', (∀ r', r' ≠ r → rwf RS' r' = rwf RS r') → kset (St ++ dynOf a8 n8 af nf ar nr RS RF) q (k_af 7 (rwf RS' r)) = St ++ dynOf a8 n8 af nf ar nr RS' RF := by
  obtain ⟨q, e1, e2, e3⟩ := dyG (P := St ++ ((List.range' a8 n8).map (fun r => k_af 8 (rwf RS r)) ++ (List.range' af nf).map (fun r => k_rf 1 7 (rfx RF r)))) (Q := []) (f := fun r => k_af 7 (rwf RS r)) (a := ar) (n := nr) (by simp; omega) hr
  rw [List.append_nil, List.append_assoc, List.append_assoc] at e2
  refine ⟨q, e1, e2, fun RS' hf => ?_⟩
  have e4 := e3 (fun r => k_af 7 (rwf RS' r)) (fun r' hn => by show k_af 7 (rwf RS' r') = _; rw [hf r' hn])
  have hr2 := inb_t hr
  rw [List.append_nil, List.append_nil, List.append_assoc, List.append_assoc] at e4
  unfold dynOf
  rw [e4, List.append_assoc, List.append_assoc, mapr_eq (fun r => k_af 8 (rwf RS r)) (fun r => k_af 8 (rwf RS' r)) (fun r' q1 q2 => by rw [hf r' (by omega)])]
end DY
/-- the first n entries of row rs over those of row rd -/
noncomputable def cpr (RS rs rd n : Nat) : Nat := Nat.rec RS (fun j acc => ua 8 acc (Nat.add (Nat.mul 8 rd) j) (pk 8 RS (Nat.add (Nat.mul 8 rs) j))) n
theorem cpr_eq {RS rs rd : Nat} : ∀ n, n ≤ 8 → rwf (cpr RS rs rd n) rd = cf n (rwf RS rs) (rwf RS rd) ∧ ∀ r', r' ≠ rd → rwf (cpr RS rs rd n) r' = rwf RS r'
  | 0, _ => ⟨by funext j; rfl, fun _ _ => rfl⟩
  | n + 1, h => by
    obtain ⟨h1, h2⟩ := cpr_eq (RS := RS) (rs := rs) (rd := rd) n (by omega)
    have hb := pk_bd 8 RS (Nat.add (Nat.mul 8 rs) n)
    have e : cpr RS rs rd (n + 1) = ua 8 (cpr RS rs rd n) (Nat.add (Nat.mul 8 rd) n) (pk 8 RS (Nat.add (Nat.mul 8 rs) n)) := rfl
    rw [e]
    refine ⟨?_, fun r' hr => by rw [rwf_ne (by omega) hb hr, h2 r' hr]⟩
    rw [rwf_ua (by omega) hb, h1]
    funext j
    show (Bool.rec (Bool.rec (rwf RS rd j) (rwf RS rs j) (Nat.blt j n) : Nat) (pk 8 RS (Nat.add (Nat.mul 8 rs) n)) (Nat.beq j n) : Nat) = (Bool.rec (rwf RS rd j) (rwf RS rs j) (Nat.blt j (n + 1)) : Nat)
    by_cases hj : j = n
    · subst hj
      rw [kb_t (Nat.beq_refl j), kb_t (show Nat.blt j (j + 1) = true by rw [Nat.blt_eq]; omega)]
      unfold rwf
      rw [kb_t (show Nat.blt j 8 = true by rw [Nat.blt_eq]; omega)]
    · rw [kb_f (Bool.eq_false_iff.mpr fun z => hj (Nat.eq_of_beq_eq_true z))]
      by_cases hlt : j < n
      · rw [kb_t (show Nat.blt j n = true by rw [Nat.blt_eq]; exact hlt), kb_t (show Nat.blt j (n + 1) = true by rw [Nat.blt_eq]; omega)]
      · rw [kb_f (Bool.eq_false_iff.mpr fun z => by rw [Nat.blt_eq] at z; omega), kb_f (Bool.eq_false_iff.mpr fun z => by rw [Nat.blt_eq] at z; omega)]
/-! steps there -/
section DZ
variable {β : Type} {c : β} {S : List KV × KH} {k : KC} {ls st : List KV} {St : KH} {a8 n8 af nf ar nr RS RF r i n : Nat}
theorem rwf_at {RS r i : Nat} (h : i < 8) : rwf RS r i = pk 8 RS (Nat.add (Nat.mul 8 r) i) := by
  unfold rwf
  rw [kb_t (show Nat.blt i 8 = true by rw [Nat.blt_eq]; exact h)]
theorem blt_t {a b : Nat} (h : Nat.blt a b = true) : a < b := by rw [Nat.blt_eq] at h; exact h
theorem pq_t {b : Bool} {p : Option β} (h : b = true) : pq b p = p := by rw [h]; rfl
theorem e_lr {p : Nat → Option β} (h1 : a8 = St.length + 1) (h2 : af = a8 + n8) (h3 : ar = af + nf) (h : pq (inb ar nr r) (pq (Nat.blt i 7) (pn (pk 8 RS (Nat.add (Nat.mul 8 r) i)) p)) = some c) (hk : ∀ x, p x = some c → k ls (k_i x :: st) (St ++ dynOf a8 n8 af nf ar nr RS RF) = some S) : o_iald k ls (k_i i :: k_r r :: st) (St ++ dynOf a8 n8 af nf ar nr RS RF) = some S := by
  obtain ⟨hr, h⟩ := pq_some h
  obtain ⟨hi, h⟩ := pq_some h
  obtain ⟨q, rfl, hc, -⟩ := dy_r (St := St) (RS := RS) (RF := RF) h1 h2 h3 hr
  refine e_iald (q := q) (p := p) ?_ hc hk
  rw [pq_t hi, rwf_at (Nat.lt_succ_of_lt (blt_t hi))]
  exact h
theorem e_l8 {p : Nat → Option β} (h1 : a8 = St.length + 1) (h2 : af = a8 + n8) (h3 : ar = af + nf) (h : pq (inb a8 n8 r) (pq (Nat.blt i 8) (pn (pk 8 RS (Nat.add (Nat.mul 8 r) i)) p)) = some c) (hk : ∀ x, p x = some c → k ls (k_i x :: st) (St ++ dynOf a8 n8 af nf ar nr RS RF) = some S) : o_iald k ls (k_i i :: k_r r :: st) (St ++ dynOf a8 n8 af nf ar nr RS RF) = some S := by
  obtain ⟨hr, h⟩ := pq_some h
  obtain ⟨hi, h⟩ := pq_some h
  obtain ⟨q, rfl, hc, -⟩ := dy_8 (St := St) (nr := nr) (RS := RS) (RF := RF) h1 h2 h3 hr
  refine e_iald (q := q) (p := p) ?_ hc hk
  rw [pq_t hi, rwf_at (blt_t hi)]
  exact h
theorem e_sr {p : Nat → Option β} (h1 : a8 = St.length + 1) (h2 : af = a8 + n8) (h3 : ar = af + nf) (h : pq (inb ar nr r) (pq (Nat.blt i 7) (pq (Nat.blt (Nat.succ n) 256) (kseq (ua 8 RS (Nat.add (Nat.mul 8 r) i) (Nat.succ n)) p))) = some c) (hk : ∀ Y, p Y = some c → k ls st (St ++ dynOf a8 n8 af nf ar nr Y RF) = some S) : o_iast k ls (k_i n :: k_i i :: k_r r :: st) (St ++ dynOf a8 n8 af nf ar nr RS RF) = some S := by
  obtain ⟨hr, h⟩ := pq_some h
  obtain ⟨hi, h⟩ := pq_some h
  obtain ⟨hn, h⟩ := pq_some h
  have hi8 : i < 8 := Nat.lt_succ_of_lt (blt_t hi)
  have hn8 : Nat.succ n < 256 := blt_t hn
  obtain ⟨q, rfl, hc, hs⟩ := dy_r (St := St) (RS := RS) (RF := RF) h1 h2 h3 hr
  refine e_iastF (q := q) (p := kseq (ua 8 RS (Nat.add (Nat.mul 8 (Nat.succ q)) i) (Nat.succ n)) p) (hh' := St ++ dynOf a8 n8 af nf ar nr (ua 8 RS (Nat.add (Nat.mul 8 (Nat.succ q)) i) (Nat.succ n)) RF) ?_ hc ?_ (fun h => hk _ (ps_some h))
  · rw [pq_t hi]
    exact h
  · rw [← rwf_ua hi8 hn8]
    exact hs _ (fun r' hr' => rwf_ne hi8 hn8 hr')
theorem e_s8 {p : Nat → Option β} (h1 : a8 = St.length + 1) (h2 : af = a8 + n8) (h3 : ar = af + nf) (h : pq (inb a8 n8 r) (pq (Nat.blt i 8) (pq (Nat.blt (Nat.succ n) 256) (kseq (ua 8 RS (Nat.add (Nat.mul 8 r) i) (Nat.succ n)) p))) = some c) (hk : ∀ Y, p Y = some c → k ls st (St ++ dynOf a8 n8 af nf ar nr Y RF) = some S) : o_iast k ls (k_i n :: k_i i :: k_r r :: st) (St ++ dynOf a8 n8 af nf ar nr RS RF) = some S := by
  obtain ⟨hr, h⟩ := pq_some h
  obtain ⟨hi, h⟩ := pq_some h
  obtain ⟨hn, h⟩ := pq_some h
  have hi8 : i < 8 := blt_t hi
  have hn8 : Nat.succ n < 256 := blt_t hn
  obtain ⟨q, rfl, hc, hs⟩ := dy_8 (St := St) (nr := nr) (RS := RS) (RF := RF) h1 h2 h3 hr
  refine e_iastF (q := q) (p := kseq (ua 8 RS (Nat.add (Nat.mul 8 (Nat.succ q)) i) (Nat.succ n)) p) (hh' := St ++ dynOf a8 n8 af nf ar nr (ua 8 RS (Nat.add (Nat.mul 8 (Nat.succ q)) i) (Nat.succ n)) RF) ?_ hc ?_ (fun h => hk _ (ps_some h))
  · rw [pq_t hi]
    exact h
  · rw [← rwf_ua hi8 hn8]
    exact hs _ (fun r' hr' => rwf_ne hi8 hn8 hr')
theorem e_lf {p : Nat → Option β} (h1 : a8 = St.length + 1) (h2 : af = a8 + n8) (h3 : ar = af + nf) (h : pq (inb af nf r) (pq (Nat.blt i 7) (pn (pk 16 RF (Nat.add (Nat.mul 8 r) i)) p)) = some c) (hk : ∀ x, p x = some c → k ls (k_r x :: st) (St ++ dynOf a8 n8 af nf ar nr RS RF) = some S) : o_aald k ls (k_i i :: k_r r :: st) (St ++ dynOf a8 n8 af nf ar nr RS RF) = some S := by
  obtain ⟨hr, h⟩ := pq_some h
  obtain ⟨hi, h⟩ := pq_some h
  obtain ⟨q, rfl, hc, -⟩ := dy_f (St := St) (nr := nr) (RS := RS) (RF := RF) h1 h2 h3 hr
  show Sum.rec (fun _ => none) (fun u => Sum.rec (fun _ => none) (fun u => Sum.rec (fun _ => none) (fun x => k_kn (kget 0 x.2.2 i) fun n => k ls (k_r n :: st) (St ++ dynOf a8 n8 af nf ar nr RS RF)) u) u) (k_cell (St ++ dynOf a8 n8 af nf ar nr RS RF) q) = some S
  rw [hc]
  show k_kn (kget 0 (rfx RF (Nat.succ q)) i) (fun n => k ls (k_r n :: st) (St ++ dynOf a8 n8 af nf ar nr RS RF)) = some S
  rw [rfx_at i (blt_t hi)]
  exact tb_n (k := fun n => k ls (k_r n :: st) (St ++ dynOf a8 n8 af nf ar nr RS RF)) h hk
theorem e_sf {w : Nat} {p : Nat → Option β} (h1 : a8 = St.length + 1) (h2 : af = a8 + n8) (h3 : ar = af + nf) (h : pq (inb ar nr w) (pq (inb af nf r) (pq (Nat.blt i 7) (pq (Nat.blt (Nat.succ w) 65536) (kseq (ua 16 RF (Nat.add (Nat.mul 8 r) i) (Nat.succ w)) p)))) = some c) (hk : ∀ Y, p Y = some c → k ls st (St ++ dynOf a8 n8 af nf ar nr RS Y) = some S) : o_aast 5 k ls (k_r w :: k_i i :: k_r r :: st) (St ++ dynOf a8 n8 af nf ar nr RS RF) = some S := by
  obtain ⟨hw, h⟩ := pq_some h
  obtain ⟨hr, h⟩ := pq_some h
  obtain ⟨hi, h⟩ := pq_some h
  obtain ⟨hn, h⟩ := pq_some h
  have hi7 : i < 7 := blt_t hi
  have hn8 : Nat.succ w < 65536 := blt_t hn
  obtain ⟨q, rfl, hc, hs⟩ := dy_f (St := St) (nr := nr) (RS := RS) (RF := RF) h1 h2 h3 hr
  obtain ⟨wp, rfl, hcw, -⟩ := dy_r (St := St) (RS := RS) (RF := RF) h1 h2 h3 hw
  show Sum.rec (fun _ => none) (fun u => Sum.rec (fun _ => none) (fun u => Sum.rec (fun _ => none) (fun x => k_fits x.1 5 (k_cell (St ++ dynOf a8 n8 af nf ar nr RS RF) wp) (Bool.rec none (k ls st (kset (St ++ dynOf a8 n8 af nf ar nr RS RF) q (k_rf x.1 x.2.1 (kset x.2.2 i (Nat.succ (Nat.succ wp)))))) (Nat.blt i x.2.1))) u) u) (k_cell (St ++ dynOf a8 n8 af nf ar nr RS RF) q) = some S
  rw [hc, hcw]
  show (Bool.rec none (k ls st (kset (St ++ dynOf a8 n8 af nf ar nr RS RF) q (k_rf 1 7 (kset (rfx RF (Nat.succ q)) i (Nat.succ (Nat.succ wp)))))) (Nat.blt i 7) : KR) = some S
  rw [hi, ← rfx_ua hi7 hn8, hs _ (fun r' hr' => rfx_ne hi7 hn8 hr')]
  exact hk _ (ps_some h)
theorem e_al7 {p : Option β} (h1 : a8 = St.length + 1) (h2 : af = a8 + n8) (h3 : ar = af + nf) (h : pq (inb ar nr r) p = some c) (hk : p = some c → k ls (k_i 7 :: st) (St ++ dynOf a8 n8 af nf ar nr RS RF) = some S) : o_alen k ls (k_r r :: st) (St ++ dynOf a8 n8 af nf ar nr RS RF) = some S := by
  obtain ⟨hr, h0⟩ := pq_some h
  obtain ⟨q, rfl, hc, -⟩ := dy_r (St := St) (RS := RS) (RF := RF) h1 h2 h3 hr
  exact e_alen (q := q) hc (hk h0)
theorem e_cpF {s d : Nat} {p : Nat → Option β} (h1 : a8 = St.length + 1) (h2 : af = a8 + n8) (h3 : ar = af + nf) (h : pq (inb ar nr s) (pq (inb ar nr d) (pq (Nat.ble n 7) (kseq (cpr RS s d n) p))) = some c) (hk : ∀ Y, p Y = some c → k ls st (St ++ dynOf a8 n8 af nf ar nr Y RF) = some S) : o_copyF k ls (k_i n :: k_i 0 :: k_r d :: k_i 0 :: k_r s :: st) (St ++ dynOf a8 n8 af nf ar nr RS RF) = some S := by
  obtain ⟨hs, h⟩ := pq_some h
  obtain ⟨hd, h⟩ := pq_some h
  obtain ⟨hn, h⟩ := pq_some h
  have hn7 : n ≤ 7 := Nat.le_of_ble_eq_true hn
  obtain ⟨sq, rfl, hcs, -⟩ := dy_r (St := St) (RS := RS) (RF := RF) h1 h2 h3 hs
  obtain ⟨dq, rfl, hcd, hset⟩ := dy_r (St := St) (RS := RS) (RF := RF) h1 h2 h3 hd
  obtain ⟨e1, e2⟩ := cpr_eq (RS := RS) (rs := Nat.succ sq) (rd := Nat.succ dq) n (by omega)
  show (Sum.rec (fun _ => none) (fun q => Sum.rec (fun _ => none) (fun q => Sum.rec (fun x => Sum.rec (fun _ => none) (fun q => Sum.rec (fun _ => none) (fun q => Sum.rec (fun y => Bool.rec none (Bool.rec none (k ls st (kset (St ++ dynOf a8 n8 af nf ar nr RS RF) dq (k_af y.1 (cf n x.2 y.2)))) (Nat.ble n y.1)) (Nat.ble n x.1)) (fun _ => none) q) q) (k_cell (St ++ dynOf a8 n8 af nf ar nr RS RF) dq)) (fun _ => none) q) q) (k_cell (St ++ dynOf a8 n8 af nf ar nr RS RF) sq) : KR) = some S
  rw [hcs, hcd]
  show (Bool.rec none (Bool.rec none (k ls st (kset (St ++ dynOf a8 n8 af nf ar nr RS RF) dq (k_af 7 (cf n (rwf RS (Nat.succ sq)) (rwf RS (Nat.succ dq)))))) (Nat.ble n 7)) (Nat.ble n 7) : KR) = some S
  rw [hn, ← e1, hset _ e2]
  exact hk _ (ps_some h)
end DZ
/-! a number field that may be stale: 0, or one more than its value -/
noncomputable def ov (o b : Nat) : Nat := Nat.rec b (fun n _ => n) o
theorem e_geto {β : Type} {r : β} {S : List KV × KH} {k : KC} {ls st fs : List KV} {hh : KH} {o b c s q : Nat} {p : Nat → Option β} (h : pn o p = some r) (hc : k_cell hh q = k_ob c fs) (hf : kget k_u fs s = k_i (ov o b)) (hk : ∀ x, p x = some r → k ls (k_i x :: st) hh = some S) : o_get c s k ls (k_r (Nat.succ q) :: st) hh = some S := by
  cases o with
  | zero => cases h
  | succ x => exact e_get hc hf (hk x h)
theorem e_putr {k : KC} {ls st fs : List KV} {hh hh' : KH} {R : KR} {c s q n : Nat} (hc : k_cell hh q = k_ob c fs) (he : kset hh q (k_ob c (kset fs s (k_r n))) = hh') (hk : k ls st hh' = R) : o_putr c s k ls (k_r n :: k_r (Nat.succ q) :: st) hh = R := k_fld_e (k := fun h => k ls st h) hc he hk
theorem e_look {β : Type} {r : β} {S : List KV × KH} {s t d : KC} {ls st : List KV} {hh : KH} {a b n : Nat} {p q u : Option β} (h : pb (Nat.beq n a) p (pb (Nat.beq n b) q u) = some r) (h1 : p = some r → s ls st hh = some S) (h2 : q = some r → t ls st hh = some S) (h3 : u = some r → d ls st hh = some S) : o_look a b s t d ls (k_i n :: st) hh = some S := by
  show (Bool.rec (Bool.rec (d ls st hh) (t ls st hh) (Nat.beq n b)) (s ls st hh) (Nat.beq n a) : KR) = some S
  unfold pb at h
  cases h4 : Nat.beq n a with
  | true => rw [h4] at h; exact h1 h
  | false =>
    rw [h4] at h
    cases h5 : Nat.beq n b with
    | true => rw [h5] at h; exact h2 h
    | false => rw [h5] at h; exact h3 h
/-! an array of which P knows some entries, the others standing as they are -/
noncomputable def mx (w X : Nat) (g : Nat → Nat) : Nat → Nat := fun i => Nat.rec (g i) (fun n _ => Nat.succ n) (pk w X i)
theorem e_ialdM {β : Type} {r : β} {S : List KV × KH} {k : KC} {ls st : List KV} {hh : KH} {q i m w X : Nat} {g : Nat → Nat} {p : Nat → Option β} (h : pq (Nat.blt i m) (pn (pk w X i) p) = some r) (hc : k_cell hh q = k_af m (mx w X g)) (hk : ∀ x, p x = some r → k ls (k_i x :: st) hh = some S) : o_iald k ls (k_i i :: k_r (Nat.succ q) :: st) hh = some S := by
  refine e_iald (q := q) (p := p) ?_ hc hk
  obtain ⟨h1, h2⟩ := pq_some h
  rw [pq_t h1]
  unfold mx
  cases hx : pk w X i with
  | zero => rw [hx] at h2; cases h2
  | succ n => rw [hx] at h2; exact h2
/-! how often was refused: at first b, n, f; the code 1, 2, 3: one of them once more -/
noncomputable def rcl (c b n f : Nat) : List Nat := Nat.rec [b + 1, n + 1, f + 1] (fun c _ => Nat.rec [n_add b 1 + 1, n + 1, f + 1] (fun c _ => Nat.rec [b + 1, n_add n 1 + 1, f + 1] (fun _ _ => [b + 1, n + 1, n_add f 1 + 1]) c) c) c
noncomputable def rcf (c b n f : Nat) : Nat → Nat := fun j => kget 0 (rcl c b n f) j
