/-! ===== what build, learnSorts, learnRows, lay leave: the data of the set ===== -/
theorem po5_s {α1 α2 α3 α4 α5 β : Type} {x : Option (α1 × α2 × α3 × α4 × α5)} {a1 : α1} {a2 : α2} {a3 : α3} {a4 : α4} {a5 : α5} {k : α1 → α2 → α3 → α4 → α5 → Option β} (h : x = some (a1, a2, a3, a4, a5)) : po5 x k = k a1 a2 a3 a4 a5 := by rw [h]; rfl
theorem po7_s {α1 α2 α3 α4 α5 α6 α7 β : Type} {x : Option (α1 × α2 × α3 × α4 × α5 × α6 × α7)} {a1 : α1} {a2 : α2} {a3 : α3} {a4 : α4} {a5 : α5} {a6 : α6} {a7 : α7} {k : α1 → α2 → α3 → α4 → α5 → α6 → α7 → Option β} (h : x = some (a1, a2, a3, a4, a5, a6, a7)) : po7 x k = k a1 a2 a3 a4 a5 a6 a7 := by rw [h]; rfl
theorem po8_s {α1 α2 α3 α4 α5 α6 α7 α8 β : Type} {x : Option (α1 × α2 × α3 × α4 × α5 × α6 × α7 × α8)} {a1 : α1} {a2 : α2} {a3 : α3} {a4 : α4} {a5 : α5} {a6 : α6} {a7 : α7} {a8 : α8} {k : α1 → α2 → α3 → α4 → α5 → α6 → α7 → α8 → Option β} (h : x = some (a1, a2, a3, a4, a5, a6, a7, a8)) : po8 x k = k a1 a2 a3 a4 a5 a6 a7 a8 := by rw [h]; rfl
theorem po14_s {α1 α2 α3 α4 α5 α6 α7 α8 α9 α10 α11 α12 α13 α14 β : Type} {x : Option (α1 × α2 × α3 × α4 × α5 × α6 × α7 × α8 × α9 × α10 × α11 × α12 × α13 × α14)} {a1 : α1} {a2 : α2} {a3 : α3} {a4 : α4} {a5 : α5} {a6 : α6} {a7 : α7} {a8 : α8} {a9 : α9} {a10 : α10} {a11 : α11} {a12 : α12} {a13 : α13} {a14 : α14} {k : α1 → α2 → α3 → α4 → α5 → α6 → α7 → α8 → α9 → α10 → α11 → α12 → α13 → α14 → Option β} (h : x = some (a1, a2, a3, a4, a5, a6, a7, a8, a9, a10, a11, a12, a13, a14)) : po14 x k = k a1 a2 a3 a4 a5 a6 a7 a8 a9 a10 a11 a12 a13 a14 := by rw [h]; rfl
theorem po24_s {α1 α2 α3 α4 α5 α6 α7 α8 α9 α10 α11 α12 α13 α14 α15 α16 α17 α18 α19 α20 α21 α22 α23 α24 β : Type} {x : Option (α1 × α2 × α3 × α4 × α5 × α6 × α7 × α8 × α9 × α10 × α11 × α12 × α13 × α14 × α15 × α16 × α17 × α18 × α19 × α20 × α21 × α22 × α23 × α24)} {a1 : α1} {a2 : α2} {a3 : α3} {a4 : α4} {a5 : α5} {a6 : α6} {a7 : α7} {a8 : α8} {a9 : α9} {a10 : α10} {a11 : α11} {a12 : α12} {a13 : α13} {a14 : α14} {a15 : α15} {a16 : α16} {a17 : α17} {a18 : α18} {a19 : α19} {a20 : α20} {a21 : α21} {a22 : α22} {a23 : α23} {a24 : α24} {k : α1 → α2 → α3 → α4 → α5 → α6 → α7 → α8 → α9 → α10 → α11 → α12 → α13 → α14 → α15 → α16 → α17 → α18 → α19 → α20 → α21 → α22 → α23 → α24 → Option β} (h : x = some (a1, a2, a3, a4, a5, a6, a7, a8, a9, a10, a11, a12, a13, a14, a15, a16, a17, a18, a19, a20, a21, a22, a23, a24)) : po24 x k = k a1 a2 a3 a4 a5 a6 a7 a8 a9 a10 a11 a12 a13 a14 a15 a16 a17 a18 a19 a20 a21 a22 a23 a24 := by rw [h]; rfl
theorem spellp_loop : ∀ (k f A s c : Nat), k ≤ 5 → k < f → s + k ≤ 15 → c < 2147483648 → ∃ A', pj_CX_X0_spell_23_27 f A s c (dnk k) = some A' ∧ (∀ q, q < k → pk 8 A' (s + q) = c / 10 ^ (k - 1 - q) % 10 + 1) ∧ ∀ j, j < s ∨ s + k ≤ j → pk 8 A' j = pk 8 A j
  | 0, f + 1, A, s, c, _, _, _, _ => by
    refine ⟨A, ?_, fun q hq => by omega, fun _ _ => rfl⟩
    show p_CX_X0_spell_23_27_11 _ A s c 4294967295 = some A
    unfold p_CX_X0_spell_23_27_11
    rw [pglt_p (by omega)]
    rfl
  | k + 1, f + 1, A, s, c, hk, hf, hs, hc => by
    have hd : c / 10 < 2147483648 := Nat.lt_of_le_of_lt (Nat.div_le_self c 10) hc
    have hm : c % 10 < 10 := Nat.mod_lt _ (by omega)
    have hv : Nat.succ (c % 10) < 2 ^ 8 := by
      show c % 10 + 1 < 256
      omega
    obtain ⟨A', h1, h2, h3⟩ := spellp_loop k f (ua 8 A (s + k) (Nat.succ (c % 10))) s (c / 10) (by omega) (by omega) (by omega) hd
    refine ⟨A', ?_, fun q hq => ?_, fun j hj => ?_⟩
    · show p_CX_X0_spell_23_27_11 (pj_CX_X0_spell_23_27 f) A s c k = some A'
      unfold p_CX_X0_spell_23_27_11
      rw [pglt_n (by omega)]
      unfold p_CX_X0_spell_23_27_16
      rw [ks (na (a := s) (b := k) (by omega)), ks (nrm hc), pq_t (bl_t (by omega)), pq_t (bl_t hv), ks (m := ua 8 A (s + k) (Nat.succ (c % 10))) rfl, ks (ndv hc), kseq_eq]
      have e : Nat.mod (Nat.add k 4294967295) 4294967296 = dnk k := by
        unfold dnk
        split
        · next h => subst h; rfl
        · exact ndec (by omega) (by omega)
      rw [e]
      exact h1
    · by_cases hqk : q < k
      · rw [h2 q hqk, Nat.div_div_eq_div_mul, show 10 * 10 ^ (k - 1 - q) = 10 ^ (k + 1 - 1 - q) by
          rw [← Nat.pow_succ']
          congr 1
          omega]
      · have e : q = k := by omega
        subst e
        rw [h3 _ (Or.inr (Nat.le_refl _)), ua_at hv, if_pos rfl]
        simp
    · rw [h3 j (by omega), ua_at hv, if_neg (by omega)]
theorem spellp_ok {N : Nat} (h1 : 1 ≤ N) (h5 : N ≤ 5) (A : Nat) {s c : Nat} (hs : s + N ≤ 15) (hc : c < 2147483648) : ∃ A', P_CX_X0_spell_23_27 N A c s = some A' ∧ (∀ q, q < N → pk 8 A' (s + q) = dgc N c q + 1) ∧ ∀ j, j < s ∨ s + N ≤ j → pk 8 A' j = pk 8 A j := by
  obtain ⟨A', e1, e2, e3⟩ := spellp_loop N 301 A s c h5 (by omega) hs hc
  refine ⟨A', ?_, e2, e3⟩
  unfold P_CX_X0_spell_23_27 p_CX_X0_spell_23_27_0
  rw [ks (nsb h1 (by omega))]
  have e : dnk N = N - 1 := by unfold dnk; rw [if_neg (by omega)]
  rw [e] at e1
  exact e1
/-- a move among the set's: its figures are points, it is made of them -/
theorem gok_dig {N : Nat} {l : List Nat} {g : Nat} (hg : gok N l g) {h c : Nat} (hc : l[h]? = some c) : (∀ p, p < N → dgc N c p < N) ∧ cfold (dgc N c) N = c ∧ c < 100000 := by
  obtain ⟨h1, h5, hl, hg1, hN, a, ha, -⟩ := hg
  obtain ⟨q1, q2⟩ := ha h c hc
  obtain ⟨⟨-, -, -, -, d1, -, -, -, -, d2, -⟩, -, -⟩ := row_all (row_is hg1)
  have d1 := d1 (a h) q1
  have d2 := d2 (a h) q1
  have e : rdig (rw_ g) (a h) = dgc N c := by
    funext p
    show dgc (rN (rw_ g)) (rcode (rw_ g) (a h)) p = _
    rw [hN, q2]
  rw [e, hN] at d1 d2
  rw [q2] at d2
  refine ⟨d1, d2.symm, ?_⟩
  rw [d2]
  have h10 := cfold_lt (d := dgc N c) N (fun p hp => Nat.lt_of_lt_of_le (d1 p hp) (by omega))
  exact Nat.lt_of_lt_of_le h10 (Nat.le_trans (Nat.pow_le_pow_right (by omega) h5) (by decide))
theorem build_loop {N : Nat} {l : List Nat} {g : Nat} (hg : gok N l g) {nowc : Nat → Nat} (hn : ∀ k c, l[k]? = some c → nowc k = c + 1) : ∀ (w f k A : Nat), k + w = l.length → w < f → (∀ h p c, h < k → l[h]? = some c → p < N → pk 8 A (5 * h + p) = dgc N c p + 1) → ∃ j A', (∀ h p c, l[h]? = some c → p < N → pk 8 A' (5 * h + p) = dgc N c p + 1) ∧ pj_CX_X0_build_23_1 f l.length nowc N 0 0 0 A 0 0 0 k = p_CX_X0_build_23_1_41 j l.length nowc N 0 0 0 A' 0 0 0
  | 0, f + 1, k, A, hk, _, hA => by
    refine ⟨pj_CX_X0_build_23_1 f, A, fun h p c hc hp => hA h p c (by have := (List.getElem?_eq_some_iff.mp hc).1; omega) hc hp, ?_⟩
    show p_CX_X0_build_23_1_10 (pj_CX_X0_build_23_1 f) l.length nowc N 0 0 0 A 0 0 0 k = _
    unfold p_CX_X0_build_23_1_10
    have hl := hg.2.2.1
    rw [pb_f (slt_f (by omega) (by omega))]
  | w + 1, f + 1, k, A, hk, hf, hA => by
    have hl := hg.2.2.1
    have h1 := hg.1
    have h5 := hg.2.1
    have hkl : k < l.length := by omega
    have hc : l[k]? = some l[k] := List.getElem?_eq_getElem hkl
    obtain ⟨hd1, hd2, hd3⟩ := gok_dig hg hc
    obtain ⟨A1, e1, e2, e3⟩ := spellp_ok h1 h5 A (s := k * 5) (c := l[k]) (by omega) (by omega)
    obtain ⟨j, A', r1, r2⟩ := build_loop hg hn w f (k + 1) A1 (by omega) (by omega) (fun h p c hh hc' hp => by
      by_cases e : h = k
      · subst e
        cases hc.symm.trans hc'
        rw [Nat.mul_comm 5 h]
        exact e2 p hp
      · rw [e3 _ (by omega)]
        exact hA h p c (by omega) hc' hp)
    refine ⟨j, A', r1, ?_⟩
    show p_CX_X0_build_23_1_10 (pj_CX_X0_build_23_1 f) l.length nowc N 0 0 0 A 0 0 0 k = _
    unfold p_CX_X0_build_23_1_10
    rw [pb_t (slt_t (by omega) (by omega))]
    unfold p_CX_X0_build_23_1_18
    rw [pq_t (bl_t (by omega)), pn_s (hn k _ hc), ks (nm (a := k) (b := 5) (by omega)), po1_s e1, ks (ninc (a := k) (c := 1) (by omega))]
    exact r2
def rg (g i : Nat) : Nat := (rw_ g).getD i 0
def tg (g i : Nat) : Nat := (TBS.getD (rg g 24) []).getD i 0
theorem hMake_ok {N : Nat} {l : List Nat} (hg : gok N l (gL N l)) {A : Nat} (hA : ∀ h p c, l[h]? = some c → p < N → pk 8 A (5 * h + p) = dgc N c p + 1) : hMake N A l.length = some (rg (gL N l) 1, 0, 0, cakN N (rg (gL N l) 2) (rg (gL N l) 1), 0) := by
  have e : lOf N (pk 8 A) l.length = l := by
    apply List.ext_getElem?
    intro h
    unfold lOf
    rw [List.getElem?_map]
    by_cases hh : h < l.length
    · rw [List.getElem?_range hh, List.getElem?_eq_getElem hh]
      have hc : l[h]? = some l[h] := List.getElem?_eq_getElem hh
      obtain ⟨-, hd2, -⟩ := gok_dig hg hc
      show some (cfold (fun p => Nat.pred (pk 8 A (5 * h + p))) N) = some l[h]
      rw [cfold_eq (d' := dgc N l[h]) N (fun p hp => by rw [hA h p _ hc hp]; rfl), hd2]
    · rw [List.getElem?_eq_none (by simpa using hh), List.getElem?_eq_none (by omega)]
      rfl
  unfold hMake
  rw [dif_pos, e]
  · rfl
  · rw [e]
    refine ⟨_, hg, fun h p hh hp => ?_⟩
    have hc : l[h]? = some l[h] := List.getElem?_eq_getElem hh
    exact ⟨_, hA h p _ hc hp, (gok_dig hg hc).1 p hp⟩

/-- the checked equations of a set -/
theorem dataA {g : Nat} (hg : g < 195) : P_CX_X0_putInOrder_23 (rg g 1) (rg g 0) 0 0 (cakN (rg g 0) (rg g 2) (rg g 1)) 0 = some ((rg g 2), (rg g 3), (rg g 4)) ∧ P_CX_X2_choose_39 0 0 (rg g 1) (rg g 10) = some ((rg g 16), (rg g 17), (rg g 18), (rg g 19)) ∧ P_CM_X9_findTurns (rg g 1) (rg g 20) 0 0 = some ((rg g 5), (rg g 21)) ∧ P_CM_X9_findSorts (rg g 1) (rg g 20) 0 (rg g 5) 0 0 = some ((rg g 6), (rg g 22), (rg g 8), (rg g 9)) ∧ P_CM_X9_findPrime (rg g 1) (rg g 6) (rg g 21) (rg g 9) = some ((rg g 10), (rg g 16), (rg g 17)) ∧ P_CM_X9_findTimes (rg g 1) (rg g 20) (rg g 22) (rg g 9) 0 = some (rg g 23) ∧ ((rg g 6) = (tg g 0) ∧ (rg g 1) = (tg g 1) ∧ (rg g 8) = (tg g 2) ∧ (rg g 12) = (tg g 3) ∧ (rg g 14) = (tg g 4) ∧ (rg g 16) = (tg g 5) ∧ (rg g 18) = (tg g 6) ∧ (rg g 23) = (tg g 7)) ∧ P_CM_X9_findRows (rg g 1) (rg g 6) (rg g 16) (rg g 22) (rg g 5) (rg g 8) (rg g 9) (tg g 25) 0 0 0 = some ((rg g 25), (rg g 26), (rg g 27)) := by
  have h := isS (allA g hg)
  unfold chkA at h
  iterate 28 replace h := ps_some h
  simp only [kget_eq] at h
  obtain ⟨a_1, b_2, c_3, e1, h⟩ := po3_some h
  obtain ⟨e2, h⟩ := eqs_some h
  obtain ⟨e3, h⟩ := eqs_some h
  obtain ⟨e4, h⟩ := eqs_some h
  obtain ⟨a_4, b_5, e5, h⟩ := po2_some h
  obtain ⟨e6, h⟩ := eqs_some h
  obtain ⟨a_6, m_7, b_8, c_9, d_10, e7, h⟩ := po5_some h
  obtain ⟨-, h⟩ := eqs_some h
  obtain ⟨-, h⟩ := eqs_some h
  obtain ⟨-, h⟩ := eqs_some h
  obtain ⟨-, h⟩ := eqs_some h
  obtain ⟨a_11, b_12, c_13, d_14, e_15, f_16, g_17, e8, h⟩ := po7_some h
  iterate 6 replace h := (eqs_some h).2
  obtain ⟨a_18, b_19, c_20, d_21, e9, h⟩ := po4_some h
  obtain ⟨x1_22, h⟩ := eqs_some h
  obtain ⟨x2_23, h⟩ := eqs_some h
  obtain ⟨x3_24, h⟩ := eqs_some h
  obtain ⟨x4_25, h⟩ := eqs_some h
  obtain ⟨a_26, b_27, e10, h⟩ := po2_some h
  obtain ⟨x1_28, h⟩ := eqs_some h
  obtain ⟨x2_29, h⟩ := eqs_some h
  obtain ⟨a_30, b_31, c_32, d_33, e11, h⟩ := po4_some h
  obtain ⟨x1_34, h⟩ := eqs_some h
  obtain ⟨x2_35, h⟩ := eqs_some h
  obtain ⟨x3_36, h⟩ := eqs_some h
  obtain ⟨x4_37, h⟩ := eqs_some h
  obtain ⟨a_38, b_39, c_40, e12, h⟩ := po3_some h
  obtain ⟨x1_41, h⟩ := eqs_some h
  obtain ⟨x2_42, h⟩ := eqs_some h
  obtain ⟨x3_43, h⟩ := eqs_some h
  obtain ⟨a_44, e13, h⟩ := po1_some h
  obtain ⟨x1_45, h⟩ := eqs_some h
  obtain ⟨t0, h⟩ := eqs_some h
  obtain ⟨t1, h⟩ := eqs_some h
  obtain ⟨t2, h⟩ := eqs_some h
  obtain ⟨t3, h⟩ := eqs_some h
  obtain ⟨t4, h⟩ := eqs_some h
  obtain ⟨t5, h⟩ := eqs_some h
  obtain ⟨t6, h⟩ := eqs_some h
  obtain ⟨t7, h⟩ := eqs_some h
  obtain ⟨a_46, b_47, c_48, e14, h⟩ := po3_some h
  obtain ⟨x1_49, h⟩ := eqs_some h
  obtain ⟨x2_50, h⟩ := eqs_some h
  obtain ⟨x3_51, h⟩ := eqs_some h
  subst e2
  subst e3
  subst e4
  subst x1_22
  subst x2_23
  subst x3_24
  subst x4_25
  subst x1_28
  subst x2_29
  subst x1_34
  subst x2_35
  subst x3_36
  subst x4_37
  subst x1_41
  subst x2_42
  subst x3_43
  subst x1_45
  subst x1_49
  subst x2_50
  subst x3_51
  exact ⟨e1, e9, e10, e11, e12, e13, ⟨t0, t1, t2, t3, t4, t5, t6, t7⟩, e14⟩
theorem dataM {g : Nat} (hg : g < 195) : ∃ m0 m1 m2, P_CX_X0_findInverses_23 (rg g 1) (rg g 0) 0 (rg g 3) (rg g 4) 0 = some ((rg g 5), m0) ∧ P_CX_X6_takeApart_22 (rg g 1) (rg g 0) (rg g 5) (rg g 3) (rg g 4) m0 0 0 0 = some ((rg g 6), m1, (rg g 7), (rg g 8), (rg g 9)) ∧ P_CX_X6_describe_22 (rg g 6) (rg g 1) (rg g 0) (rg g 5) (rg g 3) (rg g 4) m1 (rg g 7) 0 (rg g 9) 0 0 0 0 = some ((rg g 10), m2, (rg g 11), (rg g 12), (rg g 13), (rg g 14), (rg g 15)) := by
  have h := isS (allM g hg)
  unfold chkM at h
  iterate 16 replace h := ps_some h
  simp only [kget_eq] at h
  obtain ⟨a_1, m0_2, e1, h⟩ := po2_some h
  obtain ⟨x1_3, h⟩ := eqs_some h
  obtain ⟨a_4, m1_5, b_6, c_7, d_8, e2, h⟩ := po5_some h
  obtain ⟨x1_9, h⟩ := eqs_some h
  obtain ⟨x2_10, h⟩ := eqs_some h
  obtain ⟨x3_11, h⟩ := eqs_some h
  obtain ⟨x4_12, h⟩ := eqs_some h
  obtain ⟨a_13, m2_14, b_15, c_16, d_17, e_18, f_19, e3, h⟩ := po7_some h
  obtain ⟨x1_20, h⟩ := eqs_some h
  obtain ⟨x2_21, h⟩ := eqs_some h
  obtain ⟨x3_22, h⟩ := eqs_some h
  obtain ⟨x4_23, h⟩ := eqs_some h
  obtain ⟨x5_24, h⟩ := eqs_some h
  obtain ⟨x6_25, h⟩ := eqs_some h
  subst x1_3
  subst x1_9
  subst x2_10
  subst x3_11
  subst x4_12
  subst x1_20
  subst x2_21
  subst x3_22
  subst x4_23
  subst x5_24
  subst x6_25
  exact ⟨_, _, _, e1, e2, e3⟩
theorem tb_lt30 {g : Nat} (hg : g < 195) : rg g 24 < 30 := by
  have h1 : 1 ≤ rn (rw_ g) := (row_all (row_is hg)).1.2.2.1
  obtain ⟨-, -, -, -, -, -, ⟨-, t1, -⟩, -⟩ := dataA hg
  apply Nat.lt_of_not_le
  intro h
  have e : TBS.getD (rg g 24) [] = [] := by
    rw [List.getD_eq_getElem?_getD, List.getElem?_eq_none (by show 30 ≤ rg g 24; exact h)]
    rfl
  have e2 : rg g 1 = 0 := by
    rw [t1]
    unfold tg
    rw [e]
    rfl
  have e3 : rn (rw_ g) = rg g 1 := rfl
  omega
theorem dataT {g : Nat} (hg : g < 195) : P_CX_X3_build_21 0 (rg g 6) (rg g 1) (rg g 8) (rg g 12) (rg g 14) (rg g 16) (rg g 18) 0 53 54 49 50 0 0 0 0 0 0 0 rf0 = some (Nat.succ (rg g 6), (tg g 8), (tg g 9), (tg g 10), (tg g 11), (tg g 12), (tg g 13), (tg g 14), (tg g 15), (tg g 16), (tg g 17), (tg g 18), (tg g 19), (tg g 20)) ∧ P_CM_X9_findSpreads (rg g 6) (rg g 16) 0 0 (rg g 23) 0 0 0 0 0 0 = some ((tg g 22), (tg g 23), (tg g 24), (tg g 25), (tg g 26), (tg g 27), (tg g 28), (tg g 29)) := by
  have h := isS (allT _ (tb_lt30 hg))
  unfold chkT at h
  iterate 30 replace h := ps_some h
  simp only [kget_eq] at h
  obtain ⟨-, -, -, -, -, -, ⟨t0, t1, t2, t3, t4, t5, t6, t7⟩, -⟩ := dataA hg
  rw [t0, t1, t2, t3, t4, t5, t6, t7]
  obtain ⟨a1_1, a2_2, a3_3, a4_4, a5_5, a6_6, a7_7, a8_8, a9_9, a10_10, a11_11, a12_12, a13_13, a14_14, e1, h⟩ := po14_some h
  obtain ⟨x1_15, h⟩ := eqs_some h
  obtain ⟨x2_16, h⟩ := eqs_some h
  obtain ⟨x3_17, h⟩ := eqs_some h
  obtain ⟨x4_18, h⟩ := eqs_some h
  obtain ⟨x5_19, h⟩ := eqs_some h
  obtain ⟨x6_20, h⟩ := eqs_some h
  obtain ⟨x7_21, h⟩ := eqs_some h
  obtain ⟨x8_22, h⟩ := eqs_some h
  obtain ⟨x9_23, h⟩ := eqs_some h
  obtain ⟨x10_24, h⟩ := eqs_some h
  obtain ⟨x11_25, h⟩ := eqs_some h
  obtain ⟨x12_26, h⟩ := eqs_some h
  obtain ⟨x13_27, h⟩ := eqs_some h
  obtain ⟨x14_28, h⟩ := eqs_some h
  obtain ⟨a1_29, a2_30, a3_31, a4_32, a5_33, a6_34, a7_35, a8_36, e2, h⟩ := po8_some h
  obtain ⟨x1_37, h⟩ := eqs_some h
  obtain ⟨x2_38, h⟩ := eqs_some h
  obtain ⟨x3_39, h⟩ := eqs_some h
  obtain ⟨x4_40, h⟩ := eqs_some h
  obtain ⟨x5_41, h⟩ := eqs_some h
  obtain ⟨x6_42, h⟩ := eqs_some h
  obtain ⟨x7_43, h⟩ := eqs_some h
  obtain ⟨x8_44, h⟩ := eqs_some h
  subst x1_15
  subst x2_16
  subst x3_17
  subst x4_18
  subst x5_19
  subst x6_20
  subst x7_21
  subst x8_22
  subst x9_23
  subst x10_24
  subst x11_25
  subst x12_26
  subst x13_27
  subst x14_28
  subst x1_37
  subst x2_38
  subst x3_39
  subst x4_40
  subst x5_41
  subst x6_42
  subst x7_43
  subst x8_44
  exact ⟨e1, e2⟩
/-- the class learns the sorts, then the rows; the reference lays all -/
theorem learnS_ok {N : Nat} {l : List Nat} {g : Nat} (hg : gok N l g) (eg : g = gL N l) {nowc : Nat → Nat} (hn : ∀ k c, l[k]? = some c → nowc k = c + 1) (c1 c2 c3 c4 c5 c6 : Nat) : ∃ m, P_CX_X8_learnSortsR 0 N l.length nowc c1 c2 c3 c4 0 0 0 0 0 0 0 0 0 0 0 0 0 0 0 c5 c6 0 0 = some (1, (rg g 6), (rg g 10), (rg g 1), N, (rg g 2), (rg g 5), (rg g 3), 0, cakN N (rg g 2) (rg g 1), (rg g 4), m, (rg g 7), (rg g 8), (rg g 11), (rg g 9), (rg g 12), (rg g 13), (rg g 14), (rg g 15), (rg g 16), (rg g 17), (rg g 18), (rg g 19)) := by
  have hg1 : g < 195 := hg.2.2.2.1
  have hN : rg g 0 = N := hg.2.2.2.2.1
  obtain ⟨d1, d2, -⟩ := dataA hg1
  obtain ⟨m0, m1, m2, d3, d4, d5⟩ := dataM hg1
  rw [hN] at d1 d3 d4 d5
  obtain ⟨j, A', r1, r2⟩ := build_loop hg hn l.length 11 0 0 (by omega) (by have := hg.2.2.1; omega) (fun h p c hh => by omega)
  have hm := hMake_ok (by rw [← eg]; exact hg) r1
  rw [← eg] at hm
  have hb : P_CX_X0_build_23_1 N l.length nowc 0 0 0 0 0 0 0 = some ((rg g 1), N, (rg g 2), (rg g 5), (rg g 3), 0, cakN N (rg g 2) (rg g 1), (rg g 4), m0) := by
    show pj_CX_X0_build_23_1 11 l.length nowc N 0 0 0 0 0 0 0 0 = _
    rw [r2]
    unfold p_CX_X0_build_23_1_41 P_CX_X0_makeAll_23
    rw [po5_s hm, po3_s d1, po2_s d3]
  refine ⟨m2, ?_⟩
  unfold P_CX_X8_learnSortsR p_CX_X8_learnSortsR_0
  rw [pgeq_0 rfl]
  unfold p_CX_X8_learnSortsR_7
  rw [po9_s hb, po5_s d4, po7_s d5, po4_s d2, pq_t (bl_t (by omega))]
  rfl
theorem lay_ok {N : Nat} {l : List Nat} {g : Nat} (hg : gok N l g) (eg : g = gL N l) {an : Nat} {gn : Nat → Nat} (h0 : mx 40 an gn 0 = N + 1) (h1 : mx 40 an gn 1 = l.length + 1) (hn : ∀ k c, l[k]? = some c → mx 40 an gn (2 + k) = c + 1) (c1 c2 c3 c4 c5 : Nat) : P_CM_X9_layR 0 c1 c2 c3 c4 c5 0 0 an gn 0 0 0 0 0 0 0 0 0 0 0 0 0 0 0 0 0 = some (1, (rg g 1), (rg g 6), (rg g 10), (rg g 16), (rg g 17), (tg g 22), (tg g 23), (rg g 2), (rg g 20), (rg g 22), (rg g 5), (rg g 21), (rg g 8), (rg g 9), (rg g 23), (tg g 24), (tg g 25), (tg g 26), (tg g 27), (tg g 28), (tg g 29), (rg g 25), (rg g 26), (rg g 27)) := by
  have hg1 : g < 195 := hg.2.2.2.1
  obtain ⟨-, -, d1, d2, d3, d4, -, d5⟩ := dataA hg1
  obtain ⟨-, d6⟩ := dataT hg1
  have el : lNw (mx 40 an gn) = l := by
    unfold lNw
    rw [h1]
    apply List.ext_getElem?
    intro h
    rw [List.getElem?_map]
    by_cases hh : h < l.length
    · have hc : l[h]? = some l[h] := List.getElem?_eq_getElem hh
      rw [show Nat.pred (l.length + 1) = l.length from rfl, List.getElem?_range hh, hc]
      show some (Nat.pred (mx 40 an gn (2 + h))) = _
      rw [hn h _ hc]
      rfl
    · rw [show Nat.pred (l.length + 1) = l.length from rfl, List.getElem?_eq_none (by simpa using hh), List.getElem?_eq_none (by omega)]
      rfl
  have he : P_CM_X9_findElements an gn 0 0 = some ((rg g 1), (rg g 2), (rg g 20)) := by
    unfold P_CM_X9_findElements hElem
    rw [dif_pos, h0, el, show Nat.pred (N + 1) = N from rfl, ← eg]
    · rfl
    · rw [h0, el, h1]
      refine ⟨by omega, by omega, fun h hh => ?_, g, hg⟩
      have hh : h < l.length := hh
      rw [hn h _ (List.getElem?_eq_getElem hh)]
      omega
  unfold P_CM_X9_layR p_CM_X9_layR_0
  rw [pgeq_0 rfl]
  unfold p_CM_X9_layR_8
  rw [pq_t (bl_t (by omega)), po3_s he, po2_s d1, po4_s d2, po3_s d3, po1_s d4, po8_s d6, po3_s d5]
theorem learnR_ok {N cnt : Nat} {nowc : Nat → Nat} {g : Nat} (hg1 : g < 195) (codes einv figs gens cak plc made sortOf turns leasts pl powers rp : Nat) (exp root : Nat) : P_CX_X8_learnRowsR 1 0 N cnt nowc 0 (rg g 6) exp (rg g 1) N codes einv figs gens cak plc made sortOf (rg g 8) turns leasts (rg g 12) pl (rg g 14) powers (rg g 16) root (rg g 18) rp 0 53 54 49 50 0 0 0 0 0 0 0 rf0 = some (1, 1, Nat.succ (rg g 6), (rg g 6), exp, (rg g 1), N, codes, einv, figs, gens, cak, plc, made, sortOf, (rg g 8), turns, leasts, (rg g 12), pl, (rg g 14), powers, (rg g 16), root, (rg g 18), rp, (tg g 8), (tg g 9), (tg g 10), (tg g 11), (tg g 12), (tg g 13), (tg g 14), (tg g 15), (tg g 16), (tg g 17), (tg g 18), (tg g 19), (tg g 20)) := by
  obtain ⟨d1, -⟩ := dataT hg1
  have hs : P_CX_X8_learnSortsR 1 N cnt nowc (rg g 6) exp (rg g 1) N codes einv figs gens cak plc made sortOf (rg g 8) turns leasts (rg g 12) pl (rg g 14) powers (rg g 16) root (rg g 18) rp = some (1, (rg g 6), exp, (rg g 1), N, codes, einv, figs, gens, cak, plc, made, sortOf, (rg g 8), turns, leasts, (rg g 12), pl, (rg g 14), powers, (rg g 16), root, (rg g 18), rp) := by
    unfold P_CX_X8_learnSortsR p_CX_X8_learnSortsR_0
    rw [pgeq_s (by omega)]
    rfl
  unfold P_CX_X8_learnRowsR p_CX_X8_learnRowsR_0
  rw [po24_s hs, pgeq_0 rfl]
  unfold p_CX_X8_learnRowsR_11
  rw [po14_s d1, pq_t (bl_t (by omega))]
  rfl
