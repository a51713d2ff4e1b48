/-! ===== the canonical order again ===== -/
def subL (io : List Nat) (kl : KH) : Nat → KH → Prop
  | _, [] => True
  | i, d :: t => (okc 98 d ∧ ∃ p c, io[i]? = some p ∧ kl[p]? = some c ∧ kle c (rnc io d)) ∧ subL io kl (i + 1) t
theorem subL_at {io : List Nat} {kl : KH} : ∀ (ks : KH) (i : Nat), subL io kl i ks → ∀ (j : Nat) (d : KCell), ks[j]? = some d → okc 98 d ∧ ∃ p c, io[i + j]? = some p ∧ kl[p]? = some c ∧ kle c (rnc io d)
  | [], i, _, j, d, hd => by simp at hd
  | e :: t, i, h, 0, d, hd => by
    cases hd
    exact h.1
  | e :: t, i, h, j + 1, d, hd => by
    have := subL_at t (i + 1) h.2 j d (by simpa using hd)
    rw [show i + (j + 1) = i + 1 + j by omega]
    exact this
def okl (n : Nat) : List KV → Prop
  | [] => True
  | v :: t => okv n v ∧ okl n t
theorem okl_mem {n : Nat} : ∀ (l : List KV), okl n l → ∀ v ∈ l, okv n v
  | [], _, v, hv => by cases hv
  | a :: t, h, v, hv => by
    cases hv with
    | head => exact h.1
    | tail _ hv => exact okl_mem t h.2 v hv
theorem okc_ob {n c : Nat} {fs : List KV} (h : okl n fs) : okc n (k_ob c fs) := okl_mem fs h
theorem okr_le {n r : Nat} (h : r ≤ n) : okr n r := by
  cases r with
  | zero => trivial
  | succ k => exact h
def okle (n : Nat) : List Nat → Prop
  | [] => True
  | v :: t => okr n (v - 1) ∧ okle n t
theorem okle_mem {n : Nat} : ∀ (l : List Nat), okle n l → ∀ v ∈ l, okr n (v - 1)
  | [], _, v, hv => by cases hv
  | a :: t, h, v, hv => by
    cases hv with
    | head => exact h.1
    | tail _ hv => exact okle_mem t h.2 v hv
theorem okc_rf {n t m : Nat} {xs : List Nat} (h : okle n xs) : okc n (k_rf t m xs) := okle_mem xs h
theorem kle_0 {n w A : Nat} : kle (k_af n (pk w A)) (k_af n (pk w 0)) := kle_af (fun i _ => Or.inl (pk0 w i))
theorem rwf0 (r i : Nat) : rwf 0 r i = 0 := by
  unfold rwf
  rw [pk0]
  cases Nat.blt i 8 <;> rfl
theorem kle_r {n RS r r' : Nat} : kle (k_af n (rwf RS r)) (k_af n (rwf 0 r')) := kle_af (fun i _ => Or.inl (rwf0 r' i))
theorem dyn_row {St : KH} (hSt : St.length = 48) {RS RF p : Nat} (h : 56 ≤ p) (h2 : p < 98) : (St ++ dynOf 49 2 51 6 57 42 RS RF)[p]? = some (k_af 7 (rwf RS (p + 1))) := by
  unfold dynOf
  rw [List.getElem?_append_right (by omega), hSt, List.getElem?_append_right (by rw [List.length_map, List.length_range']; omega), List.length_map, List.length_range', List.getElem?_append_right (by rw [List.length_map, List.length_range']; omega), List.length_map, List.length_range', List.getElem?_map, List.getElem?_range' (by omega)]
  simp only [Option.map_some]
  congr 3
  omega
theorem ksub_of {io : List Nat} {kl St D8 : KH} {rows : List Nat} (hn : io.Nodup) (hl : io.length = 98) (hSt : St.length = 48) (hD : dynOf 49 2 51 6 57 42 0 rf0 = D8 ++ (List.range' 57 42).map (fun r => k_af 7 (rwf 0 r))) (hD8 : D8.length = 8) (h1 : subL io kl 0 St) (h2 : subL io kl 48 D8) (h3 : ∀ j, j < 42 → ∃ p c, io[56 + j]? = some p ∧ kl[p]? = some c ∧ kle c (k_af 7 (rwf 0 (57 + j)))) : k_sub io (St ++ dynOf 49 2 51 6 57 42 0 rf0) kl := by
  refine ⟨hn, ?_, fun i d hd => ?_⟩
  · rw [hD, hl, List.length_append, List.length_append, List.length_map, List.length_range', hSt, hD8]
  · rw [hl]
    rw [hD] at hd
    by_cases h48 : i < 48
    · rw [List.getElem?_append_left (by omega)] at hd
      have := subL_at St 0 h1 i d hd
      rw [Nat.zero_add] at this
      exact this
    · rw [List.getElem?_append_right (by omega), hSt] at hd
      by_cases h56 : i < 56
      · rw [List.getElem?_append_left (by omega)] at hd
        have := subL_at D8 48 h2 (i - 48) d hd
        rw [show 48 + (i - 48) = i by omega] at this
        exact this
      · rw [List.getElem?_append_right (by omega), hD8, List.getElem?_map] at hd
        by_cases h98 : i < 98
        · rw [List.getElem?_range' (by omega)] at hd
          cases hd
          refine ⟨trivial, ?_⟩
          obtain ⟨p, c, e1, e2, e3⟩ := h3 (i - 56) (by omega)
          refine ⟨p, c, by rw [← e1]; congr 1; omega, e2, ?_⟩
          show kle c (k_af 7 (rwf 0 _))
          rw [show 57 + 1 * (i - 48 - 8) = 57 + (i - 56) by omega]
          exact e3
        · rw [List.getElem?_eq_none (by rw [List.length_range']; omega)] at hd
          cases hd
def ioX (s1 s2 l1 l2 : Nat) (rows : List Nat) : List Nat := 0 :: 1 :: 2 :: 3 :: 4 :: 5 :: 6 :: 7 :: 8 :: 9 :: 10 :: 11 :: 12 :: 13 :: 14 :: 15 :: 16 :: 17 :: 18 :: 19 :: 20 :: 21 :: 22 :: 23 :: 24 :: 25 :: 26 :: 27 :: 28 :: 29 :: 30 :: 31 :: 32 :: 33 :: 34 :: 35 :: 36 :: 37 :: 38 :: 39 :: 40 :: 41 :: 42 :: 43 :: 44 :: 45 :: 46 :: 47 :: s1 :: s2 :: 50 :: 51 :: l1 :: l2 :: 54 :: 55 :: rows
def ioS (s1 s2 l1 l2 : Nat) (rows : List Nat) : List Nat := 0 :: 1 :: 2 :: 3 :: 4 :: 5 :: 6 :: 9 :: 10 :: 11 :: 12 :: 13 :: 14 :: 15 :: 16 :: 7 :: 8 :: 17 :: 18 :: 19 :: 20 :: 21 :: 22 :: 23 :: 24 :: 25 :: 26 :: 27 :: 28 :: 29 :: 30 :: 31 :: 32 :: 33 :: 34 :: 35 :: 36 :: 37 :: 38 :: 39 :: 40 :: 41 :: 42 :: 43 :: 44 :: 45 :: 46 :: 47 :: s1 :: s2 :: 50 :: 51 :: l1 :: l2 :: 54 :: 55 :: rows
def okP (io : List Nat) (s1 s2 l1 l2 : Nat) (rows : List Nat) (RF : Nat) : Prop := io.Nodup ∧ rows.length = 42 ∧ (∀ p ∈ rows, 56 ≤ p ∧ p < 98) ∧ (s1 = 48 ∨ s1 = 49) ∧ (s2 = 48 ∨ s2 = 49) ∧ (l1 = 52 ∨ l1 = 53) ∧ (l2 = 52 ∨ l2 = 53) ∧ rfx RF 51 = (rfx rf0 51).map (rne io) ∧ rfx RF 52 = (rfx rf0 52).map (rne io) ∧ rfx RF (l1 + 1) = (rfx rf0 53).map (rne io) ∧ rfx RF (l2 + 1) = (rfx rf0 54).map (rne io) ∧ rfx RF 55 = (rfx rf0 55).map (rne io) ∧ rfx RF 56 = (rfx rf0 56).map (rne io)
set_option maxRecDepth 100000 in
set_option maxHeartbeats 4000000 in
theorem forget_c {v1_points : Nat} {v1_count : Nat} {a_nowc : Nat → Nat} {v3_points : Nat} {v3_count : Nat} {a_trialc : Nat → Nat} {v5_count : Nat} {v7_points : Nat} {v7_count : Nat} {a_p0c : Nat → Nat} {v9_points : Nat} {v9_count : Nat} {a_p1c : Nat → Nat} {v11_points : Nat} {v11_count : Nat} {a_p2c : Nat → Nat} {v13_points : Nat} {v13_count : Nat} {a_p3c : Nat → Nat} {v15_points : Nat} {v15_count : Nat} {a_p4c : Nat → Nat} {v17_length : Nat} {v17_orders : Nat} {v17_kind : Nat} {v17_number : Nat} {v17_figuresDue : Nat} {v17_figuresSeen : Nat} {v17_pointsThen : Nat} {a_bytes : Nat → Nat} {a_kinds : Nat → Nat} {a_numbers : Nat → Nat} {v21_count : Nat} {b21_count : Nat} {v22_count : Nat} {v22_exponent : Nat} {v23_order : Nat} {v23_points : Nat} {a_codes : Nat} {a_einv : Nat} {a_figures : Nat} {a_generators : Nat} {a_codeAtKey : Nat} {a_placeAtKey : Nat} {a_made : Nat} {a_sortOf : Nat} {a_sizes : Nat} {a_turns : Nat} {a_leasts : Nat} {a_sinv : Nat} {a_pointsLeft : Nat} {a_pairs : Nat} {a_powers : Nat} {v39_p : Nat} {v39_root : Nat} {a_over : Nat} {a_rootPowers : Nat} {a_degrees : Nat} {a_multiplied : Nat} {v44_spaces : Nat} {b44_spaces : Nat} {v44_nextSpaces : Nat} {b44_nextSpaces : Nat} {v44_nextCount : Nat} {b44_nextCount : Nat} {v44_width : Nat} {b44_width : Nat} {a_pivots : Nat} {a_mix : Nat} {a_ref : Nat} {rb_ref : Nat} {rn_ref : Nat} {rf_ref : Nat} {a_RS : Nat} {a_RF : Nat} {s1 s2 l1 l2 : Nat} {rows : List Nat} (h : okP (ioX s1 s2 l1 l2 rows) s1 s2 l1 l2 rows a_RF) : k_sub (ioX s1 s2 l1 l2 rows) (HQ_CX 0 0 v1_points v1_count a_nowc v3_points v3_count a_trialc v5_count v7_points v7_count a_p0c v9_points v9_count a_p1c v11_points v11_count a_p2c v13_points v13_count a_p3c v15_points v15_count a_p4c v17_length v17_orders v17_kind v17_number v17_figuresDue v17_figuresSeen v17_pointsThen a_bytes a_kinds a_numbers 0 ((ov v21_count b21_count)) v22_count v22_exponent v23_order v23_points 0 0 0 0 0 0 0 0 0 0 0 0 0 0 0 v39_p v39_root 0 0 0 0 53 54 49 50 0 ((ov v44_spaces b44_spaces)) 0 ((ov v44_nextSpaces b44_nextSpaces)) 0 ((ov v44_nextCount b44_nextCount)) 0 ((ov v44_width b44_width)) 0 0 a_ref rb_ref rn_ref rf_ref 0 rf0) (HQ_CX 0 0 v1_points v1_count a_nowc v3_points v3_count a_trialc v5_count v7_points v7_count a_p0c v9_points v9_count a_p1c v11_points v11_count a_p2c v13_points v13_count a_p3c v15_points v15_count a_p4c v17_length v17_orders v17_kind v17_number v17_figuresDue v17_figuresSeen v17_pointsThen a_bytes a_kinds a_numbers v21_count b21_count v22_count v22_exponent v23_order v23_points a_codes a_einv a_figures a_generators a_codeAtKey a_placeAtKey a_made a_sortOf a_sizes a_turns a_leasts a_sinv a_pointsLeft a_pairs a_powers v39_p v39_root a_over a_rootPowers a_degrees a_multiplied ((l1 + 1)) ((l2 + 1)) ((s1 + 1)) ((s2 + 1)) v44_spaces b44_spaces v44_nextSpaces b44_nextSpaces v44_nextCount b44_nextCount v44_width b44_width a_pivots a_mix a_ref rb_ref rn_ref rf_ref a_RS a_RF) := by
  obtain ⟨hn, hr, hp, e1, e2, e3, e4, f1, f2, f3, f4, f5, f6⟩ := h
  refine ksub_of (rows := rows) (D8 := [k_af 8 (rwf 0 49), k_af 8 (rwf 0 50), k_rf 1 7 (rfx rf0 51), k_rf 1 7 (rfx rf0 52), k_rf 1 7 (rfx rf0 53), k_rf 1 7 (rfx rf0 54), k_rf 1 7 (rfx rf0 55), k_rf 1 7 (rfx rf0 56)]) hn (by show rows.length + 56 = 98; omega) rfl rfl rfl ?_ ?_ ?_
  · exact ⟨⟨okc_ob ⟨(show 1 < 98 by omega), (show 3 < 98 by omega), (show 5 < 98 by omega), (show 17 < 98 by omega), (show 21 < 98 by omega), (show 47 < 98 by omega), trivial, trivial, trivial⟩, _, _, rfl, rfl, kle_refl _⟩, ⟨okc_ob ⟨trivial, trivial, (show 2 < 98 by omega), trivial⟩, _, _, rfl, rfl, kle_refl _⟩, ⟨trivial, _, _, rfl, rfl, kle_refl _⟩, ⟨okc_ob ⟨trivial, trivial, (show 4 < 98 by omega), trivial⟩, _, _, rfl, rfl, kle_refl _⟩, ⟨trivial, _, _, rfl, rfl, kle_refl _⟩, ⟨okc_ob ⟨trivial, (show 6 < 98 by omega), trivial⟩, _, _, rfl, rfl, kle_refl _⟩, ⟨okc_rf ⟨(show 7 < 98 by omega), (show 9 < 98 by omega), (show 11 < 98 by omega), (show 13 < 98 by omega), (show 15 < 98 by omega), trivial⟩, _, _, rfl, rfl, kle_refl _⟩, ⟨okc_ob ⟨trivial, trivial, (show 8 < 98 by omega), trivial⟩, _, _, rfl, rfl, kle_refl _⟩, ⟨trivial, _, _, rfl, rfl, kle_refl _⟩, ⟨okc_ob ⟨trivial, trivial, (show 10 < 98 by omega), trivial⟩, _, _, rfl, rfl, kle_refl _⟩, ⟨trivial, _, _, rfl, rfl, kle_refl _⟩, ⟨okc_ob ⟨trivial, trivial, (show 12 < 98 by omega), trivial⟩, _, _, rfl, rfl, kle_refl _⟩, ⟨trivial, _, _, rfl, rfl, kle_refl _⟩, ⟨okc_ob ⟨trivial, trivial, (show 14 < 98 by omega), trivial⟩, _, _, rfl, rfl, kle_refl _⟩, ⟨trivial, _, _, rfl, rfl, kle_refl _⟩, ⟨okc_ob ⟨trivial, trivial, (show 16 < 98 by omega), trivial⟩, _, _, rfl, rfl, kle_refl _⟩, ⟨trivial, _, _, rfl, rfl, kle_refl _⟩, ⟨okc_ob ⟨trivial, (show 18 < 98 by omega), (show 19 < 98 by omega), (show 20 < 98 by omega), trivial, trivial, trivial, trivial, trivial, trivial, trivial⟩, _, _, rfl, rfl, kle_refl _⟩, ⟨trivial, _, _, rfl, rfl, kle_refl _⟩, ⟨trivial, _, _, rfl, rfl, kle_refl _⟩, ⟨trivial, _, _, rfl, rfl, kle_refl _⟩, ⟨okc_ob ⟨(show 22 < 98 by omega), (show 39 < 98 by omega), trivial, (show 42 < 98 by omega), (show 50 < 98 by omega), (show 51 < 98 by omega), (show 43 < 98 by omega), (show 44 < 98 by omega), trivial⟩, _, _, rfl, rfl, kle_refl _⟩, ⟨okc_ob ⟨(show 23 < 98 by omega), trivial, trivial, (show 31 < 98 by omega), (show 32 < 98 by omega), (show 33 < 98 by omega), (show 34 < 98 by omega), (show 35 < 98 by omega), (show 36 < 98 by omega), (show 37 < 98 by omega), (show 38 < 98 by omega), trivial⟩, _, _, rfl, rfl, kle_refl _⟩, ⟨okc_ob ⟨trivial, (show 24 < 98 by omega), (show 25 < 98 by omega), trivial, (show 26 < 98 by omega), (show 27 < 98 by omega), (show 28 < 98 by omega), (show 29 < 98 by omega), (show 30 < 98 by omega), trivial⟩, _, _, rfl, rfl, kle_refl _⟩, ⟨trivial, _, _, rfl, rfl, kle_0⟩, ⟨trivial, _, _, rfl, rfl, kle_0⟩, ⟨trivial, _, _, rfl, rfl, kle_0⟩, ⟨trivial, _, _, rfl, rfl, kle_0⟩, ⟨trivial, _, _, rfl, rfl, kle_0⟩, ⟨trivial, _, _, rfl, rfl, kle_0⟩, ⟨trivial, _, _, rfl, rfl, kle_0⟩, ⟨trivial, _, _, rfl, rfl, kle_0⟩, ⟨trivial, _, _, rfl, rfl, kle_0⟩, ⟨trivial, _, _, rfl, rfl, kle_0⟩, ⟨trivial, _, _, rfl, rfl, kle_0⟩, ⟨trivial, _, _, rfl, rfl, kle_0⟩, ⟨trivial, _, _, rfl, rfl, kle_0⟩, ⟨trivial, _, _, rfl, rfl, kle_0⟩, ⟨trivial, _, _, rfl, rfl, kle_0⟩, ⟨okc_ob ⟨trivial, trivial, (show 40 < 98 by omega), (show 41 < 98 by omega), trivial⟩, _, _, rfl, rfl, kle_refl _⟩, ⟨trivial, _, _, rfl, rfl, kle_0⟩, ⟨trivial, _, _, rfl, rfl, kle_0⟩, ⟨trivial, _, _, rfl, rfl, kle_0⟩, ⟨trivial, _, _, rfl, rfl, kle_0⟩, ⟨okc_ob ⟨(show 52 < 98 by omega), (show 53 < 98 by omega), (show 48 < 98 by omega), (show 49 < 98 by omega), trivial, trivial, trivial, trivial, (show 54 < 98 by omega), (show 55 < 98 by omega), (show 45 < 98 by omega), (show 46 < 98 by omega), trivial⟩, _, _, rfl, rfl, kle_refl _⟩, ⟨trivial, _, _, rfl, rfl, kle_0⟩, ⟨trivial, _, _, rfl, rfl, kle_0⟩, ⟨trivial, _, _, rfl, rfl, kle_refl _⟩, trivial⟩
  · have hok : ∀ r, r < 57 → 51 ≤ r → okle 98 (rfx rf0 r) := fun r h1 h2 => by
      have : r = 51 ∨ r = 52 ∨ r = 53 ∨ r = 54 ∨ r = 55 ∨ r = 56 := by omega
      rcases this with rfl | rfl | rfl | rfl | rfl | rfl <;> exact ⟨okr_le (by decide +kernel), okr_le (by decide +kernel), okr_le (by decide +kernel), okr_le (by decide +kernel), okr_le (by decide +kernel), okr_le (by decide +kernel), okr_le (by decide +kernel), trivial⟩
    refine ⟨⟨trivial, s1, k_af 8 (rwf a_RS (s1 + 1)), rfl, ?_, kle_r⟩, ⟨trivial, s2, k_af 8 (rwf a_RS (s2 + 1)), rfl, ?_, kle_r⟩, ⟨okc_rf (hok 51 (by omega) (by omega)), 50, _, rfl, rfl, ?_⟩, ⟨okc_rf (hok 52 (by omega) (by omega)), 51, _, rfl, rfl, ?_⟩, ⟨okc_rf (hok 53 (by omega) (by omega)), l1, k_rf 1 7 (rfx a_RF (l1 + 1)), rfl, ?_, ?_⟩, ⟨okc_rf (hok 54 (by omega) (by omega)), l2, k_rf 1 7 (rfx a_RF (l2 + 1)), rfl, ?_, ?_⟩, ⟨okc_rf (hok 55 (by omega) (by omega)), 54, _, rfl, rfl, ?_⟩, ⟨okc_rf (hok 56 (by omega) (by omega)), 55, _, rfl, rfl, ?_⟩, trivial⟩
    · rcases e1 with rfl | rfl <;> rfl
    · rcases e2 with rfl | rfl <;> rfl
    · show kle (k_rf 1 7 (rfx a_RF 51)) (k_rf 1 7 ((rfx rf0 51).map (rne (ioX s1 s2 l1 l2 rows))))
      rw [f1]
      exact kle_refl _
    · show kle (k_rf 1 7 (rfx a_RF 52)) (k_rf 1 7 ((rfx rf0 52).map (rne (ioX s1 s2 l1 l2 rows))))
      rw [f2]
      exact kle_refl _
    · rcases e3 with rfl | rfl <;> rfl
    · show kle (k_rf 1 7 (rfx a_RF (l1 + 1))) (k_rf 1 7 ((rfx rf0 53).map (rne (ioX s1 s2 l1 l2 rows))))
      rw [f3]
      exact kle_refl _
    · rcases e4 with rfl | rfl <;> rfl
    · show kle (k_rf 1 7 (rfx a_RF (l2 + 1))) (k_rf 1 7 ((rfx rf0 54).map (rne (ioX s1 s2 l1 l2 rows))))
      rw [f4]
      exact kle_refl _
    · show kle (k_rf 1 7 (rfx a_RF 55)) (k_rf 1 7 ((rfx rf0 55).map (rne (ioX s1 s2 l1 l2 rows))))
      rw [f5]
      exact kle_refl _
    · show kle (k_rf 1 7 (rfx a_RF 56)) (k_rf 1 7 ((rfx rf0 56).map (rne (ioX s1 s2 l1 l2 rows))))
      rw [f6]
      exact kle_refl _
  · intro j hj
    have hj2 : j < rows.length := by omega
    obtain ⟨q1, q2⟩ := hp _ (List.getElem_mem hj2)
    refine ⟨rows[j], k_af 7 (rwf a_RS (rows[j] + 1)), ?_, dyn_row rfl q1 q2, kle_r⟩
    rw [show 56 + j = j + 56 by omega]
    show rows[j]? = _
    exact List.getElem?_eq_getElem hj2
set_option maxRecDepth 100000 in
set_option maxHeartbeats 4000000 in
theorem forget_s {v1_points : Nat} {v1_count : Nat} {a_nowc : Nat → Nat} {v3_points : Nat} {v3_count : Nat} {a_trialc : Nat → Nat} {v5_count : Nat} {v7_points : Nat} {v7_count : Nat} {a_p0c : Nat → Nat} {v9_points : Nat} {v9_count : Nat} {a_p1c : Nat → Nat} {v11_points : Nat} {v11_count : Nat} {a_p2c : Nat → Nat} {v13_points : Nat} {v13_count : Nat} {a_p3c : Nat → Nat} {v15_points : Nat} {v15_count : Nat} {a_p4c : Nat → Nat} {v17_length : Nat} {v17_orders : Nat} {v17_kind : Nat} {v17_number : Nat} {v17_figuresDue : Nat} {v17_figuresSeen : Nat} {v17_pointsThen : Nat} {a_bytes : Nat → Nat} {a_kinds : Nat → Nat} {a_numbers : Nat → Nat} {v21_count : Nat} {b21_count : Nat} {v22_count : Nat} {v22_exponent : Nat} {v23_order : Nat} {v23_points : Nat} {a_codes : Nat} {a_einv : Nat} {a_figures : Nat} {a_generators : Nat} {a_codeAtKey : Nat} {a_placeAtKey : Nat} {a_made : Nat} {a_sortOf : Nat} {a_sizes : Nat} {a_turns : Nat} {a_leasts : Nat} {a_sinv : Nat} {a_pointsLeft : Nat} {a_pairs : Nat} {a_powers : Nat} {v39_p : Nat} {v39_root : Nat} {a_over : Nat} {a_rootPowers : Nat} {a_degrees : Nat} {a_multiplied : Nat} {v44_spaces : Nat} {b44_spaces : Nat} {v44_nextSpaces : Nat} {b44_nextSpaces : Nat} {v44_nextCount : Nat} {b44_nextCount : Nat} {v44_width : Nat} {b44_width : Nat} {a_pivots : Nat} {a_mix : Nat} {a_ref : Nat} {rb_ref : Nat} {rn_ref : Nat} {rf_ref : Nat} {a_RS : Nat} {a_RF : Nat} {s1 s2 l1 l2 : Nat} {rows : List Nat} (h : okP (ioS s1 s2 l1 l2 rows) s1 s2 l1 l2 rows a_RF) : k_sub (ioS s1 s2 l1 l2 rows) (HQ_CX 0 0 v1_points v1_count a_nowc v3_points v3_count a_trialc v5_count v9_points v9_count a_p1c v11_points v11_count a_p2c v13_points v13_count a_p3c v15_points v15_count a_p4c v7_points v7_count a_p0c v17_length v17_orders v17_kind v17_number v17_figuresDue v17_figuresSeen v17_pointsThen a_bytes a_kinds a_numbers 0 ((ov v21_count b21_count)) v22_count v22_exponent v23_order v23_points 0 0 0 0 0 0 0 0 0 0 0 0 0 0 0 v39_p v39_root 0 0 0 0 53 54 49 50 0 ((ov v44_spaces b44_spaces)) 0 ((ov v44_nextSpaces b44_nextSpaces)) 0 ((ov v44_nextCount b44_nextCount)) 0 ((ov v44_width b44_width)) 0 0 a_ref rb_ref rn_ref rf_ref 0 rf0) (HQ_CXs 0 0 v1_points v1_count a_nowc v3_points v3_count a_trialc v5_count v7_points v7_count a_p0c v9_points v9_count a_p1c v11_points v11_count a_p2c v13_points v13_count a_p3c v15_points v15_count a_p4c v17_length v17_orders v17_kind v17_number v17_figuresDue v17_figuresSeen v17_pointsThen a_bytes a_kinds a_numbers v21_count b21_count v22_count v22_exponent v23_order v23_points a_codes a_einv a_figures a_generators a_codeAtKey a_placeAtKey a_made a_sortOf a_sizes a_turns a_leasts a_sinv a_pointsLeft a_pairs a_powers v39_p v39_root a_over a_rootPowers a_degrees a_multiplied ((l1 + 1)) ((l2 + 1)) ((s1 + 1)) ((s2 + 1)) v44_spaces b44_spaces v44_nextSpaces b44_nextSpaces v44_nextCount b44_nextCount v44_width b44_width a_pivots a_mix a_ref rb_ref rn_ref rf_ref a_RS a_RF) := by
  obtain ⟨hn, hr, hp, e1, e2, e3, e4, f1, f2, f3, f4, f5, f6⟩ := h
  refine ksub_of (rows := rows) (D8 := [k_af 8 (rwf 0 49), k_af 8 (rwf 0 50), k_rf 1 7 (rfx rf0 51), k_rf 1 7 (rfx rf0 52), k_rf 1 7 (rfx rf0 53), k_rf 1 7 (rfx rf0 54), k_rf 1 7 (rfx rf0 55), k_rf 1 7 (rfx rf0 56)]) hn (by show rows.length + 56 = 98; omega) rfl rfl rfl ?_ ?_ ?_
  · exact ⟨⟨okc_ob ⟨(show 1 < 98 by omega), (show 3 < 98 by omega), (show 5 < 98 by omega), (show 17 < 98 by omega), (show 21 < 98 by omega), (show 47 < 98 by omega), trivial, trivial, trivial⟩, _, _, rfl, rfl, kle_refl _⟩, ⟨okc_ob ⟨trivial, trivial, (show 2 < 98 by omega), trivial⟩, _, _, rfl, rfl, kle_refl _⟩, ⟨trivial, _, _, rfl, rfl, kle_refl _⟩, ⟨okc_ob ⟨trivial, trivial, (show 4 < 98 by omega), trivial⟩, _, _, rfl, rfl, kle_refl _⟩, ⟨trivial, _, _, rfl, rfl, kle_refl _⟩, ⟨okc_ob ⟨trivial, (show 6 < 98 by omega), trivial⟩, _, _, rfl, rfl, kle_refl _⟩, ⟨okc_rf ⟨(show 7 < 98 by omega), (show 9 < 98 by omega), (show 11 < 98 by omega), (show 13 < 98 by omega), (show 15 < 98 by omega), trivial⟩, _, _, rfl, rfl, kle_refl _⟩, ⟨okc_ob ⟨trivial, trivial, (show 8 < 98 by omega), trivial⟩, _, _, rfl, rfl, kle_refl _⟩, ⟨trivial, _, _, rfl, rfl, kle_refl _⟩, ⟨okc_ob ⟨trivial, trivial, (show 10 < 98 by omega), trivial⟩, _, _, rfl, rfl, kle_refl _⟩, ⟨trivial, _, _, rfl, rfl, kle_refl _⟩, ⟨okc_ob ⟨trivial, trivial, (show 12 < 98 by omega), trivial⟩, _, _, rfl, rfl, kle_refl _⟩, ⟨trivial, _, _, rfl, rfl, kle_refl _⟩, ⟨okc_ob ⟨trivial, trivial, (show 14 < 98 by omega), trivial⟩, _, _, rfl, rfl, kle_refl _⟩, ⟨trivial, _, _, rfl, rfl, kle_refl _⟩, ⟨okc_ob ⟨trivial, trivial, (show 16 < 98 by omega), trivial⟩, _, _, rfl, rfl, kle_refl _⟩, ⟨trivial, _, _, rfl, rfl, kle_refl _⟩, ⟨okc_ob ⟨trivial, (show 18 < 98 by omega), (show 19 < 98 by omega), (show 20 < 98 by omega), trivial, trivial, trivial, trivial, trivial, trivial, trivial⟩, _, _, rfl, rfl, kle_refl _⟩, ⟨trivial, _, _, rfl, rfl, kle_refl _⟩, ⟨trivial, _, _, rfl, rfl, kle_refl _⟩, ⟨trivial, _, _, rfl, rfl, kle_refl _⟩, ⟨okc_ob ⟨(show 22 < 98 by omega), (show 39 < 98 by omega), trivial, (show 42 < 98 by omega), (show 50 < 98 by omega), (show 51 < 98 by omega), (show 43 < 98 by omega), (show 44 < 98 by omega), trivial⟩, _, _, rfl, rfl, kle_refl _⟩, ⟨okc_ob ⟨(show 23 < 98 by omega), trivial, trivial, (show 31 < 98 by omega), (show 32 < 98 by omega), (show 33 < 98 by omega), (show 34 < 98 by omega), (show 35 < 98 by omega), (show 36 < 98 by omega), (show 37 < 98 by omega), (show 38 < 98 by omega), trivial⟩, _, _, rfl, rfl, kle_refl _⟩, ⟨okc_ob ⟨trivial, (show 24 < 98 by omega), (show 25 < 98 by omega), trivial, (show 26 < 98 by omega), (show 27 < 98 by omega), (show 28 < 98 by omega), (show 29 < 98 by omega), (show 30 < 98 by omega), trivial⟩, _, _, rfl, rfl, kle_refl _⟩, ⟨trivial, _, _, rfl, rfl, kle_0⟩, ⟨trivial, _, _, rfl, rfl, kle_0⟩, ⟨trivial, _, _, rfl, rfl, kle_0⟩, ⟨trivial, _, _, rfl, rfl, kle_0⟩, ⟨trivial, _, _, rfl, rfl, kle_0⟩, ⟨trivial, _, _, rfl, rfl, kle_0⟩, ⟨trivial, _, _, rfl, rfl, kle_0⟩, ⟨trivial, _, _, rfl, rfl, kle_0⟩, ⟨trivial, _, _, rfl, rfl, kle_0⟩, ⟨trivial, _, _, rfl, rfl, kle_0⟩, ⟨trivial, _, _, rfl, rfl, kle_0⟩, ⟨trivial, _, _, rfl, rfl, kle_0⟩, ⟨trivial, _, _, rfl, rfl, kle_0⟩, ⟨trivial, _, _, rfl, rfl, kle_0⟩, ⟨trivial, _, _, rfl, rfl, kle_0⟩, ⟨okc_ob ⟨trivial, trivial, (show 40 < 98 by omega), (show 41 < 98 by omega), trivial⟩, _, _, rfl, rfl, kle_refl _⟩, ⟨trivial, _, _, rfl, rfl, kle_0⟩, ⟨trivial, _, _, rfl, rfl, kle_0⟩, ⟨trivial, _, _, rfl, rfl, kle_0⟩, ⟨trivial, _, _, rfl, rfl, kle_0⟩, ⟨okc_ob ⟨(show 52 < 98 by omega), (show 53 < 98 by omega), (show 48 < 98 by omega), (show 49 < 98 by omega), trivial, trivial, trivial, trivial, (show 54 < 98 by omega), (show 55 < 98 by omega), (show 45 < 98 by omega), (show 46 < 98 by omega), trivial⟩, _, _, rfl, rfl, kle_refl _⟩, ⟨trivial, _, _, rfl, rfl, kle_0⟩, ⟨trivial, _, _, rfl, rfl, kle_0⟩, ⟨trivial, _, _, rfl, rfl, kle_refl _⟩, trivial⟩
  · have hok : ∀ r, r < 57 → 51 ≤ r → okle 98 (rfx rf0 r) := fun r h1 h2 => by
      have : r = 51 ∨ r = 52 ∨ r = 53 ∨ r = 54 ∨ r = 55 ∨ r = 56 := by omega
      rcases this with rfl | rfl | rfl | rfl | rfl | rfl <;> exact ⟨okr_le (by decide +kernel), okr_le (by decide +kernel), okr_le (by decide +kernel), okr_le (by decide +kernel), okr_le (by decide +kernel), okr_le (by decide +kernel), okr_le (by decide +kernel), trivial⟩
    refine ⟨⟨trivial, s1, k_af 8 (rwf a_RS (s1 + 1)), rfl, ?_, kle_r⟩, ⟨trivial, s2, k_af 8 (rwf a_RS (s2 + 1)), rfl, ?_, kle_r⟩, ⟨okc_rf (hok 51 (by omega) (by omega)), 50, _, rfl, rfl, ?_⟩, ⟨okc_rf (hok 52 (by omega) (by omega)), 51, _, rfl, rfl, ?_⟩, ⟨okc_rf (hok 53 (by omega) (by omega)), l1, k_rf 1 7 (rfx a_RF (l1 + 1)), rfl, ?_, ?_⟩, ⟨okc_rf (hok 54 (by omega) (by omega)), l2, k_rf 1 7 (rfx a_RF (l2 + 1)), rfl, ?_, ?_⟩, ⟨okc_rf (hok 55 (by omega) (by omega)), 54, _, rfl, rfl, ?_⟩, ⟨okc_rf (hok 56 (by omega) (by omega)), 55, _, rfl, rfl, ?_⟩, trivial⟩
    · rcases e1 with rfl | rfl <;> rfl
    · rcases e2 with rfl | rfl <;> rfl
    · show kle (k_rf 1 7 (rfx a_RF 51)) (k_rf 1 7 ((rfx rf0 51).map (rne (ioS s1 s2 l1 l2 rows))))
      rw [f1]
      exact kle_refl _
    · show kle (k_rf 1 7 (rfx a_RF 52)) (k_rf 1 7 ((rfx rf0 52).map (rne (ioS s1 s2 l1 l2 rows))))
      rw [f2]
      exact kle_refl _
    · rcases e3 with rfl | rfl <;> rfl
    · show kle (k_rf 1 7 (rfx a_RF (l1 + 1))) (k_rf 1 7 ((rfx rf0 53).map (rne (ioS s1 s2 l1 l2 rows))))
      rw [f3]
      exact kle_refl _
    · rcases e4 with rfl | rfl <;> rfl
    · show kle (k_rf 1 7 (rfx a_RF (l2 + 1))) (k_rf 1 7 ((rfx rf0 54).map (rne (ioS s1 s2 l1 l2 rows))))
      rw [f4]
      exact kle_refl _
    · show kle (k_rf 1 7 (rfx a_RF 55)) (k_rf 1 7 ((rfx rf0 55).map (rne (ioS s1 s2 l1 l2 rows))))
      rw [f5]
      exact kle_refl _
    · show kle (k_rf 1 7 (rfx a_RF 56)) (k_rf 1 7 ((rfx rf0 56).map (rne (ioS s1 s2 l1 l2 rows))))
      rw [f6]
      exact kle_refl _
  · intro j hj
    have hj2 : j < rows.length := by omega
    obtain ⟨q1, q2⟩ := hp _ (List.getElem_mem hj2)
    refine ⟨rows[j], k_af 7 (rwf a_RS (rows[j] + 1)), ?_, dyn_row rfl q1 q2, kle_r⟩
    rw [show 56 + j = j + 56 by omega]
    show rows[j]? = _
    exact List.getElem?_eq_getElem hj2
def RPS : List (List Nat) := [[56, 57, 58, 59, 60, 61, 62, 63, 64, 65, 66, 67, 68, 69, 70, 71, 72, 73, 74, 75, 76, 77, 78, 79, 80, 81, 82, 83, 84, 85, 86, 87, 88, 89, 90, 91, 92, 93, 94, 95, 96, 97], [56, 57, 58, 59, 60, 61, 62, 63, 64, 65, 66, 67, 68, 69, 77, 78, 79, 80, 81, 82, 83, 70, 71, 72, 73, 74, 75, 76, 84, 85, 86, 87, 88, 89, 90, 92, 91, 93, 94, 95, 96, 97], [56, 57, 58, 59, 60, 61, 62, 63, 64, 65, 66, 67, 68, 69, 77, 78, 79, 80, 81, 82, 83, 70, 71, 72, 73, 74, 75, 76, 84, 85, 86, 87, 88, 89, 90, 93, 91, 92, 94, 95, 96, 97], [57, 58, 56, 59, 60, 61, 62, 64, 65, 63, 66, 67, 68, 69, 77, 78, 79, 80, 81, 82, 83, 70, 71, 72, 73, 74, 75, 76, 84, 85, 86, 87, 88, 89, 90, 92, 91, 93, 94, 95, 96, 97], [56, 57, 58, 59, 60, 61, 62, 63, 64, 65, 66, 67, 68, 69, 70, 71, 72, 73, 74, 75, 76, 77, 78, 79, 80, 81, 82, 83, 84, 85, 86, 87, 88, 89, 90, 92, 91, 94, 93, 95, 96, 97], [56, 57, 58, 59, 60, 61, 62, 63, 64, 65, 66, 67, 68, 69, 70, 71, 72, 73, 74, 75, 76, 77, 78, 79, 80, 81, 82, 83, 84, 85, 86, 87, 88, 89, 90, 92, 91, 94, 93, 95, 96, 97], [56, 57, 58, 59, 60, 61, 62, 63, 64, 65, 66, 67, 68, 69, 77, 78, 79, 80, 81, 82, 83, 70, 71, 72, 73, 74, 75, 76, 84, 85, 86, 87, 88, 89, 90, 94, 91, 92, 93, 95, 96, 97], [56, 57, 58, 59, 60, 61, 62, 63, 64, 65, 66, 67, 68, 69, 77, 78, 79, 80, 81, 82, 83, 70, 71, 72, 73, 74, 75, 76, 84, 85, 86, 87, 88, 89, 90, 93, 91, 94, 92, 95, 96, 97], [57, 58, 59, 60, 56, 61, 62, 64, 65, 66, 67, 63, 68, 69, 77, 78, 79, 80, 81, 82, 83, 70, 71, 72, 73, 74, 75, 76, 84, 85, 86, 87, 88, 89, 90, 92, 91, 95, 94, 93, 96, 97], [57, 58, 59, 60, 56, 61, 62, 64, 65, 66, 67, 63, 68, 69, 70, 71, 72, 73, 74, 75, 76, 77, 79, 78, 81, 80, 82, 83, 84, 85, 86, 87, 88, 89, 90, 92, 91, 94, 93, 95, 96, 97], [57, 59, 58, 56, 60, 61, 62, 64, 66, 65, 63, 67, 68, 69, 77, 78, 79, 80, 81, 82, 83, 70, 71, 72, 73, 74, 75, 76, 84, 85, 86, 87, 88, 89, 90, 93, 91, 92, 94, 95, 96, 97], [58, 59, 56, 57, 60, 61, 62, 65, 66, 63, 64, 67, 68, 69, 77, 78, 79, 80, 81, 82, 83, 70, 71, 72, 73, 74, 75, 76, 84, 85, 86, 87, 88, 89, 90, 92, 91, 95, 94, 93, 96, 97], [56, 57, 58, 59, 60, 61, 62, 63, 64, 65, 66, 67, 68, 69, 77, 78, 79, 80, 81, 82, 83, 70, 71, 72, 73, 74, 75, 76, 84, 85, 86, 87, 88, 89, 90, 95, 91, 92, 93, 94, 96, 97], [56, 57, 58, 59, 60, 61, 62, 63, 64, 65, 66, 67, 68, 69, 77, 78, 79, 80, 81, 82, 83, 70, 71, 72, 73, 74, 75, 76, 84, 85, 86, 87, 88, 89, 90, 94, 91, 92, 95, 93, 96, 97], [56, 57, 58, 59, 60, 61, 62, 63, 64, 65, 66, 67, 68, 69, 77, 78, 79, 80, 81, 82, 83, 70, 71, 72, 73, 74, 75, 76, 84, 85, 86, 87, 88, 89, 90, 93, 91, 95, 92, 94, 96, 97], [56, 57, 58, 59, 60, 61, 62, 63, 64, 65, 66, 67, 68, 69, 77, 78, 79, 80, 81, 82, 83, 70, 71, 72, 73, 74, 75, 76, 84, 85, 86, 87, 88, 89, 90, 95, 91, 94, 92, 93, 96, 97], [56, 57, 58, 59, 60, 61, 62, 63, 64, 65, 66, 67, 68, 69, 77, 78, 79, 80, 81, 82, 83, 70, 71, 72, 73, 74, 75, 76, 84, 85, 86, 87, 88, 89, 90, 93, 91, 94, 95, 92, 96, 97], [56, 57, 58, 59, 60, 61, 62, 63, 64, 65, 66, 67, 68, 69, 77, 78, 79, 80, 81, 82, 83, 70, 71, 72, 73, 74, 75, 76, 84, 85, 86, 87, 88, 89, 90, 94, 91, 95, 93, 92, 96, 97], [56, 57, 58, 59, 60, 61, 62, 63, 64, 65, 66, 67, 68, 69, 70, 71, 72, 73, 74, 75, 76, 77, 78, 79, 80, 81, 82, 83, 84, 85, 86, 87, 88, 89, 90, 96, 91, 92, 93, 94, 95, 97], [56, 57, 58, 59, 60, 61, 62, 63, 64, 65, 66, 67, 68, 69, 77, 78, 79, 80, 81, 82, 83, 70, 71, 72, 73, 74, 75, 76, 84, 85, 86, 87, 88, 89, 90, 91, 93, 92, 96, 94, 95, 97], [56, 57, 58, 59, 60, 61, 62, 63, 64, 65, 66, 67, 68, 69, 70, 71, 72, 73, 74, 75, 76, 77, 78, 79, 80, 81, 82, 83, 84, 85, 86, 87, 88, 89, 90, 93, 92, 91, 94, 95, 96, 97], [58, 59, 56, 57, 60, 61, 62, 65, 66, 63, 64, 67, 68, 69, 70, 71, 72, 73, 74, 75, 76, 77, 78, 79, 80, 81, 82, 83, 84, 85, 86, 87, 88, 89, 90, 94, 92, 91, 93, 95, 96, 97], [58, 59, 60, 61, 56, 57, 62, 65, 66, 67, 68, 63, 64, 69, 77, 78, 79, 80, 81, 82, 83, 70, 71, 72, 73, 74, 75, 76, 84, 85, 86, 87, 88, 89, 90, 91, 92, 93, 95, 94, 96, 97], [57, 58, 60, 61, 56, 59, 62, 64, 65, 67, 68, 63, 66, 69, 70, 71, 72, 73, 74, 75, 76, 77, 78, 79, 80, 81, 82, 83, 84, 85, 86, 87, 88, 89, 90, 92, 96, 91, 93, 94, 95, 97], [58, 59, 60, 61, 56, 57, 62, 65, 66, 67, 68, 63, 64, 69, 70, 71, 72, 73, 74, 75, 76, 77, 78, 79, 80, 81, 82, 83, 84, 85, 86, 87, 88, 89, 90, 91, 92, 94, 93, 95, 96, 97], [57, 58, 59, 60, 56, 61, 62, 64, 65, 66, 67, 63, 68, 69, 70, 71, 72, 73, 74, 75, 76, 77, 79, 78, 81, 80, 82, 83, 84, 85, 86, 87, 88, 89, 90, 92, 91, 94, 93, 95, 96, 97], [58, 57, 60, 59, 56, 61, 62, 65, 64, 67, 66, 63, 68, 69, 77, 78, 79, 80, 81, 82, 83, 70, 71, 72, 73, 74, 75, 76, 84, 85, 86, 87, 88, 89, 90, 94, 91, 92, 93, 95, 96, 97], [58, 57, 60, 59, 56, 61, 62, 65, 64, 67, 66, 63, 68, 69, 77, 78, 79, 80, 81, 82, 83, 70, 71, 72, 73, 74, 75, 76, 84, 85, 86, 87, 88, 89, 90, 93, 91, 94, 92, 95, 96, 97], [59, 57, 56, 58, 60, 61, 62, 66, 64, 63, 65, 67, 68, 69, 77, 78, 79, 80, 81, 82, 83, 70, 71, 72, 73, 74, 75, 76, 84, 85, 86, 87, 88, 89, 90, 91, 92, 94, 95, 93, 96, 97], [59, 60, 58, 61, 57, 62, 56, 66, 67, 65, 68, 64, 69, 63, 77, 78, 79, 80, 81, 82, 83, 70, 71, 72, 73, 74, 75, 76, 84, 85, 86, 87, 88, 89, 90, 92, 91, 95, 96, 93, 94, 97]]
def okPX (t : Nat) : Prop := okP (ioX (Nat.pred ((TBS.getD t []).getD 11 0)) (Nat.pred ((TBS.getD t []).getD 12 0)) (Nat.pred ((TBS.getD t []).getD 9 0)) (Nat.pred ((TBS.getD t []).getD 10 0)) (RPS.getD t [])) (Nat.pred ((TBS.getD t []).getD 11 0)) (Nat.pred ((TBS.getD t []).getD 12 0)) (Nat.pred ((TBS.getD t []).getD 9 0)) (Nat.pred ((TBS.getD t []).getD 10 0)) (RPS.getD t []) ((TBS.getD t []).getD 20 0)
theorem zPX_0 : okPX 0 := by
  unfold okPX okP
  decide +kernel
theorem zPX_1 : okPX 1 := by
  unfold okPX okP
  decide +kernel
theorem zPX_2 : okPX 2 := by
  unfold okPX okP
  decide +kernel
theorem zPX_3 : okPX 3 := by
  unfold okPX okP
  decide +kernel
theorem zPX_4 : okPX 4 := by
  unfold okPX okP
  decide +kernel
theorem zPX_5 : okPX 5 := by
  unfold okPX okP
  decide +kernel
theorem zPX_6 : okPX 6 := by
  unfold okPX okP
  decide +kernel
theorem zPX_7 : okPX 7 := by
  unfold okPX okP
  decide +kernel
theorem zPX_8 : okPX 8 := by
  unfold okPX okP
  decide +kernel
theorem zPX_9 : okPX 9 := by
  unfold okPX okP
  decide +kernel
theorem zPX_10 : okPX 10 := by
  unfold okPX okP
  decide +kernel
theorem zPX_11 : okPX 11 := by
  unfold okPX okP
  decide +kernel
theorem zPX_12 : okPX 12 := by
  unfold okPX okP
  decide +kernel
theorem zPX_13 : okPX 13 := by
  unfold okPX okP
  decide +kernel
theorem zPX_14 : okPX 14 := by
  unfold okPX okP
  decide +kernel
theorem zPX_15 : okPX 15 := by
  unfold okPX okP
  decide +kernel
theorem zPX_16 : okPX 16 := by
  unfold okPX okP
  decide +kernel
theorem zPX_17 : okPX 17 := by
  unfold okPX okP
  decide +kernel
theorem zPX_18 : okPX 18 := by
  unfold okPX okP
  decide +kernel
theorem zPX_19 : okPX 19 := by
  unfold okPX okP
  decide +kernel
theorem zPX_20 : okPX 20 := by
  unfold okPX okP
  decide +kernel
theorem zPX_21 : okPX 21 := by
  unfold okPX okP
  decide +kernel
theorem zPX_22 : okPX 22 := by
  unfold okPX okP
  decide +kernel
theorem zPX_23 : okPX 23 := by
  unfold okPX okP
  decide +kernel
theorem zPX_24 : okPX 24 := by
  unfold okPX okP
  decide +kernel
theorem zPX_25 : okPX 25 := by
  unfold okPX okP
  decide +kernel
theorem zPX_26 : okPX 26 := by
  unfold okPX okP
  decide +kernel
theorem zPX_27 : okPX 27 := by
  unfold okPX okP
  decide +kernel
theorem zPX_28 : okPX 28 := by
  unfold okPX okP
  decide +kernel
theorem zPX_29 : okPX 29 := by
  unfold okPX okP
  decide +kernel
theorem allPX : ∀ t, t < 30 → okPX t := fun t ht => allUp_at (P := fun t => okPX t) 30 0 ⟨zPX_0, zPX_1, zPX_2, zPX_3, zPX_4, zPX_5, zPX_6, zPX_7, zPX_8, zPX_9, zPX_10, zPX_11, zPX_12, zPX_13, zPX_14, zPX_15, zPX_16, zPX_17, zPX_18, zPX_19, zPX_20, zPX_21, zPX_22, zPX_23, zPX_24, zPX_25, zPX_26, zPX_27, zPX_28, zPX_29, trivial⟩ t (Nat.zero_le _) (by omega)
theorem okPX_0 : okP (ioX 48 49 52 53 [56, 57, 58, 59, 60, 61, 62, 63, 64, 65, 66, 67, 68, 69, 70, 71, 72, 73, 74, 75, 76, 77, 78, 79, 80, 81, 82, 83, 84, 85, 86, 87, 88, 89, 90, 91, 92, 93, 94, 95, 96, 97]) 48 49 52 53 [56, 57, 58, 59, 60, 61, 62, 63, 64, 65, 66, 67, 68, 69, 70, 71, 72, 73, 74, 75, 76, 77, 78, 79, 80, 81, 82, 83, 84, 85, 86, 87, 88, 89, 90, 91, 92, 93, 94, 95, 96, 97] rf0 := by
  unfold okP
  decide +kernel
def okPS (t : Nat) : Prop := okP (ioS (Nat.pred ((TBS.getD t []).getD 11 0)) (Nat.pred ((TBS.getD t []).getD 12 0)) (Nat.pred ((TBS.getD t []).getD 9 0)) (Nat.pred ((TBS.getD t []).getD 10 0)) (RPS.getD t [])) (Nat.pred ((TBS.getD t []).getD 11 0)) (Nat.pred ((TBS.getD t []).getD 12 0)) (Nat.pred ((TBS.getD t []).getD 9 0)) (Nat.pred ((TBS.getD t []).getD 10 0)) (RPS.getD t []) ((TBS.getD t []).getD 20 0)
theorem zPS_0 : okPS 0 := by
  unfold okPS okP
  decide +kernel
theorem zPS_1 : okPS 1 := by
  unfold okPS okP
  decide +kernel
theorem zPS_2 : okPS 2 := by
  unfold okPS okP
  decide +kernel
theorem zPS_3 : okPS 3 := by
  unfold okPS okP
  decide +kernel
theorem zPS_4 : okPS 4 := by
  unfold okPS okP
  decide +kernel
theorem zPS_5 : okPS 5 := by
  unfold okPS okP
  decide +kernel
theorem zPS_6 : okPS 6 := by
  unfold okPS okP
  decide +kernel
theorem zPS_7 : okPS 7 := by
  unfold okPS okP
  decide +kernel
theorem zPS_8 : okPS 8 := by
  unfold okPS okP
  decide +kernel
theorem zPS_9 : okPS 9 := by
  unfold okPS okP
  decide +kernel
theorem zPS_10 : okPS 10 := by
  unfold okPS okP
  decide +kernel
theorem zPS_11 : okPS 11 := by
  unfold okPS okP
  decide +kernel
theorem zPS_12 : okPS 12 := by
  unfold okPS okP
  decide +kernel
theorem zPS_13 : okPS 13 := by
  unfold okPS okP
  decide +kernel
theorem zPS_14 : okPS 14 := by
  unfold okPS okP
  decide +kernel
theorem zPS_15 : okPS 15 := by
  unfold okPS okP
  decide +kernel
theorem zPS_16 : okPS 16 := by
  unfold okPS okP
  decide +kernel
theorem zPS_17 : okPS 17 := by
  unfold okPS okP
  decide +kernel
theorem zPS_18 : okPS 18 := by
  unfold okPS okP
  decide +kernel
theorem zPS_19 : okPS 19 := by
  unfold okPS okP
  decide +kernel
theorem zPS_20 : okPS 20 := by
  unfold okPS okP
  decide +kernel
theorem zPS_21 : okPS 21 := by
  unfold okPS okP
  decide +kernel
theorem zPS_22 : okPS 22 := by
  unfold okPS okP
  decide +kernel
theorem zPS_23 : okPS 23 := by
  unfold okPS okP
  decide +kernel
theorem zPS_24 : okPS 24 := by
  unfold okPS okP
  decide +kernel
theorem zPS_25 : okPS 25 := by
  unfold okPS okP
  decide +kernel
theorem zPS_26 : okPS 26 := by
  unfold okPS okP
  decide +kernel
theorem zPS_27 : okPS 27 := by
  unfold okPS okP
  decide +kernel
theorem zPS_28 : okPS 28 := by
  unfold okPS okP
  decide +kernel
theorem zPS_29 : okPS 29 := by
  unfold okPS okP
  decide +kernel
theorem allPS : ∀ t, t < 30 → okPS t := fun t ht => allUp_at (P := fun t => okPS t) 30 0 ⟨zPS_0, zPS_1, zPS_2, zPS_3, zPS_4, zPS_5, zPS_6, zPS_7, zPS_8, zPS_9, zPS_10, zPS_11, zPS_12, zPS_13, zPS_14, zPS_15, zPS_16, zPS_17, zPS_18, zPS_19, zPS_20, zPS_21, zPS_22, zPS_23, zPS_24, zPS_25, zPS_26, zPS_27, zPS_28, zPS_29, trivial⟩ t (Nat.zero_le _) (by omega)
theorem okPS_0 : okP (ioS 48 49 52 53 [56, 57, 58, 59, 60, 61, 62, 63, 64, 65, 66, 67, 68, 69, 70, 71, 72, 73, 74, 75, 76, 77, 78, 79, 80, 81, 82, 83, 84, 85, 86, 87, 88, 89, 90, 91, 92, 93, 94, 95, 96, 97]) 48 49 52 53 [56, 57, 58, 59, 60, 61, 62, 63, 64, 65, 66, 67, 68, 69, 70, 71, 72, 73, 74, 75, 76, 77, 78, 79, 80, 81, 82, 83, 84, 85, 86, 87, 88, 89, 90, 91, 92, 93, 94, 95, 96, 97] rf0 := by
  unfold okP
  decide +kernel
