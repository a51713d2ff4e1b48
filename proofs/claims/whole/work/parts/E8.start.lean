/-! ===== the start ===== -/
def KX0 : KH := [k_ob 8 [k_r 2, k_r 4, k_r 6, k_r 18, k_r 22, k_r 98, k_i 0, k_i 0], k_ob 5 [k_i 4, k_i 0, k_r 3], k_ar 3 (rpl 3), k_ob 5 [k_i 4, k_i 0, k_r 5], k_ar 3 (rpl 3), k_ob 1 [k_i 0, k_r 7], k_rf 0 5 [9, 11, 13, 15, 17], k_ob 5 [k_i 4, k_i 0, k_r 9], k_ar 3 (rpl 3), k_ob 5 [k_i 4, k_i 0, k_r 11], k_ar 3 (rpl 3), k_ob 5 [k_i 4, k_i 0, k_r 13], k_ar 3 (rpl 3), k_ob 5 [k_i 4, k_i 0, k_r 15], k_ar 3 (rpl 3), k_ob 5 [k_i 4, k_i 0, k_r 17], k_ar 3 (rpl 3), k_ob 4 [k_i 0, k_r 19, k_r 20, k_r 21, k_i 0, k_i 0, k_i 0, k_i 0, k_i 0, k_i 0], k_ar 80 (rpl 80), k_ar 27 (rpl 27), k_ar 27 (rpl 27), k_ob 3 [k_r 23, k_r 40, k_i 0, k_r 43, k_r 44, k_r 52, k_r 60, k_r 61], k_ob 6 [k_r 24, k_i 0, k_i 1, k_r 32, k_r 33, k_r 34, k_r 35, k_r 36, k_r 37, k_r 38, k_r 39], k_ob 0 [k_i 0, k_r 25, k_r 26, k_i 1, k_r 27, k_r 28, k_r 29, k_r 30, k_r 31], k_ar 120 (rpl 120), k_ar 120 (rpl 120), k_ar 600 (rpl 600), k_ar 15 (rpl 15), k_ar 625 (rpl 625), k_ar 625 (rpl 625), k_ar 5 (rpl 5), k_ar 120 (rpl 120), k_ar 7 (rpl 7), k_ar 7 (rpl 7), k_ar 7 (rpl 7), k_ar 7 (rpl 7), k_ar 7 (rpl 7), k_ar 343 (rpl 343), k_ar 42 (rpl 42), k_ob 2 [k_i 61, k_i 1, k_r 41, k_r 42], k_ar 61 (rpl 61), k_ar 61 (rpl 61), k_ar 7 (rpl 7), k_rf 1 7 [46, 47, 48, 49, 50, 51, 52], k_ar 7 (rpl 7), k_ar 7 (rpl 7), k_ar 7 (rpl 7), k_ar 7 (rpl 7), k_ar 7 (rpl 7), k_ar 7 (rpl 7), k_ar 7 (rpl 7), k_rf 1 7 [54, 55, 56, 57, 58, 59, 60], k_ar 7 (rpl 7), k_ar 7 (rpl 7), k_ar 7 (rpl 7), k_ar 7 (rpl 7), k_ar 7 (rpl 7), k_ar 7 (rpl 7), k_ar 7 (rpl 7), k_ar 7 (rpl 7), k_ob 7 [k_r 62, k_r 70, k_r 78, k_r 79, k_i 0, k_i 0, k_i 0, k_i 0, k_r 80, k_r 88, k_r 96, k_r 97], k_rf 1 7 [64, 65, 66, 67, 68, 69, 70], k_ar 7 (rpl 7), k_ar 7 (rpl 7), k_ar 7 (rpl 7), k_ar 7 (rpl 7), k_ar 7 (rpl 7), k_ar 7 (rpl 7), k_ar 7 (rpl 7), k_rf 1 7 [72, 73, 74, 75, 76, 77, 78], k_ar 7 (rpl 7), k_ar 7 (rpl 7), k_ar 7 (rpl 7), k_ar 7 (rpl 7), k_ar 7 (rpl 7), k_ar 7 (rpl 7), k_ar 7 (rpl 7), k_ar 8 (rpl 8), k_ar 8 (rpl 8), k_rf 1 7 [82, 83, 84, 85, 86, 87, 88], k_ar 7 (rpl 7), k_ar 7 (rpl 7), k_ar 7 (rpl 7), k_ar 7 (rpl 7), k_ar 7 (rpl 7), k_ar 7 (rpl 7), k_ar 7 (rpl 7), k_rf 1 7 [90, 91, 92, 93, 94, 95, 96], k_ar 7 (rpl 7), k_ar 7 (rpl 7), k_ar 7 (rpl 7), k_ar 7 (rpl 7), k_ar 7 (rpl 7), k_ar 7 (rpl 7), k_ar 7 (rpl 7), k_ar 7 (rpl 7), k_ar 7 (rpl 7), k_ar 3 (rpl 3)]
def KM0 : KH := [k_ob 9 [k_r 2, k_r 3, k_r 4, k_i 0, k_r 5, k_i 0, k_i 0, k_r 6, k_r 7, k_r 8, k_r 9, k_r 10, k_i 0, k_r 11, k_r 12, k_i 0, k_i 0, k_i 0, k_r 13, k_i 0, k_r 14, k_r 15, k_i 0, k_r 16, k_r 17, k_r 18, k_r 19, k_r 20, k_r 21, k_r 22, k_r 23, k_r 24, k_i 0, k_i 0, k_i 0, k_i 0, k_i 0, k_r 25, k_r 26, k_l 0], k_ar 5 ([5, 1, 1, 1, 1]), k_ar 5 (rpl 5), k_ar 25 (rpl 25), k_ar 3 (rpl 3), k_ar 120 (rpl 120), k_ar 14400 (rpl 14400), k_ar 120 (rpl 120), k_ar 120 (rpl 120), k_ar 120 (rpl 120), k_ar 8 (rpl 8), k_ar 8 (rpl 8), k_ar 512 (rpl 512), k_ar 8 (rpl 8), k_ar 512 (rpl 512), k_ar 8 (rpl 8), k_ar 512 (rpl 512), k_ar 64 (rpl 64), k_ar 8 (rpl 8), k_ar 64 (rpl 64), k_ar 8 (rpl 8), k_ar 64 (rpl 64), k_ar 8 (rpl 8), k_ar 80 (rpl 80), k_ar 40 (rpl 40), k_ar 40 (rpl 40)]
def io0 : List Nat := [0, 1, 2, 3, 4, 5, 6, 7, 8, 9, 10, 11, 12, 13, 14, 15, 16, 17, 18, 19, 20, 21, 22, 23, 24, 25, 26, 27, 28, 29, 30, 31, 32, 33, 34, 35, 36, 37, 38, 39, 40, 41, 42, 59, 60, 95, 96, 97, 77, 78, 43, 51, 61, 69, 79, 87, 44, 45, 46, 47, 48, 49, 50, 52, 53, 54, 55, 56, 57, 58, 62, 63, 64, 65, 66, 67, 68, 70, 71, 72, 73, 74, 75, 76, 80, 81, 82, 83, 84, 85, 86, 88, 89, 90, 91, 92, 93, 94]
theorem kle_rep {n : Nat} {g : Nat → Nat} (h : ∀ i, i < n → g i = 0 ∨ g i = 1) : kle (k_ar n (rpl n)) (k_af n g) := kle_trans kle_ar_af (kle_af (fun i hi => by
  have e : kget 0 (rpl n) i = 1 := by
    unfold rpl
    rw [kget_eq, List.getD_eq_getElem?_getD, List.getElem?_replicate, if_pos hi]
    rfl
  rw [e]
  exact h i hi))
theorem kle_rp0 {n w : Nat} : kle (k_ar n (rpl n)) (k_af n (pk w 0)) := kle_rep (fun i _ => Or.inl (pk0 w i))
theorem kle_rp1 {n : Nat} : kle (k_ar n (rpl n)) (k_af n (fun _ => 0)) := kle_rep (fun _ _ => Or.inl rfl)
theorem kle_rp2 {n : Nat} : kle (k_ar n (rpl n)) (k_af n (fun _ => 1)) := kle_rep (fun _ _ => Or.inr rfl)
theorem kle_rp3 {r : Nat} : kle (k_ar 7 (rpl 7)) (k_af 7 (rwf 0 r)) := kle_rep (fun i _ => Or.inl (rwf0 r i))
theorem kle_rp8 {r : Nat} : kle (k_ar 8 (rpl 8)) (k_af 8 (rwf 0 r)) := kle_rep (fun i _ => Or.inl (rwf0 r i))
theorem kle_ref0 : kle (k_ar 3 (rpl 3)) (k_af 3 (rcf 0 0 0 0)) := kle_rep (fun i hi => by
  have : i = 0 ∨ i = 1 ∨ i = 2 := by omega
  rcases this with rfl | rfl | rfl <;> exact Or.inr rfl)
set_option maxRecDepth 100000 in
set_option maxHeartbeats 4000000 in
theorem start_x : k_sub io0 (HQ_CX 0 0 4 0 ((fun _ => 1)) 4 0 ((fun _ => 1)) 0 4 0 ((fun _ => 1)) 4 0 ((fun _ => 1)) 4 0 ((fun _ => 1)) 4 0 ((fun _ => 1)) 4 0 ((fun _ => 1)) 0 0 0 0 0 0 0 ((fun _ => 0)) ((fun _ => 0)) ((fun _ => 0)) 0 0 0 1 0 1 0 0 0 0 0 0 0 0 0 0 0 0 0 0 0 61 1 0 0 0 0 53 54 49 50 0 0 0 0 0 0 0 0 0 0 0 0 0 0 0 rf0) KX0 := by
  refine ksub_of (rows := [44, 45, 46, 47, 48, 49, 50, 52, 53, 54, 55, 56, 57, 58, 62, 63, 64, 65, 66, 67, 68, 70, 71, 72, 73, 74, 75, 76, 80, 81, 82, 83, 84, 85, 86, 88, 89, 90, 91, 92, 93, 94]) (D8 := [k_af 8 (rwf 0 49), k_af 8 (rwf 0 50), k_rf 1 7 (rfx rf0 51), k_rf 1 7 (rfx rf0 52), k_rf 1 7 (rfx rf0 53), k_rf 1 7 (rfx rf0 54), k_rf 1 7 (rfx rf0 55), k_rf 1 7 (rfx rf0 56)]) (by decide +kernel) rfl rfl rfl rfl ?_ ?_ ?_
  · exact ⟨⟨okc_ob ⟨(show 1 < 98 by omega), (show 3 < 98 by omega), (show 5 < 98 by omega), (show 17 < 98 by omega), (show 21 < 98 by omega), (show 47 < 98 by omega), trivial, trivial, trivial⟩, _, _, rfl, rfl, kle_refl _⟩, ⟨okc_ob ⟨trivial, trivial, (show 2 < 98 by omega), trivial⟩, _, _, rfl, rfl, kle_refl _⟩, ⟨trivial, _, _, rfl, rfl, kle_rp2⟩, ⟨okc_ob ⟨trivial, trivial, (show 4 < 98 by omega), trivial⟩, _, _, rfl, rfl, kle_refl _⟩, ⟨trivial, _, _, rfl, rfl, kle_rp2⟩, ⟨okc_ob ⟨trivial, (show 6 < 98 by omega), trivial⟩, _, _, rfl, rfl, kle_refl _⟩, ⟨okc_rf ⟨okr_le (by decide), okr_le (by decide), okr_le (by decide), okr_le (by decide), okr_le (by decide), trivial⟩, _, _, rfl, rfl, kle_refl _⟩, ⟨okc_ob ⟨trivial, trivial, (show 8 < 98 by omega), trivial⟩, _, _, rfl, rfl, kle_refl _⟩, ⟨trivial, _, _, rfl, rfl, kle_rp2⟩, ⟨okc_ob ⟨trivial, trivial, (show 10 < 98 by omega), trivial⟩, _, _, rfl, rfl, kle_refl _⟩, ⟨trivial, _, _, rfl, rfl, kle_rp2⟩, ⟨okc_ob ⟨trivial, trivial, (show 12 < 98 by omega), trivial⟩, _, _, rfl, rfl, kle_refl _⟩, ⟨trivial, _, _, rfl, rfl, kle_rp2⟩, ⟨okc_ob ⟨trivial, trivial, (show 14 < 98 by omega), trivial⟩, _, _, rfl, rfl, kle_refl _⟩, ⟨trivial, _, _, rfl, rfl, kle_rp2⟩, ⟨okc_ob ⟨trivial, trivial, (show 16 < 98 by omega), trivial⟩, _, _, rfl, rfl, kle_refl _⟩, ⟨trivial, _, _, rfl, rfl, kle_rp2⟩, ⟨okc_ob ⟨trivial, (show 18 < 98 by omega), (show 19 < 98 by omega), (show 20 < 98 by omega), trivial, trivial, trivial, trivial, trivial, trivial, trivial⟩, _, _, rfl, rfl, kle_refl _⟩, ⟨trivial, _, _, rfl, rfl, kle_rp1⟩, ⟨trivial, _, _, rfl, rfl, kle_rp1⟩, ⟨trivial, _, _, rfl, rfl, kle_rp1⟩, ⟨okc_ob ⟨(show 22 < 98 by omega), (show 39 < 98 by omega), trivial, (show 42 < 98 by omega), (show 50 < 98 by omega), (show 51 < 98 by omega), (show 43 < 98 by omega), (show 44 < 98 by omega), trivial⟩, _, _, rfl, rfl, kle_refl _⟩, ⟨okc_ob ⟨(show 23 < 98 by omega), trivial, trivial, (show 31 < 98 by omega), (show 32 < 98 by omega), (show 33 < 98 by omega), (show 34 < 98 by omega), (show 35 < 98 by omega), (show 36 < 98 by omega), (show 37 < 98 by omega), (show 38 < 98 by omega), trivial⟩, _, _, rfl, rfl, kle_refl _⟩, ⟨okc_ob ⟨trivial, (show 24 < 98 by omega), (show 25 < 98 by omega), trivial, (show 26 < 98 by omega), (show 27 < 98 by omega), (show 28 < 98 by omega), (show 29 < 98 by omega), (show 30 < 98 by omega), trivial⟩, _, _, rfl, rfl, kle_refl _⟩, ⟨trivial, _, _, rfl, rfl, kle_rp0⟩, ⟨trivial, _, _, rfl, rfl, kle_rp0⟩, ⟨trivial, _, _, rfl, rfl, kle_rp0⟩, ⟨trivial, _, _, rfl, rfl, kle_rp0⟩, ⟨trivial, _, _, rfl, rfl, kle_rp0⟩, ⟨trivial, _, _, rfl, rfl, kle_rp0⟩, ⟨trivial, _, _, rfl, rfl, kle_rp0⟩, ⟨trivial, _, _, rfl, rfl, kle_rp0⟩, ⟨trivial, _, _, rfl, rfl, kle_rp0⟩, ⟨trivial, _, _, rfl, rfl, kle_rp0⟩, ⟨trivial, _, _, rfl, rfl, kle_rp0⟩, ⟨trivial, _, _, rfl, rfl, kle_rp0⟩, ⟨trivial, _, _, rfl, rfl, kle_rp0⟩, ⟨trivial, _, _, rfl, rfl, kle_rp0⟩, ⟨trivial, _, _, rfl, rfl, kle_rp0⟩, ⟨okc_ob ⟨trivial, trivial, (show 40 < 98 by omega), (show 41 < 98 by omega), trivial⟩, _, _, rfl, rfl, kle_refl _⟩, ⟨trivial, _, _, rfl, rfl, kle_rp0⟩, ⟨trivial, _, _, rfl, rfl, kle_rp0⟩, ⟨trivial, _, _, rfl, rfl, kle_rp0⟩, ⟨trivial, _, _, rfl, rfl, kle_rp0⟩, ⟨okc_ob ⟨(show 52 < 98 by omega), (show 53 < 98 by omega), (show 48 < 98 by omega), (show 49 < 98 by omega), trivial, trivial, trivial, trivial, (show 54 < 98 by omega), (show 55 < 98 by omega), (show 45 < 98 by omega), (show 46 < 98 by omega), trivial⟩, _, _, rfl, rfl, kle_refl _⟩, ⟨trivial, _, _, rfl, rfl, kle_rp0⟩, ⟨trivial, _, _, rfl, rfl, kle_rp0⟩, ⟨trivial, _, _, rfl, rfl, kle_ref0⟩, trivial⟩
  · have hok : ∀ r, r < 57 → 51 ≤ r → okle 98 (rfx rf0 r) := fun r h1 h2 => by
      have : r = 51 ∨ r = 52 ∨ r = 53 ∨ r = 54 ∨ r = 55 ∨ r = 56 := by omega
      rcases this with rfl | rfl | rfl | rfl | rfl | rfl <;> exact ⟨okr_le (by decide +kernel), okr_le (by decide +kernel), okr_le (by decide +kernel), okr_le (by decide +kernel), okr_le (by decide +kernel), okr_le (by decide +kernel), okr_le (by decide +kernel), trivial⟩
    have f1 : [46, 47, 48, 49, 50, 51, 52] = (rfx rf0 51).map (rne io0) := by decide +kernel
    have f2 : [54, 55, 56, 57, 58, 59, 60] = (rfx rf0 52).map (rne io0) := by decide +kernel
    have f3 : [64, 65, 66, 67, 68, 69, 70] = (rfx rf0 53).map (rne io0) := by decide +kernel
    have f4 : [72, 73, 74, 75, 76, 77, 78] = (rfx rf0 54).map (rne io0) := by decide +kernel
    have f5 : [82, 83, 84, 85, 86, 87, 88] = (rfx rf0 55).map (rne io0) := by decide +kernel
    have f6 : [90, 91, 92, 93, 94, 95, 96] = (rfx rf0 56).map (rne io0) := by decide +kernel
    refine ⟨⟨trivial, 77, _, rfl, rfl, kle_rp8⟩, ⟨trivial, 78, _, rfl, rfl, kle_rp8⟩, ⟨okc_rf (hok 51 (by omega) (by omega)), 43, k_rf 1 7 [46, 47, 48, 49, 50, 51, 52], rfl, rfl, ?_⟩, ⟨okc_rf (hok 52 (by omega) (by omega)), 51, k_rf 1 7 [54, 55, 56, 57, 58, 59, 60], rfl, rfl, ?_⟩, ⟨okc_rf (hok 53 (by omega) (by omega)), 61, k_rf 1 7 [64, 65, 66, 67, 68, 69, 70], rfl, rfl, ?_⟩, ⟨okc_rf (hok 54 (by omega) (by omega)), 69, k_rf 1 7 [72, 73, 74, 75, 76, 77, 78], rfl, rfl, ?_⟩, ⟨okc_rf (hok 55 (by omega) (by omega)), 79, k_rf 1 7 [82, 83, 84, 85, 86, 87, 88], rfl, rfl, ?_⟩, ⟨okc_rf (hok 56 (by omega) (by omega)), 87, k_rf 1 7 [90, 91, 92, 93, 94, 95, 96], rfl, rfl, ?_⟩, trivial⟩
    · rw [f1]
      exact kle_refl _
    · rw [f2]
      exact kle_refl _
    · rw [f3]
      exact kle_refl _
    · rw [f4]
      exact kle_refl _
    · rw [f5]
      exact kle_refl _
    · rw [f6]
      exact kle_refl _
  · intro j hj
    have h42 : j = 0 ∨ j = 1 ∨ j = 2 ∨ j = 3 ∨ j = 4 ∨ j = 5 ∨ j = 6 ∨ j = 7 ∨ j = 8 ∨ j = 9 ∨ j = 10 ∨ j = 11 ∨ j = 12 ∨ j = 13 ∨ j = 14 ∨ j = 15 ∨ j = 16 ∨ j = 17 ∨ j = 18 ∨ j = 19 ∨ j = 20 ∨ j = 21 ∨ j = 22 ∨ j = 23 ∨ j = 24 ∨ j = 25 ∨ j = 26 ∨ j = 27 ∨ j = 28 ∨ j = 29 ∨ j = 30 ∨ j = 31 ∨ j = 32 ∨ j = 33 ∨ j = 34 ∨ j = 35 ∨ j = 36 ∨ j = 37 ∨ j = 38 ∨ j = 39 ∨ j = 40 ∨ j = 41 := by omega
    rcases h42 with rfl | rfl | rfl | rfl | rfl | rfl | rfl | rfl | rfl | rfl | rfl | rfl | rfl | rfl | rfl | rfl | rfl | rfl | rfl | rfl | rfl | rfl | rfl | rfl | rfl | rfl | rfl | rfl | rfl | rfl | rfl | rfl | rfl | rfl | rfl | rfl | rfl | rfl | rfl | rfl | rfl | rfl <;> exact ⟨_, _, rfl, rfl, kle_rp3⟩
set_option maxRecDepth 100000 in
theorem start_m : kleH KM0 (HQ_CMf 0 0 0 0 0 0 0 0 0 0 0 0 0 0 0 0 0 ((fun i => kget 0 [5, 1, 1, 1, 1] i)) ((fun _ => 0)) ((fun _ => 0)) 0 0 0 0 ((pk 17 0)) ((pk 8 0)) 0 0 0 0 0 0 0 0 0 0 0 0 0 0 0 0 ((fun _ => 0)) ((fun _ => 0)) ((fun _ => 0))) := kleH_cons (kle_refl _) <| kleH_cons kle_ar_af <| kleH_cons kle_rp1 <| kleH_cons kle_rp1 <| kleH_cons kle_ref0 <| kleH_cons kle_rp0 <| kleH_cons kle_rp0 <| kleH_cons kle_rp0 <| kleH_cons kle_rp0 <| kleH_cons kle_rp0 <| kleH_cons kle_rp0 <| kleH_cons kle_rp0 <| kleH_cons kle_rp0 <| kleH_cons kle_rp0 <| kleH_cons kle_rp0 <| kleH_cons kle_rp0 <| kleH_cons kle_rp0 <| kleH_cons kle_rp0 <| kleH_cons kle_rp0 <| kleH_cons kle_rp0 <| kleH_cons kle_rp0 <| kleH_cons kle_rp0 <| kleH_cons kle_rp0 <| kleH_cons kle_rp1 <| kleH_cons kle_rp1 <| kleH_cons kle_rp1 <| kleH_nil
set_option maxRecDepth 100000 in
theorem start_INV : INV (HQ_CX 0 0 4 0 ((fun _ => 1)) 4 0 ((fun _ => 1)) 0 4 0 ((fun _ => 1)) 4 0 ((fun _ => 1)) 4 0 ((fun _ => 1)) 4 0 ((fun _ => 1)) 4 0 ((fun _ => 1)) 0 0 0 0 0 0 0 ((fun _ => 0)) ((fun _ => 0)) ((fun _ => 0)) 0 0 0 1 0 1 0 0 0 0 0 0 0 0 0 0 0 0 0 0 0 61 1 0 0 0 0 53 54 49 50 0 0 0 0 0 0 0 0 0 0 0 0 0 0 0 rf0) (HQ_CMf 0 0 0 0 0 0 0 0 0 0 0 0 0 0 0 0 0 ((fun i => kget 0 [5, 1, 1, 1, 1] i)) ((fun _ => 0)) ((fun _ => 0)) 0 0 0 0 ((pk 17 0)) ((pk 8 0)) 0 0 0 0 0 0 0 0 0 0 0 0 0 0 0 0 ((fun _ => 0)) ((fun _ => 0)) ((fun _ => 0))) := by
  refine ⟨4, 0, fun _ => 1, (fun i => kget 0 [5, 1, 1, 1, 1] i), 0, fun _ => 4, fun _ => 0, fun _ _ => 1, fun _ => 0, 0, fun _ => 0, 0, 0, 0, ⟨rfl, rfl, fun j hj => ?_⟩, ⟨by omega, by omega, by omega, fun j hj => ⟨0, rfl⟩, fun j hj => by omega⟩, by omega, fun i hi => by omega, by omega, fun k hk => by omega, ⟨4, 0, (fun _ => 1), 0, 0, 0, 0, 0, 0, (fun _ => 0), (fun _ => 0), _, _, _, _, _, _, _, _, _, _, _, _, _, _, _, _, _, _, _, _, _, _, _, _, _, _, _, _, _, _, _, _, _, _, _, _, _, _, _, _, 0, 0, 0, 0, 0, Or.inl ?_, rfl⟩, ⟨0, 0, 0, 0, 0, (fun _ => 0), (fun _ => 0), (fun _ => 0), _, _, _, _, _, _, _, _, _, _, _, _, _, _, _, _, _, _, _, _, _, _, _, _, _, _, 0, 0, Or.inl ?_, rfl⟩⟩
  · have : j = 0 ∨ j = 1 ∨ j = 2 := by omega
    rcases this with rfl | rfl | rfl <;> rfl
  · unfold RK0
    exact ⟨rfl, rfl, rfl, rfl, rfl, rfl, rfl, rfl, rfl, rfl, rfl, rfl, rfl, rfl, rfl, rfl, rfl, rfl, rfl, rfl, rfl, rfl, rfl, rfl, rfl, rfl, rfl, rfl, rfl, rfl, rfl, rfl, rfl, rfl⟩
  · unfold RM0
    exact ⟨rfl, rfl, rfl, rfl, rfl, rfl, rfl, rfl, rfl, rfl, rfl, rfl, rfl, rfl, rfl, rfl, rfl, rfl, rfl, rfl, rfl⟩
theorem l_world {s : State} {args : Array Value} (hts : ∀ w ∈ lw_tbl, w.before args s = true) : ∃ (D : va_G) (cI cS cM : ClassId), va_K D vwCl (k_ty cI cS cM) s ∧ k_mk cI cM s ∧ k_ex s := by
  have hk : ∀ w ∈ k_tbl, w.before args s = true := fun w hw => hts w (List.mem_filter.mp hw).1
  obtain ⟨c0, i0, K0⟩ := u_known hk kiX0 (hk _ kw_4_12)
  obtain ⟨c1, i1, K1⟩ := u_known hk kiX1 (hk _ kw_1_18)
  obtain ⟨c2, i2, K2⟩ := u_known hk kiX2 (hk _ kw_3_19)
  obtain ⟨c3, i3, K3⟩ := u_known hk kiX3 (hk _ kw_2_2)
  obtain ⟨c4, i4, K4⟩ := u_known hk kiX4 (hk _ kw_1_22)
  obtain ⟨c5, i5, K5⟩ := u_known hk kiX5 (hk _ kw_1_13)
  obtain ⟨c6, i6, K6⟩ := u_known hk kiX6 (hk _ kw_3_15)
  obtain ⟨c7, i7, K7⟩ := u_known hk kiX7 (hk _ kw_4_5)
  obtain ⟨c8, i8, K8⟩ := u_known hk kiX8 (hk _ kw_1_1)
  obtain ⟨c9, i9, K9⟩ := u_known hk kiX9 (hk _ kw_1_4)
  obtain ⟨cI, kI, cpI, a1, a2, a3⟩ := Cond.arrayClass_spec (hk _ kw_2_5)
  have wS := hts (.arrayOver (.object "RootedClasses$Setting")) (by decide +kernel)
  have wM := hts (.arrayOver (.array .int)) (by decide +kernel)
  obtain ⟨cpS, cS, kS, b1, b2, b3, b4, b5⟩ := Cond.arrayOver_spec wS
  obtain ⟨cpM, cM, kM, d1, d2, d3, d4, d5⟩ := ao_spec wM
  have eI : cpM = cI := Option.some.inj (d1.symm.trans a1)
  subst eI
  refine ⟨(fun k => [c0, c1, c2, c3, c4, c5, c6, c7, c8, c9].getD k c0, fun k => [i0, i1, i2, i3, i4, i5, i6, i7, i8, i9].getD k i0), cpM, cS, cM, ⟨fun k q hq => ?_, fun k q hq => ?_⟩, ⟨⟨kM, kI, d3, d4, a2⟩, fun q hq => ?_⟩, ⟨va_AO.of wS, wM⟩⟩
  · have hlt : k < 10 := (List.getElem?_eq_some_iff.mp hq).1
    have h10 : k = 0 ∨ k = 1 ∨ k = 2 ∨ k = 3 ∨ k = 4 ∨ k = 5 ∨ k = 6 ∨ k = 7 ∨ k = 8 ∨ k = 9 := by omega
    rcases h10 with rfl | rfl | rfl | rfl | rfl | rfl | rfl | rfl | rfl | rfl
    · cases hq
      exact K0
    · cases hq
      exact K1
    · cases hq
      exact K2
    · cases hq
      exact K3
    · cases hq
      exact K4
    · cases hq
      exact K5
    · cases hq
      exact K6
    · cases hq
      exact K7
    · cases hq
      exact K8
    · cases hq
      exact K9
  · have hlt : k < 3 := (List.getElem?_eq_some_iff.mp hq).1
    have h3 : k = 0 ∨ k = 1 ∨ k = 2 := by omega
    rcases h3 with rfl | rfl | rfl
    · cases hq
      exact ⟨fun n z => ⟨(fun k h => by cases h), kI, a2, cpI, a3⟩, a1⟩
    · cases hq
      exact ⟨fun n z => ⟨(fun k h => by cases h), kS, b3, cpS, b4⟩, kS, cpS, b3, b4, b1, b5⟩
    · cases hq
      exact ⟨fun n z => ⟨(fun k h => by cases h), kM, d3, cpM, d4⟩, d5⟩
  · have hall : ∀ q ∈ k_nl, Cond.methodLinkNest q.1 q.2.1 q.2.2 "RootedClasses" ∈ lw_tbl := by decide +kernel
    exact va_Nw.of rfl (hts _ (hall q hq))
section LAWS
variable {p : Program} {l : Launch} {e : Env} {s : State} {m : MethodId} {args : Array Value} {below : List Frame} {meth : Method} {c : Code} {D : va_G} {cI cS cM : ClassId} {cells slots pc : Nat} {Q : State → Prop} {H : Heap} {locs : List Loc} {ls : Array Slot} {rest : List Value}
theorem l_new {idx ci N : Nat} {Cn : String} {Tf : u_T} {tyf : Nat → FieldType} {ws : va_W} (C : lctx D cI cS cM p s m c args) (hd : decode code pc = .ok (.new idx, 3)) (hc : vwCl[ci]? = some (Cn, Tf, N)) (hin : ∀ w ∈ u_ws Cn Tf N, w ∈ k_tbl) (hty : ∀ k, k < N → parseFieldDescriptor (Tf k).2.2.1 = some (tyf k)) (hcl : Cond.classLink R_law idx Cn ∈ k_tbl) (hinst : Cond.instantiable Cn N ∈ k_tbl) (hini : Cond.initialized Cn ∈ k_tbl) (hok : ∀ k, k < N → k_dok (tyf k) = true) (h1 : cells + 1 ≤ 600000) (h2 : slots + N ≤ 7302250) (hP : va_P D vwCl ws H) (hD : va_D (fun q => s.heap.size ≤ q) ws) (hS : va_S (fun q => s.heap.size ≤ q) s.heap H locs)
    (K : ∀ (q : Nat) (H1 : Heap) (ev : va_E), k_h cI cS cM [q] [k_ob ci ((List.range N).map fun k => k_dv (tyf k))] [ev] → va_P D vwCl (ws ++ [(q, ev)]) H1 → va_D (fun q => s.heap.size ≤ q) (ws ++ [(q, ev)]) → va_S (fun q => s.heap.size ≤ q) s.heap H1 locs → W p l e room_1 s m args below meth c H1 locs (cells + 1) (slots + N) Q (F0 m (pc + 3) ls (.ref q :: rest))) : W p l e room_1 s m args below meth c H locs cells slots Q (F0 m pc ls rest) := by
  obtain ⟨c1, c2, c3, c4, c5, c9, c10⟩ := C
  refine va_new (ci := ci) (fs := (List.range N).map fun k => defaultValue (tyf k)) (C := Cn) (T := Tf) (N := N) c1 c2 c5 hin tyf hty c4 (c5 _ hcl) (c5 _ hinst) (c5 _ hini) c9 hP hD hS (fun _ h => h) hc (fun j hj => by simp [vp_V, hj]) h1 h2 hd (fun q H1 hP1 hD1 hS1 => ?_)
  refine K q H1 _ ?_ hP1 hD1 hS1
  have h0 : k_h cI cS cM [] [] [] := ⟨rfl, rfl, fun p c e h => by simp at h⟩
  refine kh_push (as := []) (kh := []) (es := []) h0 ?_
  refine ⟨⟨(Cn, Tf, N), hc, by simp⟩, _, rfl, by simp, fun i kv hi => ?_⟩
  have hi : ((List.range N).map fun k => k_dv (tyf k))[i]? = some kv := hi
  have hlt : i < N := by
    have := (List.getElem?_eq_some_iff.mp hi).1
    simpa using this
  rw [List.getElem?_map, List.getElem?_range hlt] at hi
  cases hi
  exact ⟨_, by rw [List.getElem?_map, List.getElem?_range hlt]; rfl, k_dv_ok (hok i hlt) _⟩
theorem l_ctor {idx fb mb sb nb q : Nat} {y : MethodName} {cb : ByteArray} {kh kh1 : KH} {ev : va_E} (C : lctx D cI cS cM p s m c args) (hx : k_ex s) (hd : decode code pc = .ok (.invokespecial idx, 3)) (hlk : Cond.methodLink R_law idx y ∈ k_tbl) (hins : Cond.instanceMethod y ∈ k_tbl) (hnm : y.name = "<init>") (hok : k_ok y cb nb none 0) (hfr : fb + 1 ≤ 11) (hnb : 8 + (nb + 11) + 30 * fb ≤ 436) (h1 : cells + mb ≤ 600000) (h2 : slots + sb ≤ 7302250) (M : k_metC l D cI cS cM y cb nb fb mb sb [k_r 1] kh kh1) (hh : k_h cI cS cM [q] kh [ev]) (hP : va_P D vwCl (kz [q] [ev]) H) (hD : va_D (fun q => s.heap.size ≤ q) (kz [q] [ev])) (hS : va_S (fun q => s.heap.size ≤ q) s.heap H locs) (hls : ls.size = 4) (hrest : (rest.map fun v => v.category).sum ≤ 8)
    (K : ∀ (as : List Nat) (es : List va_E) (H1 : Heap) (locs1 : List Loc), k_h cI cS cM as kh1 es → va_P D vwCl (kz as es) H1 → va_D (va_A (kz [q] [ev]) H.size) (kz as es) → as[0]? = some q → va_S (fun q => s.heap.size ≤ q) s.heap H1 locs1 → (∀ a, a < H.size → a ≠ q → H1[a]? = H[a]?) → W p l e room_1 s m args below meth c H1 locs1 (cells + mb) (slots + sb) Q (F0 m (pc + 3) ls rest)) : W p l e room_1 s m args below meth c H locs cells slots Q (F0 m pc ls (.ref q :: rest)) := by
  obtain ⟨c1, c2, c3, c4, c5, c9, c10⟩ := C
  obtain ⟨o1, o2, o3, o4⟩ := hok
  have hM := M [q] [ev] [.ref q] H.size hh ⟨⟨q, rfl, rfl⟩, trivial⟩
  have hW : 2 * (F0 m pc ls (Value.ref q :: rest)).monitorRoom + (rest.map fun v => v.category).sum ≤ 8 := lv_room hrest
  have hpre : PreS s H (k_PC D cI cS cM [q] [ev] H.size [.ref q]) [.ref q] := ⟨k_PC_blind, fun U hU hWU => ⟨k_preS c9 c10 hP hD U hU hWU, hx.moved hWU.alike⟩⟩
  have hrun : va_Run p l e room_1 s m args below meth c H locs cells slots mb sb (F0 m pc ls (.ref q :: rest)) rest (k_Q D cI cS cM [q] [] kh1 (va_A (kz [q] [ev]) H.size) ([.ref q] : List Value).toArray) (va_A (kz [q] [ev]) H.size) :=
    va_runI (As := []) ⟨c1, c2, c3, c4, c5⟩ hM ⟨callB_of 0 c5 (k_goodIn o1) rfl rfl rfl (c5 _ o2) (c5 _ hlk) o3 ⟨hfr, hnb⟩, hnm, c5 _ hins⟩ hpre rfl rfl hls rfl hW hd ⟨h1, h2⟩
  intro T hT X
  obtain ⟨v, st₀, t, T', L, h0, X', hL, e1, e2, ⟨⟨v', hv', as', es', w1, w2, w3, w4, w5, w6, w7⟩, hz, hk⟩, st⟩ := hrun T hT X
  cases hv'
  rw [h0] at hz hk
  rw [← e1] at w4 hz hk
  have hv0 : v.toList = [] := by
    cases v with
    | none => rfl
    | some v => exact w1.elim
  rw [hv0] at st
  have hin : ∀ a, va_A (kz [q] [ev]) H.size a → s.heap.size ≤ a := fun a h => by
    rcases h with ⟨k, eu, hq⟩ | h
    · exact hD.2 k _ hq
    · exact Nat.le_trans hS.1 h
  obtain ⟨t2, b1, b2⟩ := K as' es' T'.heap (locs ++ L) w3 w4 w7 (by obtain ⟨tl, rfl⟩ := w2; rfl) ⟨Nat.le_trans hS.1 hz, fun a g1 g2 => by rw [hk a (Nat.lt_of_lt_of_le g1 hS.1) (fun z => g2 (hin a z))]; exact hS.2.1 a g1 g2, fun a ha => by
        rcases List.mem_append.mp ha with h | h
        · exact hS.2.2 a h
        · exact hin _ (hL a h)⟩ (fun a g1 g2 => hk a g1 (fun z => by
        rcases z with ⟨k, eu, hq⟩ | h
        · have hq1 := kz_in hq
          have hk0 : k < 1 := (List.getElem?_eq_some_iff.mp hq1).1
          have hk1 : k = 0 := by omega
          subst hk1
          exact g2 (Option.some.inj hq1).symm
        · omega)) T' rfl X'
  exact ⟨t2, st t2 b1, b2⟩
end LAWS
set_option maxRecDepth 100000 in
theorem whole_start {p : Program} {e : Env} {s : State} {m : MethodId} {below : List Frame} {meth : Method} {c : Code} (l : Launch) (hflags : l.flags = flags0) {b L : Nat} {xs : Nat → Int32} (hL : L ≤ 2048) (C0 : lw_At p s m meth c b L xs) : W p l e room_1 s m #[Value.ref b] below meth c s.heap [] 0 0 (lw_Z below #[Value.ref b] s) (entryFrame m ([Value.ref b] : List Value).toArray 4) := by
  obtain ⟨hx, hbc, hr, hml, hown, hts, hX, hbl, hlk, hgv⟩ := C0
  obtain ⟨D, cI, cS, cM, hK, hmk, hex⟩ := l_world hts
  have hk : ∀ w ∈ k_tbl, w.before #[Value.ref b] s = true := fun w hw => hts w (List.mem_filter.mp hw).1
  have C : lctx D cI cS cM p s m c #[Value.ref b] := ⟨hx, hbc, hml, hown, hk, hK, hmk⟩
  have hl := lv_entry [Value.ref b] (n := 4) (Nat.le_of_ble_eq_true rfl)
  rw [lg_entry_eq]
  generalize (lg_sl [Value.ref b] ++ List.replicate (4 - (lg_sl [Value.ref b]).length) Slot.unset).toArray = ls at hl ⊢
  have hl : lv_has ls 4 [(0, .ref b)] := hl
  refine l_new (ws := []) (ci := 8) (tyf := tyX8) C dL_law_0 rfl kiX8 tyX8_ok kw_1_0 kw_1_1 kw_1_2 (by decide) (by decide) (by decide) (fun k q h => by simp at h) ⟨fun i j p q h => by simp at h, fun k q h => by simp at h⟩ va_S.rf (fun q1 H1 ev1 hh1 hP1 hD1 hS1 => ?_)
  refine lv_dup hx hbc dL_law_3 rfl ?_
  refine l_ctor C hex dL_law_4 kw_1_6 kw_1_7 rfl ok_X8_init (by decide) (by decide) (by decide) (by decide) (n_X8_init (pre := []) (q := 0) (kh1 := KX0) rfl rfl rfl) hh1 hP1 hD1 hS1 hl.1 (Nat.le_of_ble_eq_true rfl) (fun as1 es1 H2 locs2 hh2 hP2 hD2 ha1 hS2 _ => ?_)
  refine lv_astore_n (lv' := [(1, .ref q1), (0, .ref b)]) hx hbc dL_law_7 rfl hl (by decide) rfl (fun ls1 hl1 => ?_)
  have hq1 : s.heap.size ≤ q1 := hD1.2 0 _ rfl
  have hD2' : va_D (fun q => s.heap.size ≤ q) (kz as1 es1) := hD2.weaken (fun k q _ h => by
    rcases h with ⟨j, eu, hj⟩ | h
    · exact hD1.2 j (q.1, eu) hj
    · exact Nat.le_trans hS1.1 h)
  refine l_new (ws := kz as1 es1) (ci := 9) (tyf := tyX9) C dL_law_8 rfl kiX9 tyX9_ok kw_1_3 kw_1_4 kw_1_5 (by decide) (by decide) (by decide) hP2 hD2' hS2 (fun q2 H3 ev2 hh3 hP3 hD3 hS3 => ?_)
  refine lv_dup hx hbc dL_law_11 rfl ?_
  have hn1 : (kz as1 es1)[(kz as1 es1).length]? = none := List.getElem?_eq_none (Nat.le_refl _)
  have hlast : (kz as1 es1 ++ [(q2, ev2)])[(kz as1 es1).length]? = some (q2, ev2) := by
    rw [List.getElem?_append_right (Nat.le_refl _), Nat.sub_self]
    rfl
  have hP3b : va_P D vwCl (kz [q2] [ev2]) H3 := fun k q hq => by
    have hk0 : k < 1 := (List.getElem?_eq_some_iff.mp hq).1
    have hk1 : k = 0 := by omega
    subst hk1
    cases hq
    exact hP3 _ _ hlast
  have hD3b : va_D (fun q => s.heap.size ≤ q) (kz [q2] [ev2]) := ⟨fun i j x y hi hj _ => by
    have h1 : i < 1 := (List.getElem?_eq_some_iff.mp hi).1
    have h2 : j < 1 := (List.getElem?_eq_some_iff.mp hj).1
    omega, fun k q hq => by
    have hk0 : k < 1 := (List.getElem?_eq_some_iff.mp hq).1
    have hk1 : k = 0 := by omega
    subst hk1
    cases hq
    exact hD3.2 _ _ hlast⟩
  refine l_ctor C hex dL_law_12 kw_6_12 kw_6_13 rfl ok_X9_init (by decide) (by decide) (by decide) (by decide) (n_X9_init (pre := []) (q := 0) (kh1 := KM0) rfl rfl rfl) hh3 hP3b hD3b hS3 hl1.1 (Nat.le_of_ble_eq_true rfl) (fun as2 es2 H4 locs4 hh4 hP4 hD4 ha2 hS4 hkeep => ?_)
  refine lv_astore_n (lv' := [(2, .ref q2), (1, .ref q1), (0, .ref b)]) hx hbc dL_law_15 rfl hl1 (by decide) rfl (fun ls2 hl2 => ?_)
  refine lv_iconst (v := nI 0) hx hbc dL_law_16 rfl ?_
  refine lv_istore_n (lv' := [(3, .int (nI 0)), (2, .ref q2), (1, .ref q1), (0, .ref b)]) hx hbc dL_law_17 rfl hl2 (by decide) rfl (fun ls3 hl3 => ?_)
  have hleft : ∀ (k : Nat) (q : Nat × va_E), (kz as1 es1)[k]? = some q → (kz as1 es1 ++ [(q2, ev2)])[k]? = some q ∧ k < (kz as1 es1).length := fun k q hq => by
    have h := (List.getElem?_eq_some_iff.mp hq).1
    exact ⟨by rw [List.getElem?_append_left h]; exact hq, h⟩
  have hne : ∀ (k : Nat) (q : Nat × va_E), (kz as1 es1)[k]? = some q → q.1 < H3.size ∧ q.1 ≠ q2 := fun k q hq => by
    obtain ⟨h1, h2⟩ := hleft k q hq
    refine ⟨(hP3 k q h1).lt, fun z => ?_⟩
    have := hD3.1 k _ q (q2, ev2) h1 hlast z
    omega
  have hP1' : va_P D vwCl (kz as1 es1) H4 := fun k q hq => by
    obtain ⟨h1, h2⟩ := hleft k q hq
    obtain ⟨h3, h4⟩ := hne k q hq
    exact (hP3 k q h1).kept (hkeep q.1 h3 h4)
  have hD2'' : va_D (fun q => s.heap.size ≤ q) (kz as2 es2) := hD4.weaken (fun k q _ h => by
    rcases h with ⟨j, eu, hj⟩ | h
    · exact hD3b.2 j (q.1, eu) hj
    · exact Nat.le_trans hS3.1 h)
  have hI : LI s D cI cS cM KX0 KM0 q1 q2 H4 locs4 := by
    refine ⟨as1, es1, as2, es2, hh2, hh4, hP1', hP4, hD2', hD2'', fun a g1 g2 => ?_, ha1, ha2, hS4⟩
    obtain ⟨k, hk1⟩ := List.getElem?_of_mem g1
    obtain ⟨j, hj1⟩ := List.getElem?_of_mem g2
    obtain ⟨eu, heu⟩ := kz_out hh2 hk1
    obtain ⟨ew, hew⟩ := kz_out hh4 hj1
    obtain ⟨h3, h4⟩ := hne k _ heu
    rcases hD4.2 j _ hew with ⟨i, ez, hi⟩ | h
    · have hi1 := kz_in hi
      have hi0 : i < 1 := (List.getElem?_eq_some_iff.mp hi1).1
      have hi2 : i = 0 := by omega
      subst hi2
      exact h4 (Option.some.inj hi1).symm
    · have h : H3.size ≤ a := h
      have h3 : a < H3.size := h3
      omega
  have hI2 := LI_red (Or.inr ⟨io0, start_x, rfl⟩) start_m hI
  have B : LA D cI cS cM p s m c b L xs (0 + 1 + 97 + 1 + 25) (0 + 8 + 3392 + 40 + 16862) := ⟨C, hbl, hX, hL, by decide, by decide⟩
  refine l_loop B hr hlk 512 0 ls3 _ _ H4 locs4 (by omega) (by omega) ⟨hl3.1, hl3.2.1, fun q hq => hl3.2.2 q ?_⟩ hI2 start_INV
  simp only [List.mem_cons, List.not_mem_nil, or_false] at hq ⊢
  rcases hq with h | h | h | h
  · exact Or.inr (Or.inr (Or.inr h))
  · exact Or.inr (Or.inr (Or.inl h))
  · exact Or.inr (Or.inl h)
  · exact Or.inl h
