/-! ===== the law's loop ===== -/
section LAWL
variable {p : Program} {l : Launch} {e : Env} {s : State} {m : MethodId} {below : List Frame} {meth : Method} {c : Code} {D : va_G} {cI cS cM : ClassId} {cells slots : Nat} {b L ax am : Nat} {xs : Nat → Int32}
theorem l_end {H : Heap} {locs : List Loc} {ls : Array Slot} {kx km : KH} (B : LA D cI cS cM p s m c b L xs cells slots) (hr : meth.sig.returnType = ret) (hlk : meth.locks = false) (I : LI s D cI cS cM kx km ax am H locs) : W p l e room_1 s m #[Value.ref b] below meth c H locs cells slots (lw_Z below #[Value.ref b] s) (F0 m 756 ls []) := by
  obtain ⟨C, hb, hX, hL, hcs⟩ := B
  obtain ⟨as1, es1, as2, es2, h1, h2, p1, p2, d1, d2, dis, a1, a2, hS⟩ := I
  refine lv_iconst (v := 1) C.1 C.2.1 dL_law_756 rfl ?_
  refine W.widen hcs.1 hcs.2 ?_
  have k := lw_ret (l := l) (p := p) (e := e) (s := s) (m := m) (below := below) (meth := meth) (c := c) (b := b) (pc := 757) (H := H) (ls := ls) C.1 C.2.1 hr hlk dL_law_757
  have k2 := W.forget (locs := []) (L := locs) (fun q hq => hS.2.2 q hq) k
  rw [List.nil_append] at k2
  exact k2
theorem l_gt {L i : Nat} (hL : L ≤ 2048) (hi : i ≤ 4096) (h : L < i + 4) : nI L - nI 4 < nI i := by
  rw [← kn_sub (by omega)]
  refine (kn_lt (Nat.mod_lt _ (by omega)) (by omega)).mp ?_
  show Nat.blt (((L + (4294967296 - 4)) % 4294967296 + 2147483648) % 4294967296) ((i + 2147483648) % 4294967296) = true
  rw [Nat.blt_eq]
  omega
theorem l_loop (B : LA D cI cS cM p s m c b L xs cells slots) (hr : meth.sig.returnType = ret) (hlk : meth.locks = false) : ∀ (n i : Nat) (ls : Array Slot) (kx km : KH) (H : Heap) (locs : List Loc), L ≤ i + 4 * n → i ≤ 2100 → lv_has ls 4 [(0, .ref b), (1, .ref ax), (2, .ref am), (3, .int (nI i))] → LI s D cI cS cM kx km ax am H locs → INV kx km → W p l e room_1 s m #[Value.ref b] below meth c H locs cells slots (lw_Z below #[Value.ref b] s) (F0 m 18 ls []) := by
  intro n
  induction n with
  | zero =>
    intro i ls kx km H locs hn hi hV I J
    obtain ⟨C, hb, hX, hL, hcs⟩ := id B
    have hx := C.1
    have hbc := C.2.1
    obtain ⟨scr, s1, s2, s3, s4, s5⟩ := LI_scr I hb hX
    refine lv_iload_n hx hbc dL_law_18 rfl (lv_at hV 3 rfl) ?_
    refine lv_aload_n hx hbc dL_law_19 rfl (lv_at hV 0 rfl) ?_
    refine W.alen (n := nI L) hx hbc s1 s2 (by rw [s4]; rfl) rfl rfl dL_law_20 ?_
    show W p l e room_1 s m #[Value.ref b] below meth c H locs cells slots (lw_Z below #[Value.ref b] s) (F0 m 21 ls [.int (nI L), .int (nI i)])
    refine lv_iconst (v := nI 4) hx hbc dL_law_21 rfl ?_
    refine lv_isub hx hbc dL_law_22 ?_
    exact lv_icmp_gt (tgt := 756) hx hbc dL_law_23 (by decide) (fun _ => l_end B hr hlk I) (fun h => absurd (l_gt hL (by omega) (by omega)) h)
  | succ n ih =>
    intro i ls kx km H locs hn hi hV I J
    obtain ⟨C, hb, hX, hL, hcs⟩ := id B
    have hx := C.1
    have hbc := C.2.1
    obtain ⟨scr, s1, s2, s3, s4, s5⟩ := LI_scr I hb hX
    refine lv_iload_n hx hbc dL_law_18 rfl (lv_at hV 3 rfl) ?_
    refine lv_aload_n hx hbc dL_law_19 rfl (lv_at hV 0 rfl) ?_
    refine W.alen (n := nI L) hx hbc s1 s2 (by rw [s4]; rfl) rfl rfl dL_law_20 ?_
    show W p l e room_1 s m #[Value.ref b] below meth c H locs cells slots (lw_Z below #[Value.ref b] s) (F0 m 21 ls [.int (nI L), .int (nI i)])
    refine lv_iconst (v := nI 4) hx hbc dL_law_21 rfl ?_
    refine lv_isub hx hbc dL_law_22 ?_
    refine lv_icmp_gt (tgt := 756) hx hbc dL_law_23 (by decide) (fun _ => l_end B hr hlk I) (fun h => ?_)
    have hi4 : i + 4 ≤ L := Nat.le_of_not_lt fun z => h (l_gt hL (by omega) z)
    obtain ⟨x0, g0, e0⟩ := nI_ex (xs i)
    refine lv_aload_n hx hbc dL_law_26 rfl (lv_at hV 0 rfl) ?_
    refine lv_iload_n hx hbc dL_law_27 rfl (lv_at hV 3 rfl) ?_
    have hcl : (nI i).toNatClampNeg = i := kn_cl (by omega)
    refine W.iald (j := nI i) (v := .int (xs i)) hx hbc s1 s2 s3 (by rw [s4]; exact kn_in (by omega) (by omega)) (by rw [hcl]; exact s5 _ (by omega)) rfl rfl dL_law_28 ?_
    show W p l e room_1 s m #[Value.ref b] below meth c H locs cells slots (lw_Z below #[Value.ref b] s) (F0 m 29 ls [.int (xs i)])
    refine lv_bipush (v := nI 31) hx hbc dL_law_29 rfl ?_
    refine lv_iand hx hbc dL_law_31 ?_
    rw [e0, ← kn_and]
    have hw : n_and x0 31 < 32 := Nat.lt_succ_of_le Nat.and_le_right
    generalize n_and x0 31 = w at hw
    have K : ∀ (kx2 km2 : KH) (H2 : Heap) (locs2 : List Loc), INV kx2 km2 → LI s D cI cS cM kx2 km2 ax am H2 locs2 → W p l e room_1 s m #[Value.ref b] below meth c H2 locs2 cells slots (lw_Z below #[Value.ref b] s) (F0 m 750 ls []) := fun kx2 km2 H2 locs2 J2 I2 => by
      refine lv_iinc (k := 3) (x := nI i) (v := nI (i + 4)) (lv' := [(3, .int (nI (i + 4))), (0, .ref b), (1, .ref ax), (2, .ref am)]) hx hbc dL_law_750 hV rfl (by show nI i + nI 4 = _; rw [← kn_add, na (by omega)]) (by decide) rfl (fun ls' h' => ?_)
      refine lv_goto (tgt := 18) hx hbc dL_law_753 (by decide) ?_
      refine ih (i + 4) ls' kx2 km2 H2 locs2 (by omega) (by omega) ⟨h'.1, h'.2.1, fun q hq => h'.2.2 q ?_⟩ I2 J2
      simp only [List.mem_cons, List.not_mem_nil, or_false] at hq ⊢
      rcases hq with h | h | h | h
      · exact Or.inr (Or.inl h)
      · exact Or.inr (Or.inr (Or.inl h))
      · exact Or.inr (Or.inr (Or.inr h))
      · exact Or.inl h
    by_cases h23 : w < 23
    · have hc : w = 0 ∨ w = 1 ∨ w = 2 ∨ w = 3 ∨ w = 4 ∨ w = 5 ∨ w = 6 ∨ w = 7 ∨ w = 8 ∨ w = 9 ∨ w = 10 ∨ w = 11 ∨ w = 12 ∨ w = 13 ∨ w = 14 ∨ w = 15 ∨ w = 16 ∨ w = 17 ∨ w = 18 ∨ w = 19 ∨ w = 20 ∨ w = 21 ∨ w = 22 := by omega
      rcases hc with rfl | rfl | rfl | rfl | rfl | rfl | rfl | rfl | rfl | rfl | rfl | rfl | rfl | rfl | rfl | rfl | rfl | rfl | rfl | rfl | rfl | rfl | rfl
      · exact lv_tableIn (off := 108) (tgt := 140) hx hbc dL_law_32 (by decide) (by decide) (by decide) (by decide) (lc_points B hV hi4 I J K)
      · exact lv_tableIn (off := 131) (tgt := 163) hx hbc dL_law_32 (by decide) (by decide) (by decide) (by decide) (lc_moves B hV hi4 I J K)
      · exact lv_tableIn (off := 154) (tgt := 186) hx hbc dL_law_32 (by decide) (by decide) (by decide) (by decide) (lc_drops B hV hi4 I J K)
      · exact lv_tableIn (off := 177) (tgt := 209) hx hbc dL_law_32 (by decide) (by decide) (by decide) (by decide) (lc_of B hV hi4 I J K)
      · exact lv_tableIn (off := 200) (tgt := 232) hx hbc dL_law_32 (by decide) (by decide) (by decide) (by decide) (lc_element B hV hi4 I J K)
      · exact lv_tableIn (off := 233) (tgt := 265) hx hbc dL_law_32 (by decide) (by decide) (by decide) (by decide) (lc_product B hV hi4 I J K)
      · exact lv_tableIn (off := 266) (tgt := 298) hx hbc dL_law_32 (by decide) (by decide) (by decide) (by decide) (lc_sort B hV hi4 I J K)
      · exact lv_tableIn (off := 299) (tgt := 331) hx hbc dL_law_32 (by decide) (by decide) (by decide) (by decide) (lc_times B hV hi4 I J K)
      · exact lv_tableIn (off := 342) (tgt := 374) hx hbc dL_law_32 (by decide) (by decide) (by decide) (by decide) (lc_degree B hV hi4 I J K)
      · exact lv_tableIn (off := 365) (tgt := 397) hx hbc dL_law_32 (by decide) (by decide) (by decide) (by decide) (lc_value B hV hi4 I J K)
      · exact lv_tableIn (off := 398) (tgt := 430) hx hbc dL_law_32 (by decide) (by decide) (by decide) (by decide) (lc_spread B hV hi4 I J K)
      · exact lv_tableIn (off := 431) (tgt := 463) hx hbc dL_law_32 (by decide) (by decide) (by decide) (by decide) (lc_part B hV hi4 I J K)
      · exact lv_tableIn (off := 474) (tgt := 506) hx hbc dL_law_32 (by decide) (by decide) (by decide) (by decide) (lc_mirror B hV hi4 I J K)
      · exact lv_tableIn (off := 497) (tgt := 529) hx hbc dL_law_32 (by decide) (by decide) (by decide) (by decide) (lc_blind B hV hi4 I J K)
      · exact lv_tableIn (off := 520) (tgt := 552) hx hbc dL_law_32 (by decide) (by decide) (by decide) (by decide) (lc_within B hV hi4 I J K)
      · exact lv_tableIn (off := 563) (tgt := 595) hx hbc dL_law_32 (by decide) (by decide) (by decide) (by decide) (lc_natural B hV hi4 I J K)
      · exact lv_tableIn (off := 586) (tgt := 618) hx hbc dL_law_32 (by decide) (by decide) (by decide) (by decide) (lc_turned B hV hi4 I J K)
      · exact lv_tableIn (off := 619) (tgt := 651) hx hbc dL_law_32 (by decide) (by decide) (by decide) (by decide) (lc_type B hV hi4 I J K)
      · exact lv_tableIn (off := 642) (tgt := 674) hx hbc dL_law_32 (by decide) (by decide) (by decide) (by decide) (lc_clear B hV hi4 I J K)
      · exact lv_tableIn (off := 655) (tgt := 687) hx hbc dL_law_32 (by decide) (by decide) (by decide) (by decide) (lc_reads B hV hi4 I J K)
      · exact lv_tableIn (off := 668) (tgt := 700) hx hbc dL_law_32 (by decide) (by decide) (by decide) (by decide) (lc_back B hV hi4 I J K)
      · exact lv_tableIn (off := 681) (tgt := 713) hx hbc dL_law_32 (by decide) (by decide) (by decide) (by decide) (lc_told B hV hi4 I J K)
      · exact lv_tableIn (off := 704) (tgt := 736) hx hbc dL_law_32 (by decide) (by decide) (by decide) (by decide) (lc_digest B hV hi4 I J K)
    · refine lv_tableOut (tgt := 750) hx hbc dL_law_32 (Or.inr ?_) (by decide) (K kx km H locs J I)
      rw [kn_int (by omega), if_pos (by omega)]
      omega
end LAWL
