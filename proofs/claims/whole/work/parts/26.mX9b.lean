noncomputable def b_X9_findTimes_111 (F_X9_then : KF) (J : List KC) : KC := o_ret
set_option maxRecDepth 100000 in
theorem s_X9_findTimes_111 {l : Launch} {D : va_G} {cI cS cM : ClassId} {F_X9_then : KF} (h_X9_then : k_snd l D cI cS cM yX9_then cX9_then 3 (some .int) 1 3 F_X9_then) {J : List KC} (hJ : ∀ (i pc d : Nat), ([(2, 0), (24, 0), (34, 0)] : List (Nat × Nat))[i]? = some (pc, d) → KS l D cI cS cM yX9_findTimes.cls yX9_findTimes.name cX9_findTimes 4 none (k_rm 2 0 0) false pc d (k_jmp J i)) : KS l D cI cS cM yX9_findTimes.cls yX9_findTimes.name cX9_findTimes 4 none (k_rm 2 0 0) false 111 0 (b_X9_findTimes_111 F_X9_then J) :=
  s_return dX9_findTimes_111 rfl
noncomputable def b_X9_findTimes_105 (F_X9_then : KF) (J : List KC) : KC := o_iinc 1 1 <| k_jmp J 1
set_option maxRecDepth 100000 in
theorem s_X9_findTimes_105 {l : Launch} {D : va_G} {cI cS cM : ClassId} {F_X9_then : KF} (h_X9_then : k_snd l D cI cS cM yX9_then cX9_then 3 (some .int) 1 3 F_X9_then) {J : List KC} (hJ : ∀ (i pc d : Nat), ([(2, 0), (24, 0), (34, 0)] : List (Nat × Nat))[i]? = some (pc, d) → KS l D cI cS cM yX9_findTimes.cls yX9_findTimes.name cX9_findTimes 4 none (k_rm 2 0 0) false pc d (k_jmp J i)) : KS l D cI cS cM yX9_findTimes.cls yX9_findTimes.name cX9_findTimes 4 none (k_rm 2 0 0) false 105 0 (b_X9_findTimes_105 F_X9_then J) :=
  s_iinc dX9_findTimes_105 (by decide) (by decide) <|
  s_goto dX9_findTimes_108 (by decide) (hJ 1 _ _ rfl)
noncomputable def b_X9_findTimes_99 (F_X9_then : KF) (J : List KC) : KC := o_iinc 2 1 <| k_jmp J 2
set_option maxRecDepth 100000 in
theorem s_X9_findTimes_99 {l : Launch} {D : va_G} {cI cS cM : ClassId} {F_X9_then : KF} (h_X9_then : k_snd l D cI cS cM yX9_then cX9_then 3 (some .int) 1 3 F_X9_then) {J : List KC} (hJ : ∀ (i pc d : Nat), ([(2, 0), (24, 0), (34, 0)] : List (Nat × Nat))[i]? = some (pc, d) → KS l D cI cS cM yX9_findTimes.cls yX9_findTimes.name cX9_findTimes 4 none (k_rm 2 0 0) false pc d (k_jmp J i)) : KS l D cI cS cM yX9_findTimes.cls yX9_findTimes.name cX9_findTimes 4 none (k_rm 2 0 0) false 99 0 (b_X9_findTimes_99 F_X9_then J) :=
  s_iinc dX9_findTimes_99 (by decide) (by decide) <|
  s_goto dX9_findTimes_102 (by decide) (hJ 2 _ _ rfl)
noncomputable def b_X9_findTimes_69 (F_X9_then : KF) (J : List KC) : KC := o_aload 0 <| o_get 9 18 <| o_push 64 <| o_aload 0 <| o_get 9 9 <| o_iload 1 <| o_iald <| o_bin n_mul <| o_push 8 <| o_aload 0 <| o_get 9 9 <| o_iload 2 <| o_iald <| o_bin n_mul <| o_bin n_add <| o_iload 3 <| o_bin n_add <| o_dup2 <| o_iald <| o_push 1 <| o_bin n_add <| o_iast <| b_X9_findTimes_99 F_X9_then J
set_option maxRecDepth 100000 in
theorem s_X9_findTimes_69 {l : Launch} {D : va_G} {cI cS cM : ClassId} {F_X9_then : KF} (h_X9_then : k_snd l D cI cS cM yX9_then cX9_then 3 (some .int) 1 3 F_X9_then) {J : List KC} (hJ : ∀ (i pc d : Nat), ([(2, 0), (24, 0), (34, 0)] : List (Nat × Nat))[i]? = some (pc, d) → KS l D cI cS cM yX9_findTimes.cls yX9_findTimes.name cX9_findTimes 4 none (k_rm 2 0 0) false pc d (k_jmp J i)) : KS l D cI cS cM yX9_findTimes.cls yX9_findTimes.name cX9_findTimes 4 none (k_rm 2 0 0) false 69 0 (b_X9_findTimes_69 F_X9_then J) :=
  s_aload_n dX9_findTimes_69 rfl <|
  s_get dX9_findTimes_70 (ci := 9) (sl := 18) (Cn := RX9) (Tf := TX9) (N := 40) rfl (by decide) kiX9 kw_7_3 <|
  s_push2 dX9_findTimes_73 (by decide) (by decide) <|
  s_aload_n dX9_findTimes_75 rfl <|
  s_get dX9_findTimes_76 (ci := 9) (sl := 9) (Cn := RX9) (Tf := TX9) (N := 40) rfl (by decide) kiX9 kw_6_22 <|
  s_iload_n dX9_findTimes_79 rfl <|
  s_iald dX9_findTimes_80 <|
  s_imul dX9_findTimes_81 <|
  s_push2 dX9_findTimes_82 (by decide) (by decide) <|
  s_aload_n dX9_findTimes_84 rfl <|
  s_get dX9_findTimes_85 (ci := 9) (sl := 9) (Cn := RX9) (Tf := TX9) (N := 40) rfl (by decide) kiX9 kw_6_22 <|
  s_iload_n dX9_findTimes_88 rfl <|
  s_iald dX9_findTimes_89 <|
  s_imul dX9_findTimes_90 <|
  s_iadd dX9_findTimes_91 <|
  s_iload_n dX9_findTimes_92 rfl <|
  s_iadd dX9_findTimes_93 <|
  s_dup2 dX9_findTimes_94 <|
  s_iald dX9_findTimes_95 <|
  s_push1 dX9_findTimes_96 (by decide) (by decide) <|
  s_iadd dX9_findTimes_97 <|
  s_iast dX9_findTimes_98 <|
  s_X9_findTimes_99 h_X9_then hJ
noncomputable def b_X9_findTimes_42 (F_X9_then : KF) (J : List KC) : KC := o_aload 0 <| o_get 9 9 <| o_aload 0 <| o_iload 1 <| o_iload 2 <| o_cV1 3 9 F_X9_then <| o_iald <| o_istore 3 <| o_aload 0 <| o_get 9 14 <| o_iload 3 <| o_iald <| o_aload 0 <| o_iload 1 <| o_iload 2 <| o_cV1 3 9 F_X9_then <| o_c2 Nat.beq (b_X9_findTimes_69 F_X9_then J) (b_X9_findTimes_99 F_X9_then J)
set_option maxRecDepth 100000 in
theorem s_X9_findTimes_42 {l : Launch} {D : va_G} {cI cS cM : ClassId} {F_X9_then : KF} (h_X9_then : k_snd l D cI cS cM yX9_then cX9_then 3 (some .int) 1 3 F_X9_then) {J : List KC} (hJ : ∀ (i pc d : Nat), ([(2, 0), (24, 0), (34, 0)] : List (Nat × Nat))[i]? = some (pc, d) → KS l D cI cS cM yX9_findTimes.cls yX9_findTimes.name cX9_findTimes 4 none (k_rm 2 0 0) false pc d (k_jmp J i)) : KS l D cI cS cM yX9_findTimes.cls yX9_findTimes.name cX9_findTimes 4 none (k_rm 2 0 0) false 42 0 (b_X9_findTimes_42 F_X9_then J) :=
  s_aload_n dX9_findTimes_42 rfl <|
  s_get dX9_findTimes_43 (ci := 9) (sl := 9) (Cn := RX9) (Tf := TX9) (N := 40) rfl (by decide) kiX9 kw_6_22 <|
  s_aload_n dX9_findTimes_46 rfl <|
  s_iload_n dX9_findTimes_47 rfl <|
  s_iload_n dX9_findTimes_48 rfl <|
  s_callV1 dX9_findTimes_49 kw_23_18 kw_23_19 kw_23_20 (ci := 9) rfl ok_X9_then (by decide) (by decide) h_X9_then (by decide) <|
  s_iald dX9_findTimes_52 <|
  s_istore_n dX9_findTimes_53 rfl (by decide) <|
  s_aload_n dX9_findTimes_54 rfl <|
  s_get dX9_findTimes_55 (ci := 9) (sl := 14) (Cn := RX9) (Tf := TX9) (N := 40) rfl (by decide) kiX9 kw_7_2 <|
  s_iload_n dX9_findTimes_58 rfl <|
  s_iald dX9_findTimes_59 <|
  s_aload_n dX9_findTimes_60 rfl <|
  s_iload_n dX9_findTimes_61 rfl <|
  s_iload_n dX9_findTimes_62 rfl <|
  s_callV1 dX9_findTimes_63 kw_23_18 kw_23_19 kw_23_20 (ci := 9) rfl ok_X9_then (by decide) (by decide) h_X9_then (by decide) <|
  s_icmp_ne dX9_findTimes_66 (by decide) (s_X9_findTimes_99 h_X9_then hJ) (s_X9_findTimes_69 h_X9_then hJ)
noncomputable def b_X9_findTimes_34 (F_X9_then : KF) (J : List KC) : KC := o_iload 2 <| o_aload 0 <| o_get 9 6 <| o_c2 s_lt (b_X9_findTimes_42 F_X9_then J) (b_X9_findTimes_105 F_X9_then J)
set_option maxRecDepth 100000 in
theorem s_X9_findTimes_34 {l : Launch} {D : va_G} {cI cS cM : ClassId} {F_X9_then : KF} (h_X9_then : k_snd l D cI cS cM yX9_then cX9_then 3 (some .int) 1 3 F_X9_then) {J : List KC} (hJ : ∀ (i pc d : Nat), ([(2, 0), (24, 0), (34, 0)] : List (Nat × Nat))[i]? = some (pc, d) → KS l D cI cS cM yX9_findTimes.cls yX9_findTimes.name cX9_findTimes 4 none (k_rm 2 0 0) false pc d (k_jmp J i)) : KS l D cI cS cM yX9_findTimes.cls yX9_findTimes.name cX9_findTimes 4 none (k_rm 2 0 0) false 34 0 (b_X9_findTimes_34 F_X9_then J) :=
  s_iload_n dX9_findTimes_34 rfl <|
  s_aload_n dX9_findTimes_35 rfl <|
  s_get dX9_findTimes_36 (ci := 9) (sl := 6) (Cn := RX9) (Tf := TX9) (N := 40) rfl (by decide) kiX9 kw_22_13 <|
  s_icmp_ge dX9_findTimes_39 (by decide) (s_X9_findTimes_105 h_X9_then hJ) (s_X9_findTimes_42 h_X9_then hJ)
noncomputable def b_X9_findTimes_32 (F_X9_then : KF) (J : List KC) : KC := o_push 0 <| o_istore 2 <| b_X9_findTimes_34 F_X9_then J
set_option maxRecDepth 100000 in
theorem s_X9_findTimes_32 {l : Launch} {D : va_G} {cI cS cM : ClassId} {F_X9_then : KF} (h_X9_then : k_snd l D cI cS cM yX9_then cX9_then 3 (some .int) 1 3 F_X9_then) {J : List KC} (hJ : ∀ (i pc d : Nat), ([(2, 0), (24, 0), (34, 0)] : List (Nat × Nat))[i]? = some (pc, d) → KS l D cI cS cM yX9_findTimes.cls yX9_findTimes.name cX9_findTimes 4 none (k_rm 2 0 0) false pc d (k_jmp J i)) : KS l D cI cS cM yX9_findTimes.cls yX9_findTimes.name cX9_findTimes 4 none (k_rm 2 0 0) false 32 0 (b_X9_findTimes_32 F_X9_then J) :=
  s_push1 dX9_findTimes_32 (by decide) (by decide) <|
  s_istore_n dX9_findTimes_33 rfl (by decide) <|
  s_X9_findTimes_34 h_X9_then hJ
noncomputable def b_X9_findTimes_24 (F_X9_then : KF) (J : List KC) : KC := o_iload 1 <| o_aload 0 <| o_get 9 6 <| o_c2 s_lt (b_X9_findTimes_32 F_X9_then J) (b_X9_findTimes_111 F_X9_then J)
set_option maxRecDepth 100000 in
theorem s_X9_findTimes_24 {l : Launch} {D : va_G} {cI cS cM : ClassId} {F_X9_then : KF} (h_X9_then : k_snd l D cI cS cM yX9_then cX9_then 3 (some .int) 1 3 F_X9_then) {J : List KC} (hJ : ∀ (i pc d : Nat), ([(2, 0), (24, 0), (34, 0)] : List (Nat × Nat))[i]? = some (pc, d) → KS l D cI cS cM yX9_findTimes.cls yX9_findTimes.name cX9_findTimes 4 none (k_rm 2 0 0) false pc d (k_jmp J i)) : KS l D cI cS cM yX9_findTimes.cls yX9_findTimes.name cX9_findTimes 4 none (k_rm 2 0 0) false 24 0 (b_X9_findTimes_24 F_X9_then J) :=
  s_iload_n dX9_findTimes_24 rfl <|
  s_aload_n dX9_findTimes_25 rfl <|
  s_get dX9_findTimes_26 (ci := 9) (sl := 6) (Cn := RX9) (Tf := TX9) (N := 40) rfl (by decide) kiX9 kw_22_13 <|
  s_icmp_ge dX9_findTimes_29 (by decide) (s_X9_findTimes_111 h_X9_then hJ) (s_X9_findTimes_32 h_X9_then hJ)
noncomputable def b_X9_findTimes_22 (F_X9_then : KF) (J : List KC) : KC := o_push 0 <| o_istore 1 <| b_X9_findTimes_24 F_X9_then J
set_option maxRecDepth 100000 in
theorem s_X9_findTimes_22 {l : Launch} {D : va_G} {cI cS cM : ClassId} {F_X9_then : KF} (h_X9_then : k_snd l D cI cS cM yX9_then cX9_then 3 (some .int) 1 3 F_X9_then) {J : List KC} (hJ : ∀ (i pc d : Nat), ([(2, 0), (24, 0), (34, 0)] : List (Nat × Nat))[i]? = some (pc, d) → KS l D cI cS cM yX9_findTimes.cls yX9_findTimes.name cX9_findTimes 4 none (k_rm 2 0 0) false pc d (k_jmp J i)) : KS l D cI cS cM yX9_findTimes.cls yX9_findTimes.name cX9_findTimes 4 none (k_rm 2 0 0) false 22 0 (b_X9_findTimes_22 F_X9_then J) :=
  s_push1 dX9_findTimes_22 (by decide) (by decide) <|
  s_istore_n dX9_findTimes_23 rfl (by decide) <|
  s_X9_findTimes_24 h_X9_then hJ
noncomputable def b_X9_findTimes_9 (F_X9_then : KF) (J : List KC) : KC := o_aload 0 <| o_get 9 18 <| o_iload 1 <| o_push 0 <| o_iast <| o_iinc 1 1 <| k_jmp J 0
set_option maxRecDepth 100000 in
theorem s_X9_findTimes_9 {l : Launch} {D : va_G} {cI cS cM : ClassId} {F_X9_then : KF} (h_X9_then : k_snd l D cI cS cM yX9_then cX9_then 3 (some .int) 1 3 F_X9_then) {J : List KC} (hJ : ∀ (i pc d : Nat), ([(2, 0), (24, 0), (34, 0)] : List (Nat × Nat))[i]? = some (pc, d) → KS l D cI cS cM yX9_findTimes.cls yX9_findTimes.name cX9_findTimes 4 none (k_rm 2 0 0) false pc d (k_jmp J i)) : KS l D cI cS cM yX9_findTimes.cls yX9_findTimes.name cX9_findTimes 4 none (k_rm 2 0 0) false 9 0 (b_X9_findTimes_9 F_X9_then J) :=
  s_aload_n dX9_findTimes_9 rfl <|
  s_get dX9_findTimes_10 (ci := 9) (sl := 18) (Cn := RX9) (Tf := TX9) (N := 40) rfl (by decide) kiX9 kw_7_3 <|
  s_iload_n dX9_findTimes_13 rfl <|
  s_push1 dX9_findTimes_14 (by decide) (by decide) <|
  s_iast dX9_findTimes_15 <|
  s_iinc dX9_findTimes_16 (by decide) (by decide) <|
  s_goto dX9_findTimes_19 (by decide) (hJ 0 _ _ rfl)
noncomputable def b_X9_findTimes_2 (F_X9_then : KF) (J : List KC) : KC := o_iload 1 <| o_push 512 <| o_c2 s_lt (b_X9_findTimes_9 F_X9_then J) (b_X9_findTimes_22 F_X9_then J)
set_option maxRecDepth 100000 in
theorem s_X9_findTimes_2 {l : Launch} {D : va_G} {cI cS cM : ClassId} {F_X9_then : KF} (h_X9_then : k_snd l D cI cS cM yX9_then cX9_then 3 (some .int) 1 3 F_X9_then) {J : List KC} (hJ : ∀ (i pc d : Nat), ([(2, 0), (24, 0), (34, 0)] : List (Nat × Nat))[i]? = some (pc, d) → KS l D cI cS cM yX9_findTimes.cls yX9_findTimes.name cX9_findTimes 4 none (k_rm 2 0 0) false pc d (k_jmp J i)) : KS l D cI cS cM yX9_findTimes.cls yX9_findTimes.name cX9_findTimes 4 none (k_rm 2 0 0) false 2 0 (b_X9_findTimes_2 F_X9_then J) :=
  s_iload_n dX9_findTimes_2 rfl <|
  s_push3 dX9_findTimes_3 (by decide) (by decide) <|
  s_icmp_ge dX9_findTimes_6 (by decide) (s_X9_findTimes_22 h_X9_then hJ) (s_X9_findTimes_9 h_X9_then hJ)
noncomputable def b_X9_findTimes_0 (F_X9_then : KF) (J : List KC) : KC := o_push 0 <| o_istore 1 <| b_X9_findTimes_2 F_X9_then J
set_option maxRecDepth 100000 in
theorem s_X9_findTimes_0 {l : Launch} {D : va_G} {cI cS cM : ClassId} {F_X9_then : KF} (h_X9_then : k_snd l D cI cS cM yX9_then cX9_then 3 (some .int) 1 3 F_X9_then) {J : List KC} (hJ : ∀ (i pc d : Nat), ([(2, 0), (24, 0), (34, 0)] : List (Nat × Nat))[i]? = some (pc, d) → KS l D cI cS cM yX9_findTimes.cls yX9_findTimes.name cX9_findTimes 4 none (k_rm 2 0 0) false pc d (k_jmp J i)) : KS l D cI cS cM yX9_findTimes.cls yX9_findTimes.name cX9_findTimes 4 none (k_rm 2 0 0) false 0 0 (b_X9_findTimes_0 F_X9_then J) :=
  s_push1 dX9_findTimes_0 (by decide) (by decide) <|
  s_istore_n dX9_findTimes_1 rfl (by decide) <|
  s_X9_findTimes_2 h_X9_then hJ
noncomputable def j_X9_findTimes (F_X9_then : KF) (J : List KC) : List KC := [b_X9_findTimes_2 F_X9_then J, b_X9_findTimes_24 F_X9_then J, b_X9_findTimes_34 F_X9_then J]
noncomputable def m_X9_findTimes (F_X9_then : KF) (n : Nat) : KF := k_fun [k_u, k_u, k_u] (b_X9_findTimes_0 F_X9_then (k_loop (j_X9_findTimes F_X9_then) n))
theorem r_X9_findTimes {l : Launch} {D : va_G} {cI cS cM : ClassId} {F_X9_then : KF} (h_X9_then : k_snd l D cI cS cM yX9_then cX9_then 3 (some .int) 1 3 F_X9_then) (n : Nat) : k_snd l D cI cS cM yX9_findTimes cX9_findTimes 4 none 2 1 (m_X9_findTimes F_X9_then n) :=
  k_method (by decide +kernel) (by simp) rfl (s_X9_findTimes_0 h_X9_then (k_loops (hs := [(2, 0), (24, 0), (34, 0)]) (fun J hJ i pc d h => match i, h with | 0, h => by cases h; exact s_X9_findTimes_2 h_X9_then hJ | 1, h => by cases h; exact s_X9_findTimes_24 h_X9_then hJ | 2, h => by cases h; exact s_X9_findTimes_34 h_X9_then hJ | _ + 3, h => by simp at h) n))
noncomputable def b_X9_findTurns_58 (F_X9_then : KF) (J : List KC) : KC := o_ret
set_option maxRecDepth 100000 in
theorem s_X9_findTurns_58 {l : Launch} {D : va_G} {cI cS cM : ClassId} {F_X9_then : KF} (h_X9_then : k_snd l D cI cS cM yX9_then cX9_then 3 (some .int) 1 3 F_X9_then) {J : List KC} (hJ : ∀ (i pc d : Nat), ([(2, 0), (17, 0)] : List (Nat × Nat))[i]? = some (pc, d) → KS l D cI cS cM yX9_findTurns.cls yX9_findTurns.name cX9_findTurns 5 none (k_rm 2 0 0) false pc d (k_jmp J i)) : KS l D cI cS cM yX9_findTurns.cls yX9_findTurns.name cX9_findTurns 5 none (k_rm 2 0 0) false 58 0 (b_X9_findTurns_58 F_X9_then J) :=
  s_return dX9_findTurns_58 rfl
noncomputable def b_X9_findTurns_37 (F_X9_then : KF) (J : List KC) : KC := o_aload 0 <| o_get 9 11 <| o_iload 1 <| o_iload 2 <| o_iast <| o_aload 0 <| o_get 9 10 <| o_iload 1 <| o_iload 4 <| o_iast <| o_iinc 1 1 <| k_jmp J 0
set_option maxRecDepth 100000 in
theorem s_X9_findTurns_37 {l : Launch} {D : va_G} {cI cS cM : ClassId} {F_X9_then : KF} (h_X9_then : k_snd l D cI cS cM yX9_then cX9_then 3 (some .int) 1 3 F_X9_then) {J : List KC} (hJ : ∀ (i pc d : Nat), ([(2, 0), (17, 0)] : List (Nat × Nat))[i]? = some (pc, d) → KS l D cI cS cM yX9_findTurns.cls yX9_findTurns.name cX9_findTurns 5 none (k_rm 2 0 0) false pc d (k_jmp J i)) : KS l D cI cS cM yX9_findTurns.cls yX9_findTurns.name cX9_findTurns 5 none (k_rm 2 0 0) false 37 0 (b_X9_findTurns_37 F_X9_then J) :=
  s_aload_n dX9_findTurns_37 rfl <|
  s_get dX9_findTurns_38 (ci := 9) (sl := 11) (Cn := RX9) (Tf := TX9) (N := 40) rfl (by decide) kiX9 kw_7_0 <|
  s_iload_n dX9_findTurns_41 rfl <|
  s_iload_n dX9_findTurns_42 rfl <|
  s_iast dX9_findTurns_43 <|
  s_aload_n dX9_findTurns_44 rfl <|
  s_get dX9_findTurns_45 (ci := 9) (sl := 10) (Cn := RX9) (Tf := TX9) (N := 40) rfl (by decide) kiX9 kw_6_23 <|
  s_iload_n dX9_findTurns_48 rfl <|
  s_iload dX9_findTurns_49 <|
  s_iast dX9_findTurns_51 <|
  s_iinc dX9_findTurns_52 (by decide) (by decide) <|
  s_goto dX9_findTurns_55 (by decide) (hJ 0 _ _ rfl)
noncomputable def b_X9_findTurns_21 (F_X9_then : KF) (J : List KC) : KC := o_iload 3 <| o_istore 4 <| o_aload 0 <| o_iload 3 <| o_iload 1 <| o_cV1 3 9 F_X9_then <| o_istore 3 <| o_iinc 2 1 <| k_jmp J 1
set_option maxRecDepth 100000 in
theorem s_X9_findTurns_21 {l : Launch} {D : va_G} {cI cS cM : ClassId} {F_X9_then : KF} (h_X9_then : k_snd l D cI cS cM yX9_then cX9_then 3 (some .int) 1 3 F_X9_then) {J : List KC} (hJ : ∀ (i pc d : Nat), ([(2, 0), (17, 0)] : List (Nat × Nat))[i]? = some (pc, d) → KS l D cI cS cM yX9_findTurns.cls yX9_findTurns.name cX9_findTurns 5 none (k_rm 2 0 0) false pc d (k_jmp J i)) : KS l D cI cS cM yX9_findTurns.cls yX9_findTurns.name cX9_findTurns 5 none (k_rm 2 0 0) false 21 0 (b_X9_findTurns_21 F_X9_then J) :=
  s_iload_n dX9_findTurns_21 rfl <|
  s_istore dX9_findTurns_22 (by decide) <|
  s_aload_n dX9_findTurns_24 rfl <|
  s_iload_n dX9_findTurns_25 rfl <|
  s_iload_n dX9_findTurns_26 rfl <|
  s_callV1 dX9_findTurns_27 kw_23_18 kw_23_19 kw_23_20 (ci := 9) rfl ok_X9_then (by decide) (by decide) h_X9_then (by decide) <|
  s_istore_n dX9_findTurns_30 rfl (by decide) <|
  s_iinc dX9_findTurns_31 (by decide) (by decide) <|
  s_goto dX9_findTurns_34 (by decide) (hJ 1 _ _ rfl)
noncomputable def b_X9_findTurns_17 (F_X9_then : KF) (J : List KC) : KC := o_iload 3 <| o_c1 g_eq (b_X9_findTurns_37 F_X9_then J) (b_X9_findTurns_21 F_X9_then J)
set_option maxRecDepth 100000 in
theorem s_X9_findTurns_17 {l : Launch} {D : va_G} {cI cS cM : ClassId} {F_X9_then : KF} (h_X9_then : k_snd l D cI cS cM yX9_then cX9_then 3 (some .int) 1 3 F_X9_then) {J : List KC} (hJ : ∀ (i pc d : Nat), ([(2, 0), (17, 0)] : List (Nat × Nat))[i]? = some (pc, d) → KS l D cI cS cM yX9_findTurns.cls yX9_findTurns.name cX9_findTurns 5 none (k_rm 2 0 0) false pc d (k_jmp J i)) : KS l D cI cS cM yX9_findTurns.cls yX9_findTurns.name cX9_findTurns 5 none (k_rm 2 0 0) false 17 0 (b_X9_findTurns_17 F_X9_then J) :=
  s_iload_n dX9_findTurns_17 rfl <|
  s_if_eq dX9_findTurns_18 (by decide) (s_X9_findTurns_37 h_X9_then hJ) (s_X9_findTurns_21 h_X9_then hJ)
noncomputable def b_X9_findTurns_10 (F_X9_then : KF) (J : List KC) : KC := o_push 1 <| o_istore 2 <| o_iload 1 <| o_istore 3 <| o_push 0 <| o_istore 4 <| b_X9_findTurns_17 F_X9_then J
set_option maxRecDepth 100000 in
theorem s_X9_findTurns_10 {l : Launch} {D : va_G} {cI cS cM : ClassId} {F_X9_then : KF} (h_X9_then : k_snd l D cI cS cM yX9_then cX9_then 3 (some .int) 1 3 F_X9_then) {J : List KC} (hJ : ∀ (i pc d : Nat), ([(2, 0), (17, 0)] : List (Nat × Nat))[i]? = some (pc, d) → KS l D cI cS cM yX9_findTurns.cls yX9_findTurns.name cX9_findTurns 5 none (k_rm 2 0 0) false pc d (k_jmp J i)) : KS l D cI cS cM yX9_findTurns.cls yX9_findTurns.name cX9_findTurns 5 none (k_rm 2 0 0) false 10 0 (b_X9_findTurns_10 F_X9_then J) :=
  s_push1 dX9_findTurns_10 (by decide) (by decide) <|
  s_istore_n dX9_findTurns_11 rfl (by decide) <|
  s_iload_n dX9_findTurns_12 rfl <|
  s_istore_n dX9_findTurns_13 rfl (by decide) <|
  s_push1 dX9_findTurns_14 (by decide) (by decide) <|
  s_istore dX9_findTurns_15 (by decide) <|
  s_X9_findTurns_17 h_X9_then hJ
noncomputable def b_X9_findTurns_2 (F_X9_then : KF) (J : List KC) : KC := o_iload 1 <| o_aload 0 <| o_get 9 6 <| o_c2 s_lt (b_X9_findTurns_10 F_X9_then J) (b_X9_findTurns_58 F_X9_then J)
set_option maxRecDepth 100000 in
theorem s_X9_findTurns_2 {l : Launch} {D : va_G} {cI cS cM : ClassId} {F_X9_then : KF} (h_X9_then : k_snd l D cI cS cM yX9_then cX9_then 3 (some .int) 1 3 F_X9_then) {J : List KC} (hJ : ∀ (i pc d : Nat), ([(2, 0), (17, 0)] : List (Nat × Nat))[i]? = some (pc, d) → KS l D cI cS cM yX9_findTurns.cls yX9_findTurns.name cX9_findTurns 5 none (k_rm 2 0 0) false pc d (k_jmp J i)) : KS l D cI cS cM yX9_findTurns.cls yX9_findTurns.name cX9_findTurns 5 none (k_rm 2 0 0) false 2 0 (b_X9_findTurns_2 F_X9_then J) :=
  s_iload_n dX9_findTurns_2 rfl <|
  s_aload_n dX9_findTurns_3 rfl <|
  s_get dX9_findTurns_4 (ci := 9) (sl := 6) (Cn := RX9) (Tf := TX9) (N := 40) rfl (by decide) kiX9 kw_22_13 <|
  s_icmp_ge dX9_findTurns_7 (by decide) (s_X9_findTurns_58 h_X9_then hJ) (s_X9_findTurns_10 h_X9_then hJ)
noncomputable def b_X9_findTurns_0 (F_X9_then : KF) (J : List KC) : KC := o_push 0 <| o_istore 1 <| b_X9_findTurns_2 F_X9_then J
set_option maxRecDepth 100000 in
theorem s_X9_findTurns_0 {l : Launch} {D : va_G} {cI cS cM : ClassId} {F_X9_then : KF} (h_X9_then : k_snd l D cI cS cM yX9_then cX9_then 3 (some .int) 1 3 F_X9_then) {J : List KC} (hJ : ∀ (i pc d : Nat), ([(2, 0), (17, 0)] : List (Nat × Nat))[i]? = some (pc, d) → KS l D cI cS cM yX9_findTurns.cls yX9_findTurns.name cX9_findTurns 5 none (k_rm 2 0 0) false pc d (k_jmp J i)) : KS l D cI cS cM yX9_findTurns.cls yX9_findTurns.name cX9_findTurns 5 none (k_rm 2 0 0) false 0 0 (b_X9_findTurns_0 F_X9_then J) :=
  s_push1 dX9_findTurns_0 (by decide) (by decide) <|
  s_istore_n dX9_findTurns_1 rfl (by decide) <|
  s_X9_findTurns_2 h_X9_then hJ
noncomputable def j_X9_findTurns (F_X9_then : KF) (J : List KC) : List KC := [b_X9_findTurns_2 F_X9_then J, b_X9_findTurns_17 F_X9_then J]
noncomputable def m_X9_findTurns (F_X9_then : KF) (n : Nat) : KF := k_fun [k_u, k_u, k_u, k_u] (b_X9_findTurns_0 F_X9_then (k_loop (j_X9_findTurns F_X9_then) n))
theorem r_X9_findTurns {l : Launch} {D : va_G} {cI cS cM : ClassId} {F_X9_then : KF} (h_X9_then : k_snd l D cI cS cM yX9_then cX9_then 3 (some .int) 1 3 F_X9_then) (n : Nat) : k_snd l D cI cS cM yX9_findTurns cX9_findTurns 5 none 2 1 (m_X9_findTurns F_X9_then n) :=
  k_method (by decide +kernel) (by simp) rfl (s_X9_findTurns_0 h_X9_then (k_loops (hs := [(2, 0), (17, 0)]) (fun J hJ i pc d h => match i, h with | 0, h => by cases h; exact s_X9_findTurns_2 h_X9_then hJ | 1, h => by cases h; exact s_X9_findTurns_17 h_X9_then hJ | _ + 2, h => by simp at h) n))
noncomputable def b_X9_isMove_91 (F_X9_in F_X9_to : KF) (J : List KC) : KC := o_zret
set_option maxRecDepth 100000 in
theorem s_X9_isMove_91 {l : Launch} {D : va_G} {cI cS cM : ClassId} {F_X9_in F_X9_to : KF} (h_X9_in : k_snd l D cI cS cM yX9_in cX9_in 3 (some .boolean) 1 3 F_X9_in) (h_X9_to : k_snd l D cI cS cM yX9_to cX9_to 5 (some .int) 1 3 F_X9_to) {J : List KC} (hJ : ∀ (i pc d : Nat), ([(4, 0), (43, 0)] : List (Nat × Nat))[i]? = some (pc, d) → KS l D cI cS cM yX9_isMove.cls yX9_isMove.name cX9_isMove 5 (some .boolean) (k_rm 2 0 0) false pc d (k_jmp J i)) : KS l D cI cS cM yX9_isMove.cls yX9_isMove.name cX9_isMove 5 (some .boolean) (k_rm 2 0 0) false 91 1 (b_X9_isMove_91 F_X9_in F_X9_to J) :=
  s_zreturn dX9_isMove_91 rfl
noncomputable def b_X9_isMove_90 (F_X9_in F_X9_to : KF) (J : List KC) : KC := o_push 0 <| b_X9_isMove_91 F_X9_in F_X9_to J
set_option maxRecDepth 100000 in
theorem s_X9_isMove_90 {l : Launch} {D : va_G} {cI cS cM : ClassId} {F_X9_in F_X9_to : KF} (h_X9_in : k_snd l D cI cS cM yX9_in cX9_in 3 (some .boolean) 1 3 F_X9_in) (h_X9_to : k_snd l D cI cS cM yX9_to cX9_to 5 (some .int) 1 3 F_X9_to) {J : List KC} (hJ : ∀ (i pc d : Nat), ([(4, 0), (43, 0)] : List (Nat × Nat))[i]? = some (pc, d) → KS l D cI cS cM yX9_isMove.cls yX9_isMove.name cX9_isMove 5 (some .boolean) (k_rm 2 0 0) false pc d (k_jmp J i)) : KS l D cI cS cM yX9_isMove.cls yX9_isMove.name cX9_isMove 5 (some .boolean) (k_rm 2 0 0) false 90 0 (b_X9_isMove_90 F_X9_in F_X9_to J) :=
  s_push1 dX9_isMove_90 (by decide) (by decide) <|
  s_X9_isMove_91 h_X9_in h_X9_to hJ
noncomputable def b_X9_isMove_86 (F_X9_in F_X9_to : KF) (J : List KC) : KC := o_push 1 <| b_X9_isMove_91 F_X9_in F_X9_to J
set_option maxRecDepth 100000 in
theorem s_X9_isMove_86 {l : Launch} {D : va_G} {cI cS cM : ClassId} {F_X9_in F_X9_to : KF} (h_X9_in : k_snd l D cI cS cM yX9_in cX9_in 3 (some .boolean) 1 3 F_X9_in) (h_X9_to : k_snd l D cI cS cM yX9_to cX9_to 5 (some .int) 1 3 F_X9_to) {J : List KC} (hJ : ∀ (i pc d : Nat), ([(4, 0), (43, 0)] : List (Nat × Nat))[i]? = some (pc, d) → KS l D cI cS cM yX9_isMove.cls yX9_isMove.name cX9_isMove 5 (some .boolean) (k_rm 2 0 0) false pc d (k_jmp J i)) : KS l D cI cS cM yX9_isMove.cls yX9_isMove.name cX9_isMove 5 (some .boolean) (k_rm 2 0 0) false 86 0 (b_X9_isMove_86 F_X9_in F_X9_to J) :=
  s_push1 dX9_isMove_86 (by decide) (by decide) <|
  s_goto dX9_isMove_87 (by decide) (s_X9_isMove_91 h_X9_in h_X9_to hJ)
noncomputable def b_X9_isMove_72 (F_X9_in F_X9_to : KF) (J : List KC) : KC := o_iload 3 <| o_push 1 <| o_aload 0 <| o_get 9 0 <| o_push 0 <| o_iald <| o_shl <| o_push 1 <| o_bin n_sub <| o_c2 Nat.beq (b_X9_isMove_86 F_X9_in F_X9_to J) (b_X9_isMove_90 F_X9_in F_X9_to J)
set_option maxRecDepth 100000 in
theorem s_X9_isMove_72 {l : Launch} {D : va_G} {cI cS cM : ClassId} {F_X9_in F_X9_to : KF} (h_X9_in : k_snd l D cI cS cM yX9_in cX9_in 3 (some .boolean) 1 3 F_X9_in) (h_X9_to : k_snd l D cI cS cM yX9_to cX9_to 5 (some .int) 1 3 F_X9_to) {J : List KC} (hJ : ∀ (i pc d : Nat), ([(4, 0), (43, 0)] : List (Nat × Nat))[i]? = some (pc, d) → KS l D cI cS cM yX9_isMove.cls yX9_isMove.name cX9_isMove 5 (some .boolean) (k_rm 2 0 0) false pc d (k_jmp J i)) : KS l D cI cS cM yX9_isMove.cls yX9_isMove.name cX9_isMove 5 (some .boolean) (k_rm 2 0 0) false 72 0 (b_X9_isMove_72 F_X9_in F_X9_to J) :=
  s_iload_n dX9_isMove_72 rfl <|
  s_push1 dX9_isMove_73 (by decide) (by decide) <|
  s_aload_n dX9_isMove_74 rfl <|
  s_get dX9_isMove_75 (ci := 9) (sl := 0) (Cn := RX9) (Tf := TX9) (N := 40) rfl (by decide) kiX9 kw_6_16 <|
  s_push1 dX9_isMove_78 (by decide) (by decide) <|
  s_iald dX9_isMove_79 <|
  s_ishl dX9_isMove_80 <|
  s_push1 dX9_isMove_81 (by decide) (by decide) <|
  s_isub dX9_isMove_82 <|
  s_icmp_ne dX9_isMove_83 (by decide) (s_X9_isMove_90 h_X9_in h_X9_to hJ) (s_X9_isMove_86 h_X9_in h_X9_to hJ)
noncomputable def b_X9_isMove_54 (F_X9_in F_X9_to : KF) (J : List KC) : KC := o_iload 3 <| o_push 1 <| o_aload 0 <| o_iload 1 <| o_iload 4 <| o_cV1 3 9 F_X9_to <| o_shl <| o_bin n_or <| o_istore 3 <| o_iinc 4 1 <| k_jmp J 1
set_option maxRecDepth 100000 in
theorem s_X9_isMove_54 {l : Launch} {D : va_G} {cI cS cM : ClassId} {F_X9_in F_X9_to : KF} (h_X9_in : k_snd l D cI cS cM yX9_in cX9_in 3 (some .boolean) 1 3 F_X9_in) (h_X9_to : k_snd l D cI cS cM yX9_to cX9_to 5 (some .int) 1 3 F_X9_to) {J : List KC} (hJ : ∀ (i pc d : Nat), ([(4, 0), (43, 0)] : List (Nat × Nat))[i]? = some (pc, d) → KS l D cI cS cM yX9_isMove.cls yX9_isMove.name cX9_isMove 5 (some .boolean) (k_rm 2 0 0) false pc d (k_jmp J i)) : KS l D cI cS cM yX9_isMove.cls yX9_isMove.name cX9_isMove 5 (some .boolean) (k_rm 2 0 0) false 54 0 (b_X9_isMove_54 F_X9_in F_X9_to J) :=
  s_iload_n dX9_isMove_54 rfl <|
  s_push1 dX9_isMove_55 (by decide) (by decide) <|
  s_aload_n dX9_isMove_56 rfl <|
  s_iload_n dX9_isMove_57 rfl <|
  s_iload dX9_isMove_58 <|
  s_callV1 dX9_isMove_60 kw_11_10 kw_11_11 kw_11_12 (ci := 9) rfl ok_X9_to (by decide) (by decide) h_X9_to (by decide) <|
  s_ishl dX9_isMove_63 <|
  s_ior dX9_isMove_64 <|
  s_istore_n dX9_isMove_65 rfl (by decide) <|
  s_iinc dX9_isMove_66 (by decide) (by decide) <|
  s_goto dX9_isMove_69 (by decide) (hJ 1 _ _ rfl)
noncomputable def b_X9_isMove_43 (F_X9_in F_X9_to : KF) (J : List KC) : KC := o_iload 4 <| o_aload 0 <| o_get 9 0 <| o_push 0 <| o_iald <| o_c2 s_lt (b_X9_isMove_54 F_X9_in F_X9_to J) (b_X9_isMove_72 F_X9_in F_X9_to J)
set_option maxRecDepth 100000 in
theorem s_X9_isMove_43 {l : Launch} {D : va_G} {cI cS cM : ClassId} {F_X9_in F_X9_to : KF} (h_X9_in : k_snd l D cI cS cM yX9_in cX9_in 3 (some .boolean) 1 3 F_X9_in) (h_X9_to : k_snd l D cI cS cM yX9_to cX9_to 5 (some .int) 1 3 F_X9_to) {J : List KC} (hJ : ∀ (i pc d : Nat), ([(4, 0), (43, 0)] : List (Nat × Nat))[i]? = some (pc, d) → KS l D cI cS cM yX9_isMove.cls yX9_isMove.name cX9_isMove 5 (some .boolean) (k_rm 2 0 0) false pc d (k_jmp J i)) : KS l D cI cS cM yX9_isMove.cls yX9_isMove.name cX9_isMove 5 (some .boolean) (k_rm 2 0 0) false 43 0 (b_X9_isMove_43 F_X9_in F_X9_to J) :=
  s_iload dX9_isMove_43 <|
  s_aload_n dX9_isMove_45 rfl <|
  s_get dX9_isMove_46 (ci := 9) (sl := 0) (Cn := RX9) (Tf := TX9) (N := 40) rfl (by decide) kiX9 kw_6_16 <|
  s_push1 dX9_isMove_49 (by decide) (by decide) <|
  s_iald dX9_isMove_50 <|
  s_icmp_ge dX9_isMove_51 (by decide) (s_X9_isMove_72 h_X9_in h_X9_to hJ) (s_X9_isMove_54 h_X9_in h_X9_to hJ)
noncomputable def b_X9_isMove_38 (F_X9_in F_X9_to : KF) (J : List KC) : KC := o_push 0 <| o_istore 3 <| o_push 0 <| o_istore 4 <| b_X9_isMove_43 F_X9_in F_X9_to J
set_option maxRecDepth 100000 in
theorem s_X9_isMove_38 {l : Launch} {D : va_G} {cI cS cM : ClassId} {F_X9_in F_X9_to : KF} (h_X9_in : k_snd l D cI cS cM yX9_in cX9_in 3 (some .boolean) 1 3 F_X9_in) (h_X9_to : k_snd l D cI cS cM yX9_to cX9_to 5 (some .int) 1 3 F_X9_to) {J : List KC} (hJ : ∀ (i pc d : Nat), ([(4, 0), (43, 0)] : List (Nat × Nat))[i]? = some (pc, d) → KS l D cI cS cM yX9_isMove.cls yX9_isMove.name cX9_isMove 5 (some .boolean) (k_rm 2 0 0) false pc d (k_jmp J i)) : KS l D cI cS cM yX9_isMove.cls yX9_isMove.name cX9_isMove 5 (some .boolean) (k_rm 2 0 0) false 38 0 (b_X9_isMove_38 F_X9_in F_X9_to J) :=
  s_push1 dX9_isMove_38 (by decide) (by decide) <|
  s_istore_n dX9_isMove_39 rfl (by decide) <|
  s_push1 dX9_isMove_40 (by decide) (by decide) <|
  s_istore dX9_isMove_41 (by decide) <|
  s_X9_isMove_43 h_X9_in h_X9_to hJ
noncomputable def b_X9_isMove_36 (F_X9_in F_X9_to : KF) (J : List KC) : KC := o_push 0 <| o_zret
set_option maxRecDepth 100000 in
theorem s_X9_isMove_36 {l : Launch} {D : va_G} {cI cS cM : ClassId} {F_X9_in F_X9_to : KF} (h_X9_in : k_snd l D cI cS cM yX9_in cX9_in 3 (some .boolean) 1 3 F_X9_in) (h_X9_to : k_snd l D cI cS cM yX9_to cX9_to 5 (some .int) 1 3 F_X9_to) {J : List KC} (hJ : ∀ (i pc d : Nat), ([(4, 0), (43, 0)] : List (Nat × Nat))[i]? = some (pc, d) → KS l D cI cS cM yX9_isMove.cls yX9_isMove.name cX9_isMove 5 (some .boolean) (k_rm 2 0 0) false pc d (k_jmp J i)) : KS l D cI cS cM yX9_isMove.cls yX9_isMove.name cX9_isMove 5 (some .boolean) (k_rm 2 0 0) false 36 0 (b_X9_isMove_36 F_X9_in F_X9_to J) :=
  s_push1 dX9_isMove_36 (by decide) (by decide) <|
  s_zreturn dX9_isMove_37 rfl
noncomputable def b_X9_isMove_25 (F_X9_in F_X9_to : KF) (J : List KC) : KC := o_iload 1 <| o_push 0 <| o_iload 2 <| o_push 1 <| o_bin n_sub <| o_cS1 3 F_X9_in <| o_c1 g_eq (b_X9_isMove_36 F_X9_in F_X9_to J) (b_X9_isMove_38 F_X9_in F_X9_to J)
set_option maxRecDepth 100000 in
theorem s_X9_isMove_25 {l : Launch} {D : va_G} {cI cS cM : ClassId} {F_X9_in F_X9_to : KF} (h_X9_in : k_snd l D cI cS cM yX9_in cX9_in 3 (some .boolean) 1 3 F_X9_in) (h_X9_to : k_snd l D cI cS cM yX9_to cX9_to 5 (some .int) 1 3 F_X9_to) {J : List KC} (hJ : ∀ (i pc d : Nat), ([(4, 0), (43, 0)] : List (Nat × Nat))[i]? = some (pc, d) → KS l D cI cS cM yX9_isMove.cls yX9_isMove.name cX9_isMove 5 (some .boolean) (k_rm 2 0 0) false pc d (k_jmp J i)) : KS l D cI cS cM yX9_isMove.cls yX9_isMove.name cX9_isMove 5 (some .boolean) (k_rm 2 0 0) false 25 0 (b_X9_isMove_25 F_X9_in F_X9_to J) :=
  s_iload_n dX9_isMove_25 rfl <|
  s_push1 dX9_isMove_26 (by decide) (by decide) <|
  s_iload_n dX9_isMove_27 rfl <|
  s_push1 dX9_isMove_28 (by decide) (by decide) <|
  s_isub dX9_isMove_29 <|
  s_callS1 dX9_isMove_30 kw_9_18 kw_9_19 ok_X9_in (by decide) (by decide) h_X9_in (by decide) <|
  s_if_ne dX9_isMove_33 (by decide) (s_X9_isMove_38 h_X9_in h_X9_to hJ) (s_X9_isMove_36 h_X9_in h_X9_to hJ)
noncomputable def b_X9_isMove_14 (F_X9_in F_X9_to : KF) (J : List KC) : KC := o_iload 2 <| o_push 10 <| o_bin n_mul <| o_istore 2 <| o_iinc 3 1 <| k_jmp J 0
set_option maxRecDepth 100000 in
theorem s_X9_isMove_14 {l : Launch} {D : va_G} {cI cS cM : ClassId} {F_X9_in F_X9_to : KF} (h_X9_in : k_snd l D cI cS cM yX9_in cX9_in 3 (some .boolean) 1 3 F_X9_in) (h_X9_to : k_snd l D cI cS cM yX9_to cX9_to 5 (some .int) 1 3 F_X9_to) {J : List KC} (hJ : ∀ (i pc d : Nat), ([(4, 0), (43, 0)] : List (Nat × Nat))[i]? = some (pc, d) → KS l D cI cS cM yX9_isMove.cls yX9_isMove.name cX9_isMove 5 (some .boolean) (k_rm 2 0 0) false pc d (k_jmp J i)) : KS l D cI cS cM yX9_isMove.cls yX9_isMove.name cX9_isMove 5 (some .boolean) (k_rm 2 0 0) false 14 0 (b_X9_isMove_14 F_X9_in F_X9_to J) :=
  s_iload_n dX9_isMove_14 rfl <|
  s_push2 dX9_isMove_15 (by decide) (by decide) <|
  s_imul dX9_isMove_17 <|
  s_istore_n dX9_isMove_18 rfl (by decide) <|
  s_iinc dX9_isMove_19 (by decide) (by decide) <|
  s_goto dX9_isMove_22 (by decide) (hJ 0 _ _ rfl)
noncomputable def b_X9_isMove_4 (F_X9_in F_X9_to : KF) (J : List KC) : KC := o_iload 3 <| o_aload 0 <| o_get 9 0 <| o_push 0 <| o_iald <| o_c2 s_lt (b_X9_isMove_14 F_X9_in F_X9_to J) (b_X9_isMove_25 F_X9_in F_X9_to J)
set_option maxRecDepth 100000 in
theorem s_X9_isMove_4 {l : Launch} {D : va_G} {cI cS cM : ClassId} {F_X9_in F_X9_to : KF} (h_X9_in : k_snd l D cI cS cM yX9_in cX9_in 3 (some .boolean) 1 3 F_X9_in) (h_X9_to : k_snd l D cI cS cM yX9_to cX9_to 5 (some .int) 1 3 F_X9_to) {J : List KC} (hJ : ∀ (i pc d : Nat), ([(4, 0), (43, 0)] : List (Nat × Nat))[i]? = some (pc, d) → KS l D cI cS cM yX9_isMove.cls yX9_isMove.name cX9_isMove 5 (some .boolean) (k_rm 2 0 0) false pc d (k_jmp J i)) : KS l D cI cS cM yX9_isMove.cls yX9_isMove.name cX9_isMove 5 (some .boolean) (k_rm 2 0 0) false 4 0 (b_X9_isMove_4 F_X9_in F_X9_to J) :=
  s_iload_n dX9_isMove_4 rfl <|
  s_aload_n dX9_isMove_5 rfl <|
  s_get dX9_isMove_6 (ci := 9) (sl := 0) (Cn := RX9) (Tf := TX9) (N := 40) rfl (by decide) kiX9 kw_6_16 <|
  s_push1 dX9_isMove_9 (by decide) (by decide) <|
  s_iald dX9_isMove_10 <|
  s_icmp_ge dX9_isMove_11 (by decide) (s_X9_isMove_25 h_X9_in h_X9_to hJ) (s_X9_isMove_14 h_X9_in h_X9_to hJ)
noncomputable def b_X9_isMove_0 (F_X9_in F_X9_to : KF) (J : List KC) : KC := o_push 1 <| o_istore 2 <| o_push 0 <| o_istore 3 <| b_X9_isMove_4 F_X9_in F_X9_to J
set_option maxRecDepth 100000 in
theorem s_X9_isMove_0 {l : Launch} {D : va_G} {cI cS cM : ClassId} {F_X9_in F_X9_to : KF} (h_X9_in : k_snd l D cI cS cM yX9_in cX9_in 3 (some .boolean) 1 3 F_X9_in) (h_X9_to : k_snd l D cI cS cM yX9_to cX9_to 5 (some .int) 1 3 F_X9_to) {J : List KC} (hJ : ∀ (i pc d : Nat), ([(4, 0), (43, 0)] : List (Nat × Nat))[i]? = some (pc, d) → KS l D cI cS cM yX9_isMove.cls yX9_isMove.name cX9_isMove 5 (some .boolean) (k_rm 2 0 0) false pc d (k_jmp J i)) : KS l D cI cS cM yX9_isMove.cls yX9_isMove.name cX9_isMove 5 (some .boolean) (k_rm 2 0 0) false 0 0 (b_X9_isMove_0 F_X9_in F_X9_to J) :=
  s_push1 dX9_isMove_0 (by decide) (by decide) <|
  s_istore_n dX9_isMove_1 rfl (by decide) <|
  s_push1 dX9_isMove_2 (by decide) (by decide) <|
  s_istore_n dX9_isMove_3 rfl (by decide) <|
  s_X9_isMove_4 h_X9_in h_X9_to hJ
noncomputable def j_X9_isMove (F_X9_in F_X9_to : KF) (J : List KC) : List KC := [b_X9_isMove_4 F_X9_in F_X9_to J, b_X9_isMove_43 F_X9_in F_X9_to J]
noncomputable def m_X9_isMove (F_X9_in F_X9_to : KF) (n : Nat) : KF := k_fun [k_u, k_u, k_u] (b_X9_isMove_0 F_X9_in F_X9_to (k_loop (j_X9_isMove F_X9_in F_X9_to) n))
theorem r_X9_isMove {l : Launch} {D : va_G} {cI cS cM : ClassId} {F_X9_in F_X9_to : KF} (h_X9_in : k_snd l D cI cS cM yX9_in cX9_in 3 (some .boolean) 1 3 F_X9_in) (h_X9_to : k_snd l D cI cS cM yX9_to cX9_to 5 (some .int) 1 3 F_X9_to) (n : Nat) : k_snd l D cI cS cM yX9_isMove cX9_isMove 5 (some .boolean) 2 2 (m_X9_isMove F_X9_in F_X9_to n) :=
  k_method (by decide +kernel) (by simp) rfl (s_X9_isMove_0 h_X9_in h_X9_to (k_loops (hs := [(4, 0), (43, 0)]) (fun J hJ i pc d h => match i, h with | 0, h => by cases h; exact s_X9_isMove_4 h_X9_in h_X9_to hJ | 1, h => by cases h; exact s_X9_isMove_43 h_X9_in h_X9_to hJ | _ + 2, h => by simp at h) n))
noncomputable def b_X9_layGrid_136 (F_X9_over : KF) (J : List KC) : KC := o_ret
set_option maxRecDepth 100000 in
theorem s_X9_layGrid_136 {l : Launch} {D : va_G} {cI cS cM : ClassId} {F_X9_over : KF} (h_X9_over : k_snd l D cI cS cM yX9_over cX9_over 3 (some .int) 1 2 F_X9_over) {J : List KC} (hJ : ∀ (i pc d : Nat), ([(3, 0), (15, 0), (56, 0)] : List (Nat × Nat))[i]? = some (pc, d) → KS l D cI cS cM yX9_layGrid.cls yX9_layGrid.name cX9_layGrid 9 none (k_rm 2 0 0) false pc d (k_jmp J i)) : KS l D cI cS cM yX9_layGrid.cls yX9_layGrid.name cX9_layGrid 9 none (k_rm 2 0 0) false 136 0 (b_X9_layGrid_136 F_X9_over J) :=
  s_return dX9_layGrid_136 rfl
noncomputable def b_X9_layGrid_130 (F_X9_over : KF) (J : List KC) : KC := o_iinc 4 1 <| k_jmp J 0
set_option maxRecDepth 100000 in
theorem s_X9_layGrid_130 {l : Launch} {D : va_G} {cI cS cM : ClassId} {F_X9_over : KF} (h_X9_over : k_snd l D cI cS cM yX9_over cX9_over 3 (some .int) 1 2 F_X9_over) {J : List KC} (hJ : ∀ (i pc d : Nat), ([(3, 0), (15, 0), (56, 0)] : List (Nat × Nat))[i]? = some (pc, d) → KS l D cI cS cM yX9_layGrid.cls yX9_layGrid.name cX9_layGrid 9 none (k_rm 2 0 0) false pc d (k_jmp J i)) : KS l D cI cS cM yX9_layGrid.cls yX9_layGrid.name cX9_layGrid 9 none (k_rm 2 0 0) false 130 0 (b_X9_layGrid_130 F_X9_over J) :=
  s_iinc dX9_layGrid_130 (by decide) (by decide) <|
  s_goto dX9_layGrid_133 (by decide) (hJ 0 _ _ rfl)
noncomputable def b_X9_layGrid_105 (F_X9_over : KF) (J : List KC) : KC := o_aload 0 <| o_get 9 25 <| o_push 8 <| o_iload 4 <| o_bin n_mul <| o_iload 5 <| o_bin n_add <| o_aload 0 <| o_iload 7 <| o_cV1 2 9 F_X9_over <| o_iast <| o_iinc 5 1 <| k_jmp J 1
set_option maxRecDepth 100000 in
theorem s_X9_layGrid_105 {l : Launch} {D : va_G} {cI cS cM : ClassId} {F_X9_over : KF} (h_X9_over : k_snd l D cI cS cM yX9_over cX9_over 3 (some .int) 1 2 F_X9_over) {J : List KC} (hJ : ∀ (i pc d : Nat), ([(3, 0), (15, 0), (56, 0)] : List (Nat × Nat))[i]? = some (pc, d) → KS l D cI cS cM yX9_layGrid.cls yX9_layGrid.name cX9_layGrid 9 none (k_rm 2 0 0) false pc d (k_jmp J i)) : KS l D cI cS cM yX9_layGrid.cls yX9_layGrid.name cX9_layGrid 9 none (k_rm 2 0 0) false 105 0 (b_X9_layGrid_105 F_X9_over J) :=
  s_aload_n dX9_layGrid_105 rfl <|
  s_get dX9_layGrid_106 (ci := 9) (sl := 25) (Cn := RX9) (Tf := TX9) (N := 40) rfl (by decide) kiX9 kw_7_8 <|
  s_push2 dX9_layGrid_109 (by decide) (by decide) <|
  s_iload dX9_layGrid_111 <|
  s_imul dX9_layGrid_113 <|
  s_iload dX9_layGrid_114 <|
  s_iadd dX9_layGrid_116 <|
  s_aload_n dX9_layGrid_117 rfl <|
  s_iload dX9_layGrid_118 <|
  s_callV1 dX9_layGrid_120 kw_25_14 kw_25_15 kw_25_16 (ci := 9) rfl ok_X9_over (by decide) (by decide) h_X9_over (by decide) <|
  s_iast dX9_layGrid_123 <|
  s_iinc dX9_layGrid_124 (by decide) (by decide) <|
  s_goto dX9_layGrid_127 (by decide) (hJ 1 _ _ rfl)
noncomputable def b_X9_layGrid_65 (F_X9_over : KF) (J : List KC) : KC := o_iload 7 <| o_aload 0 <| o_get 9 18 <| o_push 64 <| o_iload 2 <| o_bin n_mul <| o_push 8 <| o_iload 4 <| o_bin n_mul <| o_bin n_add <| o_iload 8 <| o_bin n_add <| o_iald <| o_aload 0 <| o_get 9 21 <| o_iload 6 <| o_iload 8 <| o_bin n_add <| o_iald <| o_bin n_mul <| o_bin n_add <| o_istore 7 <| o_iinc 8 1 <| k_jmp J 2
set_option maxRecDepth 100000 in
theorem s_X9_layGrid_65 {l : Launch} {D : va_G} {cI cS cM : ClassId} {F_X9_over : KF} (h_X9_over : k_snd l D cI cS cM yX9_over cX9_over 3 (some .int) 1 2 F_X9_over) {J : List KC} (hJ : ∀ (i pc d : Nat), ([(3, 0), (15, 0), (56, 0)] : List (Nat × Nat))[i]? = some (pc, d) → KS l D cI cS cM yX9_layGrid.cls yX9_layGrid.name cX9_layGrid 9 none (k_rm 2 0 0) false pc d (k_jmp J i)) : KS l D cI cS cM yX9_layGrid.cls yX9_layGrid.name cX9_layGrid 9 none (k_rm 2 0 0) false 65 0 (b_X9_layGrid_65 F_X9_over J) :=
  s_iload dX9_layGrid_65 <|
  s_aload_n dX9_layGrid_67 rfl <|
  s_get dX9_layGrid_68 (ci := 9) (sl := 18) (Cn := RX9) (Tf := TX9) (N := 40) rfl (by decide) kiX9 kw_7_3 <|
  s_push2 dX9_layGrid_71 (by decide) (by decide) <|
  s_iload_n dX9_layGrid_73 rfl <|
  s_imul dX9_layGrid_74 <|
  s_push2 dX9_layGrid_75 (by decide) (by decide) <|
  s_iload dX9_layGrid_77 <|
  s_imul dX9_layGrid_79 <|
  s_iadd dX9_layGrid_80 <|
  s_iload dX9_layGrid_81 <|
  s_iadd dX9_layGrid_83 <|
  s_iald dX9_layGrid_84 <|
  s_aload_n dX9_layGrid_85 rfl <|
  s_get dX9_layGrid_86 (ci := 9) (sl := 21) (Cn := RX9) (Tf := TX9) (N := 40) rfl (by decide) kiX9 kw_7_5 <|
  s_iload dX9_layGrid_89 <|
  s_iload dX9_layGrid_91 <|
  s_iadd dX9_layGrid_93 <|
  s_iald dX9_layGrid_94 <|
  s_imul dX9_layGrid_95 <|
  s_iadd dX9_layGrid_96 <|
  s_istore dX9_layGrid_97 (by decide) <|
  s_iinc dX9_layGrid_99 (by decide) (by decide) <|
  s_goto dX9_layGrid_102 (by decide) (hJ 2 _ _ rfl)
noncomputable def b_X9_layGrid_56 (F_X9_over : KF) (J : List KC) : KC := o_iload 8 <| o_aload 0 <| o_get 9 12 <| o_c2 s_lt (b_X9_layGrid_65 F_X9_over J) (b_X9_layGrid_105 F_X9_over J)
set_option maxRecDepth 100000 in
theorem s_X9_layGrid_56 {l : Launch} {D : va_G} {cI cS cM : ClassId} {F_X9_over : KF} (h_X9_over : k_snd l D cI cS cM yX9_over cX9_over 3 (some .int) 1 2 F_X9_over) {J : List KC} (hJ : ∀ (i pc d : Nat), ([(3, 0), (15, 0), (56, 0)] : List (Nat × Nat))[i]? = some (pc, d) → KS l D cI cS cM yX9_layGrid.cls yX9_layGrid.name cX9_layGrid 9 none (k_rm 2 0 0) false pc d (k_jmp J i)) : KS l D cI cS cM yX9_layGrid.cls yX9_layGrid.name cX9_layGrid 9 none (k_rm 2 0 0) false 56 0 (b_X9_layGrid_56 F_X9_over J) :=
  s_iload dX9_layGrid_56 <|
  s_aload_n dX9_layGrid_58 rfl <|
  s_get dX9_layGrid_59 (ci := 9) (sl := 12) (Cn := RX9) (Tf := TX9) (N := 40) rfl (by decide) kiX9 kw_22_14 <|
  s_icmp_ge dX9_layGrid_62 (by decide) (s_X9_layGrid_105 h_X9_over hJ) (s_X9_layGrid_65 h_X9_over hJ)
noncomputable def b_X9_layGrid_26 (F_X9_over : KF) (J : List KC) : KC := o_push 64 <| o_iload 1 <| o_bin n_mul <| o_push 8 <| o_iload 5 <| o_bin n_mul <| o_bin n_add <| o_istore 6 <| o_iload 3 <| o_neg <| o_aload 0 <| o_get 9 21 <| o_iload 6 <| o_iload 4 <| o_bin n_add <| o_iald <| o_bin n_mul <| o_istore 7 <| o_push 0 <| o_istore 8 <| b_X9_layGrid_56 F_X9_over J
set_option maxRecDepth 100000 in
theorem s_X9_layGrid_26 {l : Launch} {D : va_G} {cI cS cM : ClassId} {F_X9_over : KF} (h_X9_over : k_snd l D cI cS cM yX9_over cX9_over 3 (some .int) 1 2 F_X9_over) {J : List KC} (hJ : ∀ (i pc d : Nat), ([(3, 0), (15, 0), (56, 0)] : List (Nat × Nat))[i]? = some (pc, d) → KS l D cI cS cM yX9_layGrid.cls yX9_layGrid.name cX9_layGrid 9 none (k_rm 2 0 0) false pc d (k_jmp J i)) : KS l D cI cS cM yX9_layGrid.cls yX9_layGrid.name cX9_layGrid 9 none (k_rm 2 0 0) false 26 0 (b_X9_layGrid_26 F_X9_over J) :=
  s_push2 dX9_layGrid_26 (by decide) (by decide) <|
  s_iload_n dX9_layGrid_28 rfl <|
  s_imul dX9_layGrid_29 <|
  s_push2 dX9_layGrid_30 (by decide) (by decide) <|
  s_iload dX9_layGrid_32 <|
  s_imul dX9_layGrid_34 <|
  s_iadd dX9_layGrid_35 <|
  s_istore dX9_layGrid_36 (by decide) <|
  s_iload_n dX9_layGrid_38 rfl <|
  s_ineg dX9_layGrid_39 <|
  s_aload_n dX9_layGrid_40 rfl <|
  s_get dX9_layGrid_41 (ci := 9) (sl := 21) (Cn := RX9) (Tf := TX9) (N := 40) rfl (by decide) kiX9 kw_7_5 <|
  s_iload dX9_layGrid_44 <|
  s_iload dX9_layGrid_46 <|
  s_iadd dX9_layGrid_48 <|
  s_iald dX9_layGrid_49 <|
  s_imul dX9_layGrid_50 <|
  s_istore dX9_layGrid_51 (by decide) <|
  s_push1 dX9_layGrid_53 (by decide) (by decide) <|
  s_istore dX9_layGrid_54 (by decide) <|
  s_X9_layGrid_56 h_X9_over hJ
noncomputable def b_X9_layGrid_15 (F_X9_over : KF) (J : List KC) : KC := o_iload 5 <| o_aload 0 <| o_get 9 20 <| o_iload 1 <| o_iald <| o_c2 s_lt (b_X9_layGrid_26 F_X9_over J) (b_X9_layGrid_130 F_X9_over J)
set_option maxRecDepth 100000 in
theorem s_X9_layGrid_15 {l : Launch} {D : va_G} {cI cS cM : ClassId} {F_X9_over : KF} (h_X9_over : k_snd l D cI cS cM yX9_over cX9_over 3 (some .int) 1 2 F_X9_over) {J : List KC} (hJ : ∀ (i pc d : Nat), ([(3, 0), (15, 0), (56, 0)] : List (Nat × Nat))[i]? = some (pc, d) → KS l D cI cS cM yX9_layGrid.cls yX9_layGrid.name cX9_layGrid 9 none (k_rm 2 0 0) false pc d (k_jmp J i)) : KS l D cI cS cM yX9_layGrid.cls yX9_layGrid.name cX9_layGrid 9 none (k_rm 2 0 0) false 15 0 (b_X9_layGrid_15 F_X9_over J) :=
  s_iload dX9_layGrid_15 <|
  s_aload_n dX9_layGrid_17 rfl <|
  s_get dX9_layGrid_18 (ci := 9) (sl := 20) (Cn := RX9) (Tf := TX9) (N := 40) rfl (by decide) kiX9 kw_7_4 <|
  s_iload_n dX9_layGrid_21 rfl <|
  s_iald dX9_layGrid_22 <|
  s_icmp_ge dX9_layGrid_23 (by decide) (s_X9_layGrid_130 h_X9_over hJ) (s_X9_layGrid_26 h_X9_over hJ)
noncomputable def b_X9_layGrid_12 (F_X9_over : KF) (J : List KC) : KC := o_push 0 <| o_istore 5 <| b_X9_layGrid_15 F_X9_over J
set_option maxRecDepth 100000 in
theorem s_X9_layGrid_12 {l : Launch} {D : va_G} {cI cS cM : ClassId} {F_X9_over : KF} (h_X9_over : k_snd l D cI cS cM yX9_over cX9_over 3 (some .int) 1 2 F_X9_over) {J : List KC} (hJ : ∀ (i pc d : Nat), ([(3, 0), (15, 0), (56, 0)] : List (Nat × Nat))[i]? = some (pc, d) → KS l D cI cS cM yX9_layGrid.cls yX9_layGrid.name cX9_layGrid 9 none (k_rm 2 0 0) false pc d (k_jmp J i)) : KS l D cI cS cM yX9_layGrid.cls yX9_layGrid.name cX9_layGrid 9 none (k_rm 2 0 0) false 12 0 (b_X9_layGrid_12 F_X9_over J) :=
  s_push1 dX9_layGrid_12 (by decide) (by decide) <|
  s_istore dX9_layGrid_13 (by decide) <|
  s_X9_layGrid_15 h_X9_over hJ
noncomputable def b_X9_layGrid_3 (F_X9_over : KF) (J : List KC) : KC := o_iload 4 <| o_aload 0 <| o_get 9 12 <| o_c2 s_lt (b_X9_layGrid_12 F_X9_over J) (b_X9_layGrid_136 F_X9_over J)
set_option maxRecDepth 100000 in
theorem s_X9_layGrid_3 {l : Launch} {D : va_G} {cI cS cM : ClassId} {F_X9_over : KF} (h_X9_over : k_snd l D cI cS cM yX9_over cX9_over 3 (some .int) 1 2 F_X9_over) {J : List KC} (hJ : ∀ (i pc d : Nat), ([(3, 0), (15, 0), (56, 0)] : List (Nat × Nat))[i]? = some (pc, d) → KS l D cI cS cM yX9_layGrid.cls yX9_layGrid.name cX9_layGrid 9 none (k_rm 2 0 0) false pc d (k_jmp J i)) : KS l D cI cS cM yX9_layGrid.cls yX9_layGrid.name cX9_layGrid 9 none (k_rm 2 0 0) false 3 0 (b_X9_layGrid_3 F_X9_over J) :=
  s_iload dX9_layGrid_3 <|
  s_aload_n dX9_layGrid_5 rfl <|
  s_get dX9_layGrid_6 (ci := 9) (sl := 12) (Cn := RX9) (Tf := TX9) (N := 40) rfl (by decide) kiX9 kw_22_14 <|
  s_icmp_ge dX9_layGrid_9 (by decide) (s_X9_layGrid_136 h_X9_over hJ) (s_X9_layGrid_12 h_X9_over hJ)
noncomputable def b_X9_layGrid_0 (F_X9_over : KF) (J : List KC) : KC := o_push 0 <| o_istore 4 <| b_X9_layGrid_3 F_X9_over J
set_option maxRecDepth 100000 in
theorem s_X9_layGrid_0 {l : Launch} {D : va_G} {cI cS cM : ClassId} {F_X9_over : KF} (h_X9_over : k_snd l D cI cS cM yX9_over cX9_over 3 (some .int) 1 2 F_X9_over) {J : List KC} (hJ : ∀ (i pc d : Nat), ([(3, 0), (15, 0), (56, 0)] : List (Nat × Nat))[i]? = some (pc, d) → KS l D cI cS cM yX9_layGrid.cls yX9_layGrid.name cX9_layGrid 9 none (k_rm 2 0 0) false pc d (k_jmp J i)) : KS l D cI cS cM yX9_layGrid.cls yX9_layGrid.name cX9_layGrid 9 none (k_rm 2 0 0) false 0 0 (b_X9_layGrid_0 F_X9_over J) :=
  s_push1 dX9_layGrid_0 (by decide) (by decide) <|
  s_istore dX9_layGrid_1 (by decide) <|
  s_X9_layGrid_3 h_X9_over hJ
noncomputable def j_X9_layGrid (F_X9_over : KF) (J : List KC) : List KC := [b_X9_layGrid_3 F_X9_over J, b_X9_layGrid_15 F_X9_over J, b_X9_layGrid_56 F_X9_over J]
noncomputable def m_X9_layGrid (F_X9_over : KF) (n : Nat) : KF := k_fun [k_u, k_u, k_u, k_u, k_u] (b_X9_layGrid_0 F_X9_over (k_loop (j_X9_layGrid F_X9_over) n))
theorem r_X9_layGrid {l : Launch} {D : va_G} {cI cS cM : ClassId} {F_X9_over : KF} (h_X9_over : k_snd l D cI cS cM yX9_over cX9_over 3 (some .int) 1 2 F_X9_over) (n : Nat) : k_snd l D cI cS cM yX9_layGrid cX9_layGrid 9 none 2 4 (m_X9_layGrid F_X9_over n) :=
  k_method (by decide +kernel) (by simp) rfl (s_X9_layGrid_0 h_X9_over (k_loops (hs := [(3, 0), (15, 0), (56, 0)]) (fun J hJ i pc d h => match i, h with | 0, h => by cases h; exact s_X9_layGrid_3 h_X9_over hJ | 1, h => by cases h; exact s_X9_layGrid_15 h_X9_over hJ | 2, h => by cases h; exact s_X9_layGrid_56 h_X9_over hJ | _ + 3, h => by simp at h) n))
noncomputable def b_X9_left_48 (F_X9_to : KF) (J : List KC) : KC := o_iload 2 <| o_iret
set_option maxRecDepth 100000 in
theorem s_X9_left_48 {l : Launch} {D : va_G} {cI cS cM : ClassId} {F_X9_to : KF} (h_X9_to : k_snd l D cI cS cM yX9_to cX9_to 5 (some .int) 1 3 F_X9_to) {J : List KC} (hJ : ∀ (i pc d : Nat), ([(4, 0)] : List (Nat × Nat))[i]? = some (pc, d) → KS l D cI cS cM yX9_left.cls yX9_left.name cX9_left 4 (some .int) (k_rm 2 0 0) false pc d (k_jmp J i)) : KS l D cI cS cM yX9_left.cls yX9_left.name cX9_left 4 (some .int) (k_rm 2 0 0) false 48 0 (b_X9_left_48 F_X9_to J) :=
  s_iload_n dX9_left_48 rfl <|
  s_ireturn dX9_left_49 rfl
noncomputable def b_X9_left_40 (F_X9_to : KF) (J : List KC) : KC := o_bin n_add <| o_istore 2 <| o_iinc 3 1 <| k_jmp J 0
set_option maxRecDepth 100000 in
theorem s_X9_left_40 {l : Launch} {D : va_G} {cI cS cM : ClassId} {F_X9_to : KF} (h_X9_to : k_snd l D cI cS cM yX9_to cX9_to 5 (some .int) 1 3 F_X9_to) {J : List KC} (hJ : ∀ (i pc d : Nat), ([(4, 0)] : List (Nat × Nat))[i]? = some (pc, d) → KS l D cI cS cM yX9_left.cls yX9_left.name cX9_left 4 (some .int) (k_rm 2 0 0) false pc d (k_jmp J i)) : KS l D cI cS cM yX9_left.cls yX9_left.name cX9_left 4 (some .int) (k_rm 2 0 0) false 40 2 (b_X9_left_40 F_X9_to J) :=
  s_iadd dX9_left_40 <|
  s_istore_n dX9_left_41 rfl (by decide) <|
  s_iinc dX9_left_42 (by decide) (by decide) <|
  s_goto dX9_left_45 (by decide) (hJ 0 _ _ rfl)
noncomputable def b_X9_left_39 (F_X9_to : KF) (J : List KC) : KC := o_push 0 <| b_X9_left_40 F_X9_to J
set_option maxRecDepth 100000 in
theorem s_X9_left_39 {l : Launch} {D : va_G} {cI cS cM : ClassId} {F_X9_to : KF} (h_X9_to : k_snd l D cI cS cM yX9_to cX9_to 5 (some .int) 1 3 F_X9_to) {J : List KC} (hJ : ∀ (i pc d : Nat), ([(4, 0)] : List (Nat × Nat))[i]? = some (pc, d) → KS l D cI cS cM yX9_left.cls yX9_left.name cX9_left 4 (some .int) (k_rm 2 0 0) false pc d (k_jmp J i)) : KS l D cI cS cM yX9_left.cls yX9_left.name cX9_left 4 (some .int) (k_rm 2 0 0) false 39 1 (b_X9_left_39 F_X9_to J) :=
  s_push1 dX9_left_39 (by decide) (by decide) <|
  s_X9_left_40 h_X9_to hJ
noncomputable def b_X9_left_35 (F_X9_to : KF) (J : List KC) : KC := o_push 1 <| b_X9_left_40 F_X9_to J
set_option maxRecDepth 100000 in
theorem s_X9_left_35 {l : Launch} {D : va_G} {cI cS cM : ClassId} {F_X9_to : KF} (h_X9_to : k_snd l D cI cS cM yX9_to cX9_to 5 (some .int) 1 3 F_X9_to) {J : List KC} (hJ : ∀ (i pc d : Nat), ([(4, 0)] : List (Nat × Nat))[i]? = some (pc, d) → KS l D cI cS cM yX9_left.cls yX9_left.name cX9_left 4 (some .int) (k_rm 2 0 0) false pc d (k_jmp J i)) : KS l D cI cS cM yX9_left.cls yX9_left.name cX9_left 4 (some .int) (k_rm 2 0 0) false 35 1 (b_X9_left_35 F_X9_to J) :=
  s_push1 dX9_left_35 (by decide) (by decide) <|
  s_goto dX9_left_36 (by decide) (s_X9_left_40 h_X9_to hJ)
noncomputable def b_X9_left_14 (F_X9_to : KF) (J : List KC) : KC := o_iload 2 <| o_aload 0 <| o_aload 0 <| o_get 9 7 <| o_aload 0 <| o_get 9 14 <| o_iload 1 <| o_iald <| o_iald <| o_iload 3 <| o_cV1 3 9 F_X9_to <| o_iload 3 <| o_c2 Nat.beq (b_X9_left_35 F_X9_to J) (b_X9_left_39 F_X9_to J)
set_option maxRecDepth 100000 in
theorem s_X9_left_14 {l : Launch} {D : va_G} {cI cS cM : ClassId} {F_X9_to : KF} (h_X9_to : k_snd l D cI cS cM yX9_to cX9_to 5 (some .int) 1 3 F_X9_to) {J : List KC} (hJ : ∀ (i pc d : Nat), ([(4, 0)] : List (Nat × Nat))[i]? = some (pc, d) → KS l D cI cS cM yX9_left.cls yX9_left.name cX9_left 4 (some .int) (k_rm 2 0 0) false pc d (k_jmp J i)) : KS l D cI cS cM yX9_left.cls yX9_left.name cX9_left 4 (some .int) (k_rm 2 0 0) false 14 0 (b_X9_left_14 F_X9_to J) :=
  s_iload_n dX9_left_14 rfl <|
  s_aload_n dX9_left_15 rfl <|
  s_aload_n dX9_left_16 rfl <|
  s_get dX9_left_17 (ci := 9) (sl := 7) (Cn := RX9) (Tf := TX9) (N := 40) rfl (by decide) kiX9 kw_6_20 <|
  s_aload_n dX9_left_20 rfl <|
  s_get dX9_left_21 (ci := 9) (sl := 14) (Cn := RX9) (Tf := TX9) (N := 40) rfl (by decide) kiX9 kw_7_2 <|
  s_iload_n dX9_left_24 rfl <|
  s_iald dX9_left_25 <|
  s_iald dX9_left_26 <|
  s_iload_n dX9_left_27 rfl <|
  s_callV1 dX9_left_28 kw_11_10 kw_11_11 kw_11_12 (ci := 9) rfl ok_X9_to (by decide) (by decide) h_X9_to (by decide) <|
  s_iload_n dX9_left_31 rfl <|
  s_icmp_ne dX9_left_32 (by decide) (s_X9_left_39 h_X9_to hJ) (s_X9_left_35 h_X9_to hJ)
noncomputable def b_X9_left_4 (F_X9_to : KF) (J : List KC) : KC := o_iload 3 <| o_aload 0 <| o_get 9 0 <| o_push 0 <| o_iald <| o_c2 s_lt (b_X9_left_14 F_X9_to J) (b_X9_left_48 F_X9_to J)
set_option maxRecDepth 100000 in
theorem s_X9_left_4 {l : Launch} {D : va_G} {cI cS cM : ClassId} {F_X9_to : KF} (h_X9_to : k_snd l D cI cS cM yX9_to cX9_to 5 (some .int) 1 3 F_X9_to) {J : List KC} (hJ : ∀ (i pc d : Nat), ([(4, 0)] : List (Nat × Nat))[i]? = some (pc, d) → KS l D cI cS cM yX9_left.cls yX9_left.name cX9_left 4 (some .int) (k_rm 2 0 0) false pc d (k_jmp J i)) : KS l D cI cS cM yX9_left.cls yX9_left.name cX9_left 4 (some .int) (k_rm 2 0 0) false 4 0 (b_X9_left_4 F_X9_to J) :=
  s_iload_n dX9_left_4 rfl <|
  s_aload_n dX9_left_5 rfl <|
  s_get dX9_left_6 (ci := 9) (sl := 0) (Cn := RX9) (Tf := TX9) (N := 40) rfl (by decide) kiX9 kw_6_16 <|
  s_push1 dX9_left_9 (by decide) (by decide) <|
  s_iald dX9_left_10 <|
  s_icmp_ge dX9_left_11 (by decide) (s_X9_left_48 h_X9_to hJ) (s_X9_left_14 h_X9_to hJ)
noncomputable def b_X9_left_0 (F_X9_to : KF) (J : List KC) : KC := o_push 0 <| o_istore 2 <| o_push 0 <| o_istore 3 <| b_X9_left_4 F_X9_to J
set_option maxRecDepth 100000 in
theorem s_X9_left_0 {l : Launch} {D : va_G} {cI cS cM : ClassId} {F_X9_to : KF} (h_X9_to : k_snd l D cI cS cM yX9_to cX9_to 5 (some .int) 1 3 F_X9_to) {J : List KC} (hJ : ∀ (i pc d : Nat), ([(4, 0)] : List (Nat × Nat))[i]? = some (pc, d) → KS l D cI cS cM yX9_left.cls yX9_left.name cX9_left 4 (some .int) (k_rm 2 0 0) false pc d (k_jmp J i)) : KS l D cI cS cM yX9_left.cls yX9_left.name cX9_left 4 (some .int) (k_rm 2 0 0) false 0 0 (b_X9_left_0 F_X9_to J) :=
  s_push1 dX9_left_0 (by decide) (by decide) <|
  s_istore_n dX9_left_1 rfl (by decide) <|
  s_push1 dX9_left_2 (by decide) (by decide) <|
  s_istore_n dX9_left_3 rfl (by decide) <|
  s_X9_left_4 h_X9_to hJ
noncomputable def j_X9_left (F_X9_to : KF) (J : List KC) : List KC := [b_X9_left_4 F_X9_to J]
noncomputable def m_X9_left (F_X9_to : KF) (n : Nat) : KF := k_fun [k_u, k_u] (b_X9_left_0 F_X9_to (k_loop (j_X9_left F_X9_to) n))
theorem r_X9_left {l : Launch} {D : va_G} {cI cS cM : ClassId} {F_X9_to : KF} (h_X9_to : k_snd l D cI cS cM yX9_to cX9_to 5 (some .int) 1 3 F_X9_to) (n : Nat) : k_snd l D cI cS cM yX9_left cX9_left 4 (some .int) 2 2 (m_X9_left F_X9_to n) :=
  k_method (by decide +kernel) (by simp) rfl (s_X9_left_0 h_X9_to (k_loops (hs := [(4, 0)]) (fun J hJ i pc d h => match i, h with | 0, h => by cases h; exact s_X9_left_4 h_X9_to hJ | _ + 1, h => by simp at h) n))
noncomputable def b_X9_readMove_97 (F_X9_here F_X9_in F_X9_has F_X9_must : KF) (J : List KC) : KC := o_iload 2 <| o_iret
set_option maxRecDepth 100000 in
theorem s_X9_readMove_97 {l : Launch} {D : va_G} {cI cS cM : ClassId} {F_X9_here F_X9_in F_X9_has F_X9_must : KF} (h_X9_here : k_snd l D cI cS cM yX9_here cX9_here 1 (some .int) 1 1 F_X9_here) (h_X9_in : k_snd l D cI cS cM yX9_in cX9_in 3 (some .boolean) 1 3 F_X9_in) (h_X9_has : k_snd l D cI cS cM yX9_has cX9_has 2 (some .boolean) 1 2 F_X9_has) (h_X9_must : k_snd l D cI cS cM yX9_must cX9_must 2 none 1 2 F_X9_must) {J : List KC} (hJ : ∀ (i pc d : Nat), ([(6, 0)] : List (Nat × Nat))[i]? = some (pc, d) → KS l D cI cS cM yX9_readMove.cls yX9_readMove.name cX9_readMove 5 (some .int) (k_rm 2 0 0) false pc d (k_jmp J i)) : KS l D cI cS cM yX9_readMove.cls yX9_readMove.name cX9_readMove 5 (some .int) (k_rm 2 0 0) false 97 0 (b_X9_readMove_97 F_X9_here F_X9_in F_X9_has F_X9_must J) :=
  s_iload_n dX9_readMove_97 rfl <|
  s_ireturn dX9_readMove_98 rfl
noncomputable def b_X9_readMove_81 (F_X9_here F_X9_in F_X9_has F_X9_must : KF) (J : List KC) : KC := o_bin n_or <| o_istore 1 <| o_push 10 <| o_iload 2 <| o_bin n_mul <| o_iload 4 <| o_bin n_add <| o_istore 2 <| o_iinc 3 1 <| k_jmp J 0
set_option maxRecDepth 100000 in
theorem s_X9_readMove_81 {l : Launch} {D : va_G} {cI cS cM : ClassId} {F_X9_here F_X9_in F_X9_has F_X9_must : KF} (h_X9_here : k_snd l D cI cS cM yX9_here cX9_here 1 (some .int) 1 1 F_X9_here) (h_X9_in : k_snd l D cI cS cM yX9_in cX9_in 3 (some .boolean) 1 3 F_X9_in) (h_X9_has : k_snd l D cI cS cM yX9_has cX9_has 2 (some .boolean) 1 2 F_X9_has) (h_X9_must : k_snd l D cI cS cM yX9_must cX9_must 2 none 1 2 F_X9_must) {J : List KC} (hJ : ∀ (i pc d : Nat), ([(6, 0)] : List (Nat × Nat))[i]? = some (pc, d) → KS l D cI cS cM yX9_readMove.cls yX9_readMove.name cX9_readMove 5 (some .int) (k_rm 2 0 0) false pc d (k_jmp J i)) : KS l D cI cS cM yX9_readMove.cls yX9_readMove.name cX9_readMove 5 (some .int) (k_rm 2 0 0) false 81 2 (b_X9_readMove_81 F_X9_here F_X9_in F_X9_has F_X9_must J) :=
  s_ior dX9_readMove_81 <|
  s_istore_n dX9_readMove_82 rfl (by decide) <|
  s_push2 dX9_readMove_83 (by decide) (by decide) <|
  s_iload_n dX9_readMove_85 rfl <|
  s_imul dX9_readMove_86 <|
  s_iload dX9_readMove_87 <|
  s_iadd dX9_readMove_89 <|
  s_istore_n dX9_readMove_90 rfl (by decide) <|
  s_iinc dX9_readMove_91 (by decide) (by decide) <|
  s_goto dX9_readMove_94 (by decide) (hJ 0 _ _ rfl)
noncomputable def b_X9_readMove_80 (F_X9_here F_X9_in F_X9_has F_X9_must : KF) (J : List KC) : KC := o_push 0 <| b_X9_readMove_81 F_X9_here F_X9_in F_X9_has F_X9_must J
set_option maxRecDepth 100000 in
theorem s_X9_readMove_80 {l : Launch} {D : va_G} {cI cS cM : ClassId} {F_X9_here F_X9_in F_X9_has F_X9_must : KF} (h_X9_here : k_snd l D cI cS cM yX9_here cX9_here 1 (some .int) 1 1 F_X9_here) (h_X9_in : k_snd l D cI cS cM yX9_in cX9_in 3 (some .boolean) 1 3 F_X9_in) (h_X9_has : k_snd l D cI cS cM yX9_has cX9_has 2 (some .boolean) 1 2 F_X9_has) (h_X9_must : k_snd l D cI cS cM yX9_must cX9_must 2 none 1 2 F_X9_must) {J : List KC} (hJ : ∀ (i pc d : Nat), ([(6, 0)] : List (Nat × Nat))[i]? = some (pc, d) → KS l D cI cS cM yX9_readMove.cls yX9_readMove.name cX9_readMove 5 (some .int) (k_rm 2 0 0) false pc d (k_jmp J i)) : KS l D cI cS cM yX9_readMove.cls yX9_readMove.name cX9_readMove 5 (some .int) (k_rm 2 0 0) false 80 1 (b_X9_readMove_80 F_X9_here F_X9_in F_X9_has F_X9_must J) :=
  s_push1 dX9_readMove_80 (by decide) (by decide) <|
  s_X9_readMove_81 h_X9_here h_X9_in h_X9_has h_X9_must hJ
noncomputable def b_X9_readMove_73 (F_X9_here F_X9_in F_X9_has F_X9_must : KF) (J : List KC) : KC := o_push 1 <| o_iload 4 <| o_shl <| b_X9_readMove_81 F_X9_here F_X9_in F_X9_has F_X9_must J
set_option maxRecDepth 100000 in
theorem s_X9_readMove_73 {l : Launch} {D : va_G} {cI cS cM : ClassId} {F_X9_here F_X9_in F_X9_has F_X9_must : KF} (h_X9_here : k_snd l D cI cS cM yX9_here cX9_here 1 (some .int) 1 1 F_X9_here) (h_X9_in : k_snd l D cI cS cM yX9_in cX9_in 3 (some .boolean) 1 3 F_X9_in) (h_X9_has : k_snd l D cI cS cM yX9_has cX9_has 2 (some .boolean) 1 2 F_X9_has) (h_X9_must : k_snd l D cI cS cM yX9_must cX9_must 2 none 1 2 F_X9_must) {J : List KC} (hJ : ∀ (i pc d : Nat), ([(6, 0)] : List (Nat × Nat))[i]? = some (pc, d) → KS l D cI cS cM yX9_readMove.cls yX9_readMove.name cX9_readMove 5 (some .int) (k_rm 2 0 0) false pc d (k_jmp J i)) : KS l D cI cS cM yX9_readMove.cls yX9_readMove.name cX9_readMove 5 (some .int) (k_rm 2 0 0) false 73 1 (b_X9_readMove_73 F_X9_here F_X9_in F_X9_has F_X9_must J) :=
  s_push1 dX9_readMove_73 (by decide) (by decide) <|
  s_iload dX9_readMove_74 <|
  s_ishl dX9_readMove_76 <|
  s_goto dX9_readMove_77 (by decide) (s_X9_readMove_81 h_X9_here h_X9_in h_X9_has h_X9_must hJ)
noncomputable def b_X9_readMove_61 (F_X9_here F_X9_in F_X9_has F_X9_must : KF) (J : List KC) : KC := o_cV0 2 9 F_X9_must <| o_iload 1 <| o_aload 0 <| o_get 9 34 <| o_push 4294967295 <| o_c2 Nat.beq (b_X9_readMove_73 F_X9_here F_X9_in F_X9_has F_X9_must J) (b_X9_readMove_80 F_X9_here F_X9_in F_X9_has F_X9_must J)
set_option maxRecDepth 100000 in
theorem s_X9_readMove_61 {l : Launch} {D : va_G} {cI cS cM : ClassId} {F_X9_here F_X9_in F_X9_has F_X9_must : KF} (h_X9_here : k_snd l D cI cS cM yX9_here cX9_here 1 (some .int) 1 1 F_X9_here) (h_X9_in : k_snd l D cI cS cM yX9_in cX9_in 3 (some .boolean) 1 3 F_X9_in) (h_X9_has : k_snd l D cI cS cM yX9_has cX9_has 2 (some .boolean) 1 2 F_X9_has) (h_X9_must : k_snd l D cI cS cM yX9_must cX9_must 2 none 1 2 F_X9_must) {J : List KC} (hJ : ∀ (i pc d : Nat), ([(6, 0)] : List (Nat × Nat))[i]? = some (pc, d) → KS l D cI cS cM yX9_readMove.cls yX9_readMove.name cX9_readMove 5 (some .int) (k_rm 2 0 0) false pc d (k_jmp J i)) : KS l D cI cS cM yX9_readMove.cls yX9_readMove.name cX9_readMove 5 (some .int) (k_rm 2 0 0) false 61 2 (b_X9_readMove_61 F_X9_here F_X9_in F_X9_has F_X9_must J) :=
  s_callV0 dX9_readMove_61 kw_38_3 kw_38_4 kw_38_5 (ci := 9) rfl ok_X9_must (by decide) (by decide) h_X9_must (by decide) <|
  s_iload_n dX9_readMove_64 rfl <|
  s_aload_n dX9_readMove_65 rfl <|
  s_get dX9_readMove_66 (ci := 9) (sl := 34) (Cn := RX9) (Tf := TX9) (N := 40) rfl (by decide) kiX9 kw_37_16 <|
  s_push1 dX9_readMove_69 (by decide) (by decide) <|
  s_icmp_ne dX9_readMove_70 (by decide) (s_X9_readMove_80 h_X9_here h_X9_in h_X9_has h_X9_must hJ) (s_X9_readMove_73 h_X9_here h_X9_in h_X9_has h_X9_must hJ)
noncomputable def b_X9_readMove_60 (F_X9_here F_X9_in F_X9_has F_X9_must : KF) (J : List KC) : KC := o_push 0 <| b_X9_readMove_61 F_X9_here F_X9_in F_X9_has F_X9_must J
set_option maxRecDepth 100000 in
theorem s_X9_readMove_60 {l : Launch} {D : va_G} {cI cS cM : ClassId} {F_X9_here F_X9_in F_X9_has F_X9_must : KF} (h_X9_here : k_snd l D cI cS cM yX9_here cX9_here 1 (some .int) 1 1 F_X9_here) (h_X9_in : k_snd l D cI cS cM yX9_in cX9_in 3 (some .boolean) 1 3 F_X9_in) (h_X9_has : k_snd l D cI cS cM yX9_has cX9_has 2 (some .boolean) 1 2 F_X9_has) (h_X9_must : k_snd l D cI cS cM yX9_must cX9_must 2 none 1 2 F_X9_must) {J : List KC} (hJ : ∀ (i pc d : Nat), ([(6, 0)] : List (Nat × Nat))[i]? = some (pc, d) → KS l D cI cS cM yX9_readMove.cls yX9_readMove.name cX9_readMove 5 (some .int) (k_rm 2 0 0) false pc d (k_jmp J i)) : KS l D cI cS cM yX9_readMove.cls yX9_readMove.name cX9_readMove 5 (some .int) (k_rm 2 0 0) false 60 1 (b_X9_readMove_60 F_X9_here F_X9_in F_X9_has F_X9_must J) :=
  s_push1 dX9_readMove_60 (by decide) (by decide) <|
  s_X9_readMove_61 h_X9_here h_X9_in h_X9_has h_X9_must hJ
noncomputable def b_X9_readMove_56 (F_X9_here F_X9_in F_X9_has F_X9_must : KF) (J : List KC) : KC := o_push 1 <| b_X9_readMove_61 F_X9_here F_X9_in F_X9_has F_X9_must J
set_option maxRecDepth 100000 in
theorem s_X9_readMove_56 {l : Launch} {D : va_G} {cI cS cM : ClassId} {F_X9_here F_X9_in F_X9_has F_X9_must : KF} (h_X9_here : k_snd l D cI cS cM yX9_here cX9_here 1 (some .int) 1 1 F_X9_here) (h_X9_in : k_snd l D cI cS cM yX9_in cX9_in 3 (some .boolean) 1 3 F_X9_in) (h_X9_has : k_snd l D cI cS cM yX9_has cX9_has 2 (some .boolean) 1 2 F_X9_has) (h_X9_must : k_snd l D cI cS cM yX9_must cX9_must 2 none 1 2 F_X9_must) {J : List KC} (hJ : ∀ (i pc d : Nat), ([(6, 0)] : List (Nat × Nat))[i]? = some (pc, d) → KS l D cI cS cM yX9_readMove.cls yX9_readMove.name cX9_readMove 5 (some .int) (k_rm 2 0 0) false pc d (k_jmp J i)) : KS l D cI cS cM yX9_readMove.cls yX9_readMove.name cX9_readMove 5 (some .int) (k_rm 2 0 0) false 56 1 (b_X9_readMove_56 F_X9_here F_X9_in F_X9_has F_X9_must J) :=
  s_push1 dX9_readMove_56 (by decide) (by decide) <|
  s_goto dX9_readMove_57 (by decide) (s_X9_readMove_61 h_X9_here h_X9_in h_X9_has h_X9_must hJ)
noncomputable def b_X9_readMove_47 (F_X9_here F_X9_in F_X9_has F_X9_must : KF) (J : List KC) : KC := o_iload 1 <| o_iload 4 <| o_cS1 2 F_X9_has <| o_c1 g_eq (b_X9_readMove_56 F_X9_here F_X9_in F_X9_has F_X9_must J) (b_X9_readMove_60 F_X9_here F_X9_in F_X9_has F_X9_must J)
set_option maxRecDepth 100000 in
theorem s_X9_readMove_47 {l : Launch} {D : va_G} {cI cS cM : ClassId} {F_X9_here F_X9_in F_X9_has F_X9_must : KF} (h_X9_here : k_snd l D cI cS cM yX9_here cX9_here 1 (some .int) 1 1 F_X9_here) (h_X9_in : k_snd l D cI cS cM yX9_in cX9_in 3 (some .boolean) 1 3 F_X9_in) (h_X9_has : k_snd l D cI cS cM yX9_has cX9_has 2 (some .boolean) 1 2 F_X9_has) (h_X9_must : k_snd l D cI cS cM yX9_must cX9_must 2 none 1 2 F_X9_must) {J : List KC} (hJ : ∀ (i pc d : Nat), ([(6, 0)] : List (Nat × Nat))[i]? = some (pc, d) → KS l D cI cS cM yX9_readMove.cls yX9_readMove.name cX9_readMove 5 (some .int) (k_rm 2 0 0) false pc d (k_jmp J i)) : KS l D cI cS cM yX9_readMove.cls yX9_readMove.name cX9_readMove 5 (some .int) (k_rm 2 0 0) false 47 1 (b_X9_readMove_47 F_X9_here F_X9_in F_X9_has F_X9_must J) :=
  s_iload_n dX9_readMove_47 rfl <|
  s_iload dX9_readMove_48 <|
  s_callS1 dX9_readMove_50 kw_38_11 kw_38_12 ok_X9_has (by decide) (by decide) h_X9_has (by decide) <|
  s_if_ne dX9_readMove_53 (by decide) (s_X9_readMove_60 h_X9_here h_X9_in h_X9_has h_X9_must hJ) (s_X9_readMove_56 h_X9_here h_X9_in h_X9_has h_X9_must hJ)
noncomputable def b_X9_readMove_22 (F_X9_here F_X9_in F_X9_has F_X9_must : KF) (J : List KC) : KC := o_aload 0 <| o_cV1 1 9 F_X9_here <| o_push 48 <| o_bin n_sub <| o_istore 4 <| o_aload 0 <| o_iload 4 <| o_push 0 <| o_aload 0 <| o_get 9 36 <| o_push 1 <| o_bin n_sub <| o_cS1 3 F_X9_in <| o_c1 g_eq (b_X9_readMove_60 F_X9_here F_X9_in F_X9_has F_X9_must J) (b_X9_readMove_47 F_X9_here F_X9_in F_X9_has F_X9_must J)
set_option maxRecDepth 100000 in
theorem s_X9_readMove_22 {l : Launch} {D : va_G} {cI cS cM : ClassId} {F_X9_here F_X9_in F_X9_has F_X9_must : KF} (h_X9_here : k_snd l D cI cS cM yX9_here cX9_here 1 (some .int) 1 1 F_X9_here) (h_X9_in : k_snd l D cI cS cM yX9_in cX9_in 3 (some .boolean) 1 3 F_X9_in) (h_X9_has : k_snd l D cI cS cM yX9_has cX9_has 2 (some .boolean) 1 2 F_X9_has) (h_X9_must : k_snd l D cI cS cM yX9_must cX9_must 2 none 1 2 F_X9_must) {J : List KC} (hJ : ∀ (i pc d : Nat), ([(6, 0)] : List (Nat × Nat))[i]? = some (pc, d) → KS l D cI cS cM yX9_readMove.cls yX9_readMove.name cX9_readMove 5 (some .int) (k_rm 2 0 0) false pc d (k_jmp J i)) : KS l D cI cS cM yX9_readMove.cls yX9_readMove.name cX9_readMove 5 (some .int) (k_rm 2 0 0) false 22 0 (b_X9_readMove_22 F_X9_here F_X9_in F_X9_has F_X9_must J) :=
  s_aload_n dX9_readMove_22 rfl <|
  s_callV1 dX9_readMove_23 kw_37_19 kw_37_20 kw_37_21 (ci := 9) rfl ok_X9_here (by decide) (by decide) h_X9_here (by decide) <|
  s_push2 dX9_readMove_26 (by decide) (by decide) <|
  s_isub dX9_readMove_28 <|
  s_istore dX9_readMove_29 (by decide) <|
  s_aload_n dX9_readMove_31 rfl <|
  s_iload dX9_readMove_32 <|
  s_push1 dX9_readMove_34 (by decide) (by decide) <|
  s_aload_n dX9_readMove_35 rfl <|
  s_get dX9_readMove_36 (ci := 9) (sl := 36) (Cn := RX9) (Tf := TX9) (N := 40) rfl (by decide) kiX9 kw_37_18 <|
  s_push1 dX9_readMove_39 (by decide) (by decide) <|
  s_isub dX9_readMove_40 <|
  s_callS1 dX9_readMove_41 kw_9_18 kw_9_19 ok_X9_in (by decide) (by decide) h_X9_in (by decide) <|
  s_if_eq dX9_readMove_44 (by decide) (s_X9_readMove_60 h_X9_here h_X9_in h_X9_has h_X9_must hJ) (s_X9_readMove_47 h_X9_here h_X9_in h_X9_has h_X9_must hJ)
noncomputable def b_X9_readMove_14 (F_X9_here F_X9_in F_X9_has F_X9_must : KF) (J : List KC) : KC := o_aload 0 <| o_get 9 34 <| o_push 4294967295 <| o_c2 Nat.beq (b_X9_readMove_22 F_X9_here F_X9_in F_X9_has F_X9_must J) (b_X9_readMove_97 F_X9_here F_X9_in F_X9_has F_X9_must J)
set_option maxRecDepth 100000 in
theorem s_X9_readMove_14 {l : Launch} {D : va_G} {cI cS cM : ClassId} {F_X9_here F_X9_in F_X9_has F_X9_must : KF} (h_X9_here : k_snd l D cI cS cM yX9_here cX9_here 1 (some .int) 1 1 F_X9_here) (h_X9_in : k_snd l D cI cS cM yX9_in cX9_in 3 (some .boolean) 1 3 F_X9_in) (h_X9_has : k_snd l D cI cS cM yX9_has cX9_has 2 (some .boolean) 1 2 F_X9_has) (h_X9_must : k_snd l D cI cS cM yX9_must cX9_must 2 none 1 2 F_X9_must) {J : List KC} (hJ : ∀ (i pc d : Nat), ([(6, 0)] : List (Nat × Nat))[i]? = some (pc, d) → KS l D cI cS cM yX9_readMove.cls yX9_readMove.name cX9_readMove 5 (some .int) (k_rm 2 0 0) false pc d (k_jmp J i)) : KS l D cI cS cM yX9_readMove.cls yX9_readMove.name cX9_readMove 5 (some .int) (k_rm 2 0 0) false 14 0 (b_X9_readMove_14 F_X9_here F_X9_in F_X9_has F_X9_must J) :=
  s_aload_n dX9_readMove_14 rfl <|
  s_get dX9_readMove_15 (ci := 9) (sl := 34) (Cn := RX9) (Tf := TX9) (N := 40) rfl (by decide) kiX9 kw_37_16 <|
  s_push1 dX9_readMove_18 (by decide) (by decide) <|
  s_icmp_ne dX9_readMove_19 (by decide) (s_X9_readMove_97 h_X9_here h_X9_in h_X9_has h_X9_must hJ) (s_X9_readMove_22 h_X9_here h_X9_in h_X9_has h_X9_must hJ)
noncomputable def b_X9_readMove_6 (F_X9_here F_X9_in F_X9_has F_X9_must : KF) (J : List KC) : KC := o_iload 3 <| o_aload 0 <| o_get 9 36 <| o_c2 s_lt (b_X9_readMove_14 F_X9_here F_X9_in F_X9_has F_X9_must J) (b_X9_readMove_97 F_X9_here F_X9_in F_X9_has F_X9_must J)
set_option maxRecDepth 100000 in
theorem s_X9_readMove_6 {l : Launch} {D : va_G} {cI cS cM : ClassId} {F_X9_here F_X9_in F_X9_has F_X9_must : KF} (h_X9_here : k_snd l D cI cS cM yX9_here cX9_here 1 (some .int) 1 1 F_X9_here) (h_X9_in : k_snd l D cI cS cM yX9_in cX9_in 3 (some .boolean) 1 3 F_X9_in) (h_X9_has : k_snd l D cI cS cM yX9_has cX9_has 2 (some .boolean) 1 2 F_X9_has) (h_X9_must : k_snd l D cI cS cM yX9_must cX9_must 2 none 1 2 F_X9_must) {J : List KC} (hJ : ∀ (i pc d : Nat), ([(6, 0)] : List (Nat × Nat))[i]? = some (pc, d) → KS l D cI cS cM yX9_readMove.cls yX9_readMove.name cX9_readMove 5 (some .int) (k_rm 2 0 0) false pc d (k_jmp J i)) : KS l D cI cS cM yX9_readMove.cls yX9_readMove.name cX9_readMove 5 (some .int) (k_rm 2 0 0) false 6 0 (b_X9_readMove_6 F_X9_here F_X9_in F_X9_has F_X9_must J) :=
  s_iload_n dX9_readMove_6 rfl <|
  s_aload_n dX9_readMove_7 rfl <|
  s_get dX9_readMove_8 (ci := 9) (sl := 36) (Cn := RX9) (Tf := TX9) (N := 40) rfl (by decide) kiX9 kw_37_18 <|
  s_icmp_ge dX9_readMove_11 (by decide) (s_X9_readMove_97 h_X9_here h_X9_in h_X9_has h_X9_must hJ) (s_X9_readMove_14 h_X9_here h_X9_in h_X9_has h_X9_must hJ)
noncomputable def b_X9_readMove_0 (F_X9_here F_X9_in F_X9_has F_X9_must : KF) (J : List KC) : KC := o_push 0 <| o_istore 1 <| o_push 0 <| o_istore 2 <| o_push 0 <| o_istore 3 <| b_X9_readMove_6 F_X9_here F_X9_in F_X9_has F_X9_must J
set_option maxRecDepth 100000 in
theorem s_X9_readMove_0 {l : Launch} {D : va_G} {cI cS cM : ClassId} {F_X9_here F_X9_in F_X9_has F_X9_must : KF} (h_X9_here : k_snd l D cI cS cM yX9_here cX9_here 1 (some .int) 1 1 F_X9_here) (h_X9_in : k_snd l D cI cS cM yX9_in cX9_in 3 (some .boolean) 1 3 F_X9_in) (h_X9_has : k_snd l D cI cS cM yX9_has cX9_has 2 (some .boolean) 1 2 F_X9_has) (h_X9_must : k_snd l D cI cS cM yX9_must cX9_must 2 none 1 2 F_X9_must) {J : List KC} (hJ : ∀ (i pc d : Nat), ([(6, 0)] : List (Nat × Nat))[i]? = some (pc, d) → KS l D cI cS cM yX9_readMove.cls yX9_readMove.name cX9_readMove 5 (some .int) (k_rm 2 0 0) false pc d (k_jmp J i)) : KS l D cI cS cM yX9_readMove.cls yX9_readMove.name cX9_readMove 5 (some .int) (k_rm 2 0 0) false 0 0 (b_X9_readMove_0 F_X9_here F_X9_in F_X9_has F_X9_must J) :=
  s_push1 dX9_readMove_0 (by decide) (by decide) <|
  s_istore_n dX9_readMove_1 rfl (by decide) <|
  s_push1 dX9_readMove_2 (by decide) (by decide) <|
  s_istore_n dX9_readMove_3 rfl (by decide) <|
  s_push1 dX9_readMove_4 (by decide) (by decide) <|
  s_istore_n dX9_readMove_5 rfl (by decide) <|
  s_X9_readMove_6 h_X9_here h_X9_in h_X9_has h_X9_must hJ
noncomputable def j_X9_readMove (F_X9_here F_X9_in F_X9_has F_X9_must : KF) (J : List KC) : List KC := [b_X9_readMove_6 F_X9_here F_X9_in F_X9_has F_X9_must J]
noncomputable def m_X9_readMove (F_X9_here F_X9_in F_X9_has F_X9_must : KF) (n : Nat) : KF := k_fun [k_u, k_u, k_u, k_u] (b_X9_readMove_0 F_X9_here F_X9_in F_X9_has F_X9_must (k_loop (j_X9_readMove F_X9_here F_X9_in F_X9_has F_X9_must) n))
theorem r_X9_readMove {l : Launch} {D : va_G} {cI cS cM : ClassId} {F_X9_here F_X9_in F_X9_has F_X9_must : KF} (h_X9_here : k_snd l D cI cS cM yX9_here cX9_here 1 (some .int) 1 1 F_X9_here) (h_X9_in : k_snd l D cI cS cM yX9_in cX9_in 3 (some .boolean) 1 3 F_X9_in) (h_X9_has : k_snd l D cI cS cM yX9_has cX9_has 2 (some .boolean) 1 2 F_X9_has) (h_X9_must : k_snd l D cI cS cM yX9_must cX9_must 2 none 1 2 F_X9_must) (n : Nat) : k_snd l D cI cS cM yX9_readMove cX9_readMove 5 (some .int) 2 1 (m_X9_readMove F_X9_here F_X9_in F_X9_has F_X9_must n) :=
  k_method (by decide +kernel) (by simp) rfl (s_X9_readMove_0 h_X9_here h_X9_in h_X9_has h_X9_must (k_loops (hs := [(6, 0)]) (fun J hJ i pc d h => match i, h with | 0, h => by cases h; exact s_X9_readMove_6 h_X9_here h_X9_in h_X9_has h_X9_must hJ | _ + 1, h => by simp at h) n))
noncomputable def b_X9_told_24 (F_X9_in F_X9_toldOf F_X9_refuses : KF) : KC := o_iret
set_option maxRecDepth 100000 in
theorem s_X9_told_24 {l : Launch} {D : va_G} {cI cS cM : ClassId} {F_X9_in F_X9_toldOf F_X9_refuses : KF} (h_X9_in : k_snd l D cI cS cM yX9_in cX9_in 3 (some .boolean) 1 3 F_X9_in) (h_X9_toldOf : k_snd l D cI cS cM yX9_toldOf cX9_toldOf 2 (some .int) 1 2 F_X9_toldOf) (h_X9_refuses : k_snd l D cI cS cM yX9_refuses cX9_refuses 2 (some .int) 1 2 F_X9_refuses) : KS l D cI cS cM yX9_told.cls yX9_told.name cX9_told 2 (some .int) (k_rm 2 0 0) false 24 1 (b_X9_told_24 F_X9_in F_X9_toldOf F_X9_refuses) :=
  s_ireturn dX9_told_24 rfl
noncomputable def b_X9_told_18 (F_X9_in F_X9_toldOf F_X9_refuses : KF) : KC := o_aload 0 <| o_push 4294967294 <| o_cV1 2 9 F_X9_refuses <| b_X9_told_24 F_X9_in F_X9_toldOf F_X9_refuses
set_option maxRecDepth 100000 in
theorem s_X9_told_18 {l : Launch} {D : va_G} {cI cS cM : ClassId} {F_X9_in F_X9_toldOf F_X9_refuses : KF} (h_X9_in : k_snd l D cI cS cM yX9_in cX9_in 3 (some .boolean) 1 3 F_X9_in) (h_X9_toldOf : k_snd l D cI cS cM yX9_toldOf cX9_toldOf 2 (some .int) 1 2 F_X9_toldOf) (h_X9_refuses : k_snd l D cI cS cM yX9_refuses cX9_refuses 2 (some .int) 1 2 F_X9_refuses) : KS l D cI cS cM yX9_told.cls yX9_told.name cX9_told 2 (some .int) (k_rm 2 0 0) false 18 0 (b_X9_told_18 F_X9_in F_X9_toldOf F_X9_refuses) :=
  s_aload_n dX9_told_18 rfl <|
  s_push2 dX9_told_19 (by decide) (by decide) <|
  s_callV1 dX9_told_21 kw_10_1 kw_10_2 kw_10_3 (ci := 9) rfl ok_X9_refuses (by decide) (by decide) h_X9_refuses (by decide) <|
  s_X9_told_24 h_X9_in h_X9_toldOf h_X9_refuses
noncomputable def b_X9_told_10 (F_X9_in F_X9_toldOf F_X9_refuses : KF) : KC := o_aload 0 <| o_iload 1 <| o_cV1 2 9 F_X9_toldOf <| b_X9_told_24 F_X9_in F_X9_toldOf F_X9_refuses
set_option maxRecDepth 100000 in
theorem s_X9_told_10 {l : Launch} {D : va_G} {cI cS cM : ClassId} {F_X9_in F_X9_toldOf F_X9_refuses : KF} (h_X9_in : k_snd l D cI cS cM yX9_in cX9_in 3 (some .boolean) 1 3 F_X9_in) (h_X9_toldOf : k_snd l D cI cS cM yX9_toldOf cX9_toldOf 2 (some .int) 1 2 F_X9_toldOf) (h_X9_refuses : k_snd l D cI cS cM yX9_refuses cX9_refuses 2 (some .int) 1 2 F_X9_refuses) : KS l D cI cS cM yX9_told.cls yX9_told.name cX9_told 2 (some .int) (k_rm 2 0 0) false 10 0 (b_X9_told_10 F_X9_in F_X9_toldOf F_X9_refuses) :=
  s_aload_n dX9_told_10 rfl <|
  s_iload_n dX9_told_11 rfl <|
  s_callV1 dX9_told_12 kw_39_21 kw_39_22 kw_39_23 (ci := 9) rfl ok_X9_toldOf (by decide) (by decide) h_X9_toldOf (by decide) <|
  s_goto dX9_told_15 (by decide) (s_X9_told_24 h_X9_in h_X9_toldOf h_X9_refuses)
noncomputable def b_X9_told_0 (F_X9_in F_X9_toldOf F_X9_refuses : KF) : KC := o_iload 1 <| o_push 0 <| o_push 6 <| o_cS1 3 F_X9_in <| o_c1 g_eq (b_X9_told_18 F_X9_in F_X9_toldOf F_X9_refuses) (b_X9_told_10 F_X9_in F_X9_toldOf F_X9_refuses)
set_option maxRecDepth 100000 in
theorem s_X9_told_0 {l : Launch} {D : va_G} {cI cS cM : ClassId} {F_X9_in F_X9_toldOf F_X9_refuses : KF} (h_X9_in : k_snd l D cI cS cM yX9_in cX9_in 3 (some .boolean) 1 3 F_X9_in) (h_X9_toldOf : k_snd l D cI cS cM yX9_toldOf cX9_toldOf 2 (some .int) 1 2 F_X9_toldOf) (h_X9_refuses : k_snd l D cI cS cM yX9_refuses cX9_refuses 2 (some .int) 1 2 F_X9_refuses) : KS l D cI cS cM yX9_told.cls yX9_told.name cX9_told 2 (some .int) (k_rm 2 0 0) false 0 0 (b_X9_told_0 F_X9_in F_X9_toldOf F_X9_refuses) :=
  s_iload_n dX9_told_0 rfl <|
  s_push1 dX9_told_1 (by decide) (by decide) <|
  s_push2 dX9_told_2 (by decide) (by decide) <|
  s_callS1 dX9_told_4 kw_9_18 kw_9_19 ok_X9_in (by decide) (by decide) h_X9_in (by decide) <|
  s_if_eq dX9_told_7 (by decide) (s_X9_told_18 h_X9_in h_X9_toldOf h_X9_refuses) (s_X9_told_10 h_X9_in h_X9_toldOf h_X9_refuses)
noncomputable def m_X9_told (F_X9_in F_X9_toldOf F_X9_refuses : KF) : KF := k_fun [] (b_X9_told_0 F_X9_in F_X9_toldOf F_X9_refuses)
theorem r_X9_told {l : Launch} {D : va_G} {cI cS cM : ClassId} {F_X9_in F_X9_toldOf F_X9_refuses : KF} (h_X9_in : k_snd l D cI cS cM yX9_in cX9_in 3 (some .boolean) 1 3 F_X9_in) (h_X9_toldOf : k_snd l D cI cS cM yX9_toldOf cX9_toldOf 2 (some .int) 1 2 F_X9_toldOf) (h_X9_refuses : k_snd l D cI cS cM yX9_refuses cX9_refuses 2 (some .int) 1 2 F_X9_refuses) : k_snd l D cI cS cM yX9_told cX9_told 2 (some .int) 2 2 (m_X9_told F_X9_in F_X9_toldOf F_X9_refuses) :=
  k_method (by decide +kernel) (by simp) rfl (s_X9_told_0 h_X9_in h_X9_toldOf h_X9_refuses)
noncomputable def b_X9_type_33 (F_X9_in F_X9_refuses : KF) : KC := o_aload 0 <| o_get 9 31 <| o_aload 0 <| o_get 9 32 <| o_iload 1 <| o_iast <| o_aload 0 <| o_dup <| o_get 9 32 <| o_push 1 <| o_bin n_add <| o_puti 9 32 <| o_aload 0 <| o_get 9 32 <| o_iret
set_option maxRecDepth 100000 in
theorem s_X9_type_33 {l : Launch} {D : va_G} {cI cS cM : ClassId} {F_X9_in F_X9_refuses : KF} (h_X9_in : k_snd l D cI cS cM yX9_in cX9_in 3 (some .boolean) 1 3 F_X9_in) (h_X9_refuses : k_snd l D cI cS cM yX9_refuses cX9_refuses 2 (some .int) 1 2 F_X9_refuses) : KS l D cI cS cM yX9_type.cls yX9_type.name cX9_type 2 (some .int) (k_rm 2 0 0) false 33 0 (b_X9_type_33 F_X9_in F_X9_refuses) :=
  s_aload_n dX9_type_33 rfl <|
  s_get dX9_type_34 (ci := 9) (sl := 31) (Cn := RX9) (Tf := TX9) (N := 40) rfl (by decide) kiX9 kw_7_14 <|
  s_aload_n dX9_type_37 rfl <|
  s_get dX9_type_38 (ci := 9) (sl := 32) (Cn := RX9) (Tf := TX9) (N := 40) rfl (by decide) kiX9 kw_35_11 <|
  s_iload_n dX9_type_41 rfl <|
  s_iast dX9_type_42 <|
  s_aload_n dX9_type_43 rfl <|
  s_dup dX9_type_44 <|
  s_get dX9_type_45 (ci := 9) (sl := 32) (Cn := RX9) (Tf := TX9) (N := 40) rfl (by decide) kiX9 kw_35_11 <|
  s_push1 dX9_type_48 (by decide) (by decide) <|
  s_iadd dX9_type_49 <|
  s_puti dX9_type_50 (ci := 9) (sl := 32) (Cn := RX9) (Tf := TX9) (N := 40) (tyf := tyX9) rfl (by decide) kiX9 tyX9_ok nmX9 kw_35_11 rfl rfl <|
  s_aload_n dX9_type_53 rfl <|
  s_get dX9_type_54 (ci := 9) (sl := 32) (Cn := RX9) (Tf := TX9) (N := 40) rfl (by decide) kiX9 kw_35_11 <|
  s_ireturn dX9_type_57 rfl
noncomputable def b_X9_type_26 (F_X9_in F_X9_refuses : KF) : KC := o_aload 0 <| o_push 4294967292 <| o_cV1 2 9 F_X9_refuses <| o_iret
set_option maxRecDepth 100000 in
theorem s_X9_type_26 {l : Launch} {D : va_G} {cI cS cM : ClassId} {F_X9_in F_X9_refuses : KF} (h_X9_in : k_snd l D cI cS cM yX9_in cX9_in 3 (some .boolean) 1 3 F_X9_in) (h_X9_refuses : k_snd l D cI cS cM yX9_refuses cX9_refuses 2 (some .int) 1 2 F_X9_refuses) : KS l D cI cS cM yX9_type.cls yX9_type.name cX9_type 2 (some .int) (k_rm 2 0 0) false 26 0 (b_X9_type_26 F_X9_in F_X9_refuses) :=
  s_aload_n dX9_type_26 rfl <|
  s_push2 dX9_type_27 (by decide) (by decide) <|
  s_callV1 dX9_type_29 kw_10_1 kw_10_2 kw_10_3 (ci := 9) rfl ok_X9_refuses (by decide) (by decide) h_X9_refuses (by decide) <|
  s_ireturn dX9_type_32 rfl
noncomputable def b_X9_type_17 (F_X9_in F_X9_refuses : KF) : KC := o_aload 0 <| o_get 9 32 <| o_push 80 <| o_c2 Nat.beq (b_X9_type_26 F_X9_in F_X9_refuses) (b_X9_type_33 F_X9_in F_X9_refuses)
set_option maxRecDepth 100000 in
theorem s_X9_type_17 {l : Launch} {D : va_G} {cI cS cM : ClassId} {F_X9_in F_X9_refuses : KF} (h_X9_in : k_snd l D cI cS cM yX9_in cX9_in 3 (some .boolean) 1 3 F_X9_in) (h_X9_refuses : k_snd l D cI cS cM yX9_refuses cX9_refuses 2 (some .int) 1 2 F_X9_refuses) : KS l D cI cS cM yX9_type.cls yX9_type.name cX9_type 2 (some .int) (k_rm 2 0 0) false 17 0 (b_X9_type_17 F_X9_in F_X9_refuses) :=
  s_aload_n dX9_type_17 rfl <|
  s_get dX9_type_18 (ci := 9) (sl := 32) (Cn := RX9) (Tf := TX9) (N := 40) rfl (by decide) kiX9 kw_35_11 <|
  s_push2 dX9_type_21 (by decide) (by decide) <|
  s_icmp_ne dX9_type_23 (by decide) (s_X9_type_33 h_X9_in h_X9_refuses) (s_X9_type_26 h_X9_in h_X9_refuses)
noncomputable def b_X9_type_10 (F_X9_in F_X9_refuses : KF) : KC := o_aload 0 <| o_push 4294967294 <| o_cV1 2 9 F_X9_refuses <| o_iret
set_option maxRecDepth 100000 in
theorem s_X9_type_10 {l : Launch} {D : va_G} {cI cS cM : ClassId} {F_X9_in F_X9_refuses : KF} (h_X9_in : k_snd l D cI cS cM yX9_in cX9_in 3 (some .boolean) 1 3 F_X9_in) (h_X9_refuses : k_snd l D cI cS cM yX9_refuses cX9_refuses 2 (some .int) 1 2 F_X9_refuses) : KS l D cI cS cM yX9_type.cls yX9_type.name cX9_type 2 (some .int) (k_rm 2 0 0) false 10 0 (b_X9_type_10 F_X9_in F_X9_refuses) :=
  s_aload_n dX9_type_10 rfl <|
  s_push2 dX9_type_11 (by decide) (by decide) <|
  s_callV1 dX9_type_13 kw_10_1 kw_10_2 kw_10_3 (ci := 9) rfl ok_X9_refuses (by decide) (by decide) h_X9_refuses (by decide) <|
  s_ireturn dX9_type_16 rfl
noncomputable def b_X9_type_0 (F_X9_in F_X9_refuses : KF) : KC := o_iload 1 <| o_push 0 <| o_push 127 <| o_cS1 3 F_X9_in <| o_c1 g_eq (b_X9_type_10 F_X9_in F_X9_refuses) (b_X9_type_17 F_X9_in F_X9_refuses)
set_option maxRecDepth 100000 in
theorem s_X9_type_0 {l : Launch} {D : va_G} {cI cS cM : ClassId} {F_X9_in F_X9_refuses : KF} (h_X9_in : k_snd l D cI cS cM yX9_in cX9_in 3 (some .boolean) 1 3 F_X9_in) (h_X9_refuses : k_snd l D cI cS cM yX9_refuses cX9_refuses 2 (some .int) 1 2 F_X9_refuses) : KS l D cI cS cM yX9_type.cls yX9_type.name cX9_type 2 (some .int) (k_rm 2 0 0) false 0 0 (b_X9_type_0 F_X9_in F_X9_refuses) :=
  s_iload_n dX9_type_0 rfl <|
  s_push1 dX9_type_1 (by decide) (by decide) <|
  s_push2 dX9_type_2 (by decide) (by decide) <|
  s_callS1 dX9_type_4 kw_9_18 kw_9_19 ok_X9_in (by decide) (by decide) h_X9_in (by decide) <|
  s_if_ne dX9_type_7 (by decide) (s_X9_type_17 h_X9_in h_X9_refuses) (s_X9_type_10 h_X9_in h_X9_refuses)
noncomputable def m_X9_type (F_X9_in F_X9_refuses : KF) : KF := k_fun [] (b_X9_type_0 F_X9_in F_X9_refuses)
theorem r_X9_type {l : Launch} {D : va_G} {cI cS cM : ClassId} {F_X9_in F_X9_refuses : KF} (h_X9_in : k_snd l D cI cS cM yX9_in cX9_in 3 (some .boolean) 1 3 F_X9_in) (h_X9_refuses : k_snd l D cI cS cM yX9_refuses cX9_refuses 2 (some .int) 1 2 F_X9_refuses) : k_snd l D cI cS cM yX9_type cX9_type 2 (some .int) 2 2 (m_X9_type F_X9_in F_X9_refuses) :=
  k_method (by decide +kernel) (by simp) rfl (s_X9_type_0 h_X9_in h_X9_refuses)
noncomputable def b_X9_degreeOf_100 (F_X9_starOf F_X9_by F_X9_over : KF) (J : List KC) : KC := o_iload 3 <| o_iret
set_option maxRecDepth 100000 in
theorem s_X9_degreeOf_100 {l : Launch} {D : va_G} {cI cS cM : ClassId} {F_X9_starOf F_X9_by F_X9_over : KF} (h_X9_starOf : k_snd l D cI cS cM yX9_starOf cX9_starOf 2 (some .int) 1 2 F_X9_starOf) (h_X9_by : k_snd l D cI cS cM yX9_by cX9_by 4 (some .int) 2 3 F_X9_by) (h_X9_over : k_snd l D cI cS cM yX9_over cX9_over 3 (some .int) 1 2 F_X9_over) {J : List KC} (hJ : ∀ (i pc d : Nat), ([(4, 0), (60, 0)] : List (Nat × Nat))[i]? = some (pc, d) → KS l D cI cS cM yX9_degreeOf.cls yX9_degreeOf.name cX9_degreeOf 4 (some .int) (k_rm 3 0 0) false pc d (k_jmp J i)) : KS l D cI cS cM yX9_degreeOf.cls yX9_degreeOf.name cX9_degreeOf 4 (some .int) (k_rm 3 0 0) false 100 0 (b_X9_degreeOf_100 F_X9_starOf F_X9_by F_X9_over J) :=
  s_iload_n dX9_degreeOf_100 rfl <|
  s_ireturn dX9_degreeOf_101 rfl
noncomputable def b_X9_degreeOf_94 (F_X9_starOf F_X9_by F_X9_over : KF) (J : List KC) : KC := o_iinc 3 1 <| k_jmp J 1
set_option maxRecDepth 100000 in
theorem s_X9_degreeOf_94 {l : Launch} {D : va_G} {cI cS cM : ClassId} {F_X9_starOf F_X9_by F_X9_over : KF} (h_X9_starOf : k_snd l D cI cS cM yX9_starOf cX9_starOf 2 (some .int) 1 2 F_X9_starOf) (h_X9_by : k_snd l D cI cS cM yX9_by cX9_by 4 (some .int) 2 3 F_X9_by) (h_X9_over : k_snd l D cI cS cM yX9_over cX9_over 3 (some .int) 1 2 F_X9_over) {J : List KC} (hJ : ∀ (i pc d : Nat), ([(4, 0), (60, 0)] : List (Nat × Nat))[i]? = some (pc, d) → KS l D cI cS cM yX9_degreeOf.cls yX9_degreeOf.name cX9_degreeOf 4 (some .int) (k_rm 3 0 0) false pc d (k_jmp J i)) : KS l D cI cS cM yX9_degreeOf.cls yX9_degreeOf.name cX9_degreeOf 4 (some .int) (k_rm 3 0 0) false 94 0 (b_X9_degreeOf_94 F_X9_starOf F_X9_by F_X9_over J) :=
  s_iinc dX9_degreeOf_94 (by decide) (by decide) <|
  s_goto dX9_degreeOf_97 (by decide) (hJ 1 _ _ rfl)
noncomputable def b_X9_degreeOf_70 (F_X9_starOf F_X9_by F_X9_over : KF) (J : List KC) : KC := o_aload 0 <| o_iload 3 <| o_iload 3 <| o_bin n_mul <| o_aload 0 <| o_iload 2 <| o_cV1 2 9 F_X9_over <| o_bin n_mul <| o_cV1 2 9 F_X9_over <| o_aload 0 <| o_aload 0 <| o_get 9 6 <| o_cV1 2 9 F_X9_over <| o_c2 Nat.beq (b_X9_degreeOf_100 F_X9_starOf F_X9_by F_X9_over J) (b_X9_degreeOf_94 F_X9_starOf F_X9_by F_X9_over J)
set_option maxRecDepth 100000 in
theorem s_X9_degreeOf_70 {l : Launch} {D : va_G} {cI cS cM : ClassId} {F_X9_starOf F_X9_by F_X9_over : KF} (h_X9_starOf : k_snd l D cI cS cM yX9_starOf cX9_starOf 2 (some .int) 1 2 F_X9_starOf) (h_X9_by : k_snd l D cI cS cM yX9_by cX9_by 4 (some .int) 2 3 F_X9_by) (h_X9_over : k_snd l D cI cS cM yX9_over cX9_over 3 (some .int) 1 2 F_X9_over) {J : List KC} (hJ : ∀ (i pc d : Nat), ([(4, 0), (60, 0)] : List (Nat × Nat))[i]? = some (pc, d) → KS l D cI cS cM yX9_degreeOf.cls yX9_degreeOf.name cX9_degreeOf 4 (some .int) (k_rm 3 0 0) false pc d (k_jmp J i)) : KS l D cI cS cM yX9_degreeOf.cls yX9_degreeOf.name cX9_degreeOf 4 (some .int) (k_rm 3 0 0) false 70 0 (b_X9_degreeOf_70 F_X9_starOf F_X9_by F_X9_over J) :=
  s_aload_n dX9_degreeOf_70 rfl <|
  s_iload_n dX9_degreeOf_71 rfl <|
  s_iload_n dX9_degreeOf_72 rfl <|
  s_imul dX9_degreeOf_73 <|
  s_aload_n dX9_degreeOf_74 rfl <|
  s_iload_n dX9_degreeOf_75 rfl <|
  s_callV1 dX9_degreeOf_76 kw_25_14 kw_25_15 kw_25_16 (ci := 9) rfl ok_X9_over (by decide) (by decide) h_X9_over (by decide) <|
  s_imul dX9_degreeOf_79 <|
  s_callV1 dX9_degreeOf_80 kw_25_14 kw_25_15 kw_25_16 (ci := 9) rfl ok_X9_over (by decide) (by decide) h_X9_over (by decide) <|
  s_aload_n dX9_degreeOf_83 rfl <|
  s_aload_n dX9_degreeOf_84 rfl <|
  s_get dX9_degreeOf_85 (ci := 9) (sl := 6) (Cn := RX9) (Tf := TX9) (N := 40) rfl (by decide) kiX9 kw_22_13 <|
  s_callV1 dX9_degreeOf_88 kw_25_14 kw_25_15 kw_25_16 (ci := 9) rfl ok_X9_over (by decide) (by decide) h_X9_over (by decide) <|
  s_icmp_eq dX9_degreeOf_91 (by decide) (s_X9_degreeOf_100 h_X9_starOf h_X9_by h_X9_over hJ) (s_X9_degreeOf_94 h_X9_starOf h_X9_by h_X9_over hJ)
noncomputable def b_X9_degreeOf_60 (F_X9_starOf F_X9_by F_X9_over : KF) (J : List KC) : KC := o_iload 3 <| o_iload 3 <| o_bin n_mul <| o_aload 0 <| o_get 9 6 <| o_c2 s_gt (b_X9_degreeOf_100 F_X9_starOf F_X9_by F_X9_over J) (b_X9_degreeOf_70 F_X9_starOf F_X9_by F_X9_over J)
set_option maxRecDepth 100000 in
theorem s_X9_degreeOf_60 {l : Launch} {D : va_G} {cI cS cM : ClassId} {F_X9_starOf F_X9_by F_X9_over : KF} (h_X9_starOf : k_snd l D cI cS cM yX9_starOf cX9_starOf 2 (some .int) 1 2 F_X9_starOf) (h_X9_by : k_snd l D cI cS cM yX9_by cX9_by 4 (some .int) 2 3 F_X9_by) (h_X9_over : k_snd l D cI cS cM yX9_over cX9_over 3 (some .int) 1 2 F_X9_over) {J : List KC} (hJ : ∀ (i pc d : Nat), ([(4, 0), (60, 0)] : List (Nat × Nat))[i]? = some (pc, d) → KS l D cI cS cM yX9_degreeOf.cls yX9_degreeOf.name cX9_degreeOf 4 (some .int) (k_rm 3 0 0) false pc d (k_jmp J i)) : KS l D cI cS cM yX9_degreeOf.cls yX9_degreeOf.name cX9_degreeOf 4 (some .int) (k_rm 3 0 0) false 60 0 (b_X9_degreeOf_60 F_X9_starOf F_X9_by F_X9_over J) :=
  s_iload_n dX9_degreeOf_60 rfl <|
  s_iload_n dX9_degreeOf_61 rfl <|
  s_imul dX9_degreeOf_62 <|
  s_aload_n dX9_degreeOf_63 rfl <|
  s_get dX9_degreeOf_64 (ci := 9) (sl := 6) (Cn := RX9) (Tf := TX9) (N := 40) rfl (by decide) kiX9 kw_22_13 <|
  s_icmp_gt dX9_degreeOf_67 (by decide) (s_X9_degreeOf_100 h_X9_starOf h_X9_by h_X9_over hJ) (s_X9_degreeOf_70 h_X9_starOf h_X9_by h_X9_over hJ)
noncomputable def b_X9_degreeOf_58 (F_X9_starOf F_X9_by F_X9_over : KF) (J : List KC) : KC := o_push 1 <| o_istore 3 <| b_X9_degreeOf_60 F_X9_starOf F_X9_by F_X9_over J
set_option maxRecDepth 100000 in
theorem s_X9_degreeOf_58 {l : Launch} {D : va_G} {cI cS cM : ClassId} {F_X9_starOf F_X9_by F_X9_over : KF} (h_X9_starOf : k_snd l D cI cS cM yX9_starOf cX9_starOf 2 (some .int) 1 2 F_X9_starOf) (h_X9_by : k_snd l D cI cS cM yX9_by cX9_by 4 (some .int) 2 3 F_X9_by) (h_X9_over : k_snd l D cI cS cM yX9_over cX9_over 3 (some .int) 1 2 F_X9_over) {J : List KC} (hJ : ∀ (i pc d : Nat), ([(4, 0), (60, 0)] : List (Nat × Nat))[i]? = some (pc, d) → KS l D cI cS cM yX9_degreeOf.cls yX9_degreeOf.name cX9_degreeOf 4 (some .int) (k_rm 3 0 0) false pc d (k_jmp J i)) : KS l D cI cS cM yX9_degreeOf.cls yX9_degreeOf.name cX9_degreeOf 4 (some .int) (k_rm 3 0 0) false 58 0 (b_X9_degreeOf_58 F_X9_starOf F_X9_by F_X9_over J) :=
  s_push1 dX9_degreeOf_58 (by decide) (by decide) <|
  s_istore_n dX9_degreeOf_59 rfl (by decide) <|
  s_X9_degreeOf_60 h_X9_starOf h_X9_by h_X9_over hJ
noncomputable def b_X9_degreeOf_12 (F_X9_starOf F_X9_by F_X9_over : KF) (J : List KC) : KC := o_iload 2 <| o_aload 0 <| o_aload 0 <| o_get 9 27 <| o_push 8 <| o_iload 1 <| o_bin n_mul <| o_iload 3 <| o_bin n_add <| o_iald <| o_aload 0 <| o_get 9 27 <| o_push 8 <| o_iload 1 <| o_bin n_mul <| o_aload 0 <| o_iload 3 <| o_cW1 2 9 F_X9_starOf <| o_bin n_add <| o_iald <| o_bin n_mul <| o_aload 0 <| o_get 9 13 <| o_iload 3 <| o_iald <| o_cV1 3 9 F_X9_by <| o_bin n_add <| o_istore 2 <| o_iinc 3 1 <| k_jmp J 0
set_option maxRecDepth 100000 in
theorem s_X9_degreeOf_12 {l : Launch} {D : va_G} {cI cS cM : ClassId} {F_X9_starOf F_X9_by F_X9_over : KF} (h_X9_starOf : k_snd l D cI cS cM yX9_starOf cX9_starOf 2 (some .int) 1 2 F_X9_starOf) (h_X9_by : k_snd l D cI cS cM yX9_by cX9_by 4 (some .int) 2 3 F_X9_by) (h_X9_over : k_snd l D cI cS cM yX9_over cX9_over 3 (some .int) 1 2 F_X9_over) {J : List KC} (hJ : ∀ (i pc d : Nat), ([(4, 0), (60, 0)] : List (Nat × Nat))[i]? = some (pc, d) → KS l D cI cS cM yX9_degreeOf.cls yX9_degreeOf.name cX9_degreeOf 4 (some .int) (k_rm 3 0 0) false pc d (k_jmp J i)) : KS l D cI cS cM yX9_degreeOf.cls yX9_degreeOf.name cX9_degreeOf 4 (some .int) (k_rm 3 0 0) false 12 0 (b_X9_degreeOf_12 F_X9_starOf F_X9_by F_X9_over J) :=
  s_iload_n dX9_degreeOf_12 rfl <|
  s_aload_n dX9_degreeOf_13 rfl <|
  s_aload_n dX9_degreeOf_14 rfl <|
  s_get dX9_degreeOf_15 (ci := 9) (sl := 27) (Cn := RX9) (Tf := TX9) (N := 40) rfl (by decide) kiX9 kw_7_10 <|
  s_push2 dX9_degreeOf_18 (by decide) (by decide) <|
  s_iload_n dX9_degreeOf_20 rfl <|
  s_imul dX9_degreeOf_21 <|
  s_iload_n dX9_degreeOf_22 rfl <|
  s_iadd dX9_degreeOf_23 <|
  s_iald dX9_degreeOf_24 <|
  s_aload_n dX9_degreeOf_25 rfl <|
  s_get dX9_degreeOf_26 (ci := 9) (sl := 27) (Cn := RX9) (Tf := TX9) (N := 40) rfl (by decide) kiX9 kw_7_10 <|
  s_push2 dX9_degreeOf_29 (by decide) (by decide) <|
  s_iload_n dX9_degreeOf_31 rfl <|
  s_imul dX9_degreeOf_32 <|
  s_aload_n dX9_degreeOf_33 rfl <|
  s_iload_n dX9_degreeOf_34 rfl <|
  s_callW1 dX9_degreeOf_35 kw_26_14 kw_26_15 kw_26_16 (ci := 9) rfl ok_X9_starOf (by decide) (by decide) h_X9_starOf (by decide) <|
  s_iadd dX9_degreeOf_38 <|
  s_iald dX9_degreeOf_39 <|
  s_imul dX9_degreeOf_40 <|
  s_aload_n dX9_degreeOf_41 rfl <|
  s_get dX9_degreeOf_42 (ci := 9) (sl := 13) (Cn := RX9) (Tf := TX9) (N := 40) rfl (by decide) kiX9 kw_7_1 <|
  s_iload_n dX9_degreeOf_45 rfl <|
  s_iald dX9_degreeOf_46 <|
  s_callV1 dX9_degreeOf_47 kw_26_2 kw_26_3 kw_26_4 (ci := 9) rfl ok_X9_by (by decide) (by decide) h_X9_by (by decide) <|
  s_iadd dX9_degreeOf_50 <|
  s_istore_n dX9_degreeOf_51 rfl (by decide) <|
  s_iinc dX9_degreeOf_52 (by decide) (by decide) <|
  s_goto dX9_degreeOf_55 (by decide) (hJ 0 _ _ rfl)
noncomputable def b_X9_degreeOf_4 (F_X9_starOf F_X9_by F_X9_over : KF) (J : List KC) : KC := o_iload 3 <| o_aload 0 <| o_get 9 12 <| o_c2 s_lt (b_X9_degreeOf_12 F_X9_starOf F_X9_by F_X9_over J) (b_X9_degreeOf_58 F_X9_starOf F_X9_by F_X9_over J)
set_option maxRecDepth 100000 in
theorem s_X9_degreeOf_4 {l : Launch} {D : va_G} {cI cS cM : ClassId} {F_X9_starOf F_X9_by F_X9_over : KF} (h_X9_starOf : k_snd l D cI cS cM yX9_starOf cX9_starOf 2 (some .int) 1 2 F_X9_starOf) (h_X9_by : k_snd l D cI cS cM yX9_by cX9_by 4 (some .int) 2 3 F_X9_by) (h_X9_over : k_snd l D cI cS cM yX9_over cX9_over 3 (some .int) 1 2 F_X9_over) {J : List KC} (hJ : ∀ (i pc d : Nat), ([(4, 0), (60, 0)] : List (Nat × Nat))[i]? = some (pc, d) → KS l D cI cS cM yX9_degreeOf.cls yX9_degreeOf.name cX9_degreeOf 4 (some .int) (k_rm 3 0 0) false pc d (k_jmp J i)) : KS l D cI cS cM yX9_degreeOf.cls yX9_degreeOf.name cX9_degreeOf 4 (some .int) (k_rm 3 0 0) false 4 0 (b_X9_degreeOf_4 F_X9_starOf F_X9_by F_X9_over J) :=
  s_iload_n dX9_degreeOf_4 rfl <|
  s_aload_n dX9_degreeOf_5 rfl <|
  s_get dX9_degreeOf_6 (ci := 9) (sl := 12) (Cn := RX9) (Tf := TX9) (N := 40) rfl (by decide) kiX9 kw_22_14 <|
  s_icmp_ge dX9_degreeOf_9 (by decide) (s_X9_degreeOf_58 h_X9_starOf h_X9_by h_X9_over hJ) (s_X9_degreeOf_12 h_X9_starOf h_X9_by h_X9_over hJ)
noncomputable def b_X9_degreeOf_0 (F_X9_starOf F_X9_by F_X9_over : KF) (J : List KC) : KC := o_push 0 <| o_istore 2 <| o_push 0 <| o_istore 3 <| b_X9_degreeOf_4 F_X9_starOf F_X9_by F_X9_over J
set_option maxRecDepth 100000 in
theorem s_X9_degreeOf_0 {l : Launch} {D : va_G} {cI cS cM : ClassId} {F_X9_starOf F_X9_by F_X9_over : KF} (h_X9_starOf : k_snd l D cI cS cM yX9_starOf cX9_starOf 2 (some .int) 1 2 F_X9_starOf) (h_X9_by : k_snd l D cI cS cM yX9_by cX9_by 4 (some .int) 2 3 F_X9_by) (h_X9_over : k_snd l D cI cS cM yX9_over cX9_over 3 (some .int) 1 2 F_X9_over) {J : List KC} (hJ : ∀ (i pc d : Nat), ([(4, 0), (60, 0)] : List (Nat × Nat))[i]? = some (pc, d) → KS l D cI cS cM yX9_degreeOf.cls yX9_degreeOf.name cX9_degreeOf 4 (some .int) (k_rm 3 0 0) false pc d (k_jmp J i)) : KS l D cI cS cM yX9_degreeOf.cls yX9_degreeOf.name cX9_degreeOf 4 (some .int) (k_rm 3 0 0) false 0 0 (b_X9_degreeOf_0 F_X9_starOf F_X9_by F_X9_over J) :=
  s_push1 dX9_degreeOf_0 (by decide) (by decide) <|
  s_istore_n dX9_degreeOf_1 rfl (by decide) <|
  s_push1 dX9_degreeOf_2 (by decide) (by decide) <|
  s_istore_n dX9_degreeOf_3 rfl (by decide) <|
  s_X9_degreeOf_4 h_X9_starOf h_X9_by h_X9_over hJ
noncomputable def j_X9_degreeOf (F_X9_starOf F_X9_by F_X9_over : KF) (J : List KC) : List KC := [b_X9_degreeOf_4 F_X9_starOf F_X9_by F_X9_over J, b_X9_degreeOf_60 F_X9_starOf F_X9_by F_X9_over J]
noncomputable def m_X9_degreeOf (F_X9_starOf F_X9_by F_X9_over : KF) (n : Nat) : KF := k_fun [k_u, k_u] (b_X9_degreeOf_0 F_X9_starOf F_X9_by F_X9_over (k_loop (j_X9_degreeOf F_X9_starOf F_X9_by F_X9_over) n))
theorem r_X9_degreeOf {l : Launch} {D : va_G} {cI cS cM : ClassId} {F_X9_starOf F_X9_by F_X9_over : KF} (h_X9_starOf : k_snd l D cI cS cM yX9_starOf cX9_starOf 2 (some .int) 1 2 F_X9_starOf) (h_X9_by : k_snd l D cI cS cM yX9_by cX9_by 4 (some .int) 2 3 F_X9_by) (h_X9_over : k_snd l D cI cS cM yX9_over cX9_over 3 (some .int) 1 2 F_X9_over) (n : Nat) : k_snd l D cI cS cM yX9_degreeOf cX9_degreeOf 4 (some .int) 3 2 (m_X9_degreeOf F_X9_starOf F_X9_by F_X9_over n) :=
  k_method (by decide +kernel) (by simp) rfl (s_X9_degreeOf_0 h_X9_starOf h_X9_by h_X9_over (k_loops (hs := [(4, 0), (60, 0)]) (fun J hJ i pc d h => match i, h with | 0, h => by cases h; exact s_X9_degreeOf_4 h_X9_starOf h_X9_by h_X9_over hJ | 1, h => by cases h; exact s_X9_degreeOf_60 h_X9_starOf h_X9_by h_X9_over hJ | _ + 2, h => by simp at h) n))
noncomputable def b_X9_doMoves_24 (F_X9_isMove : KF) : KC := o_aload 0 <| o_get 9 0 <| o_push 2 <| o_aload 0 <| o_get 9 0 <| o_push 1 <| o_iald <| o_bin n_add <| o_iload 1 <| o_iast <| o_aload 0 <| o_get 9 0 <| o_push 1 <| o_dup2 <| o_iald <| o_push 1 <| o_bin n_add <| o_iast <| o_aload 0 <| o_push 0 <| o_putz 9 5 <| o_aload 0 <| o_get 9 0 <| o_push 1 <| o_iald <| o_push 1 <| o_bin n_sub <| o_iret
set_option maxRecDepth 100000 in
theorem s_X9_doMoves_24 {l : Launch} {D : va_G} {cI cS cM : ClassId} {F_X9_isMove : KF} (h_X9_isMove : k_snd l D cI cS cM yX9_isMove cX9_isMove 5 (some .boolean) 2 2 F_X9_isMove) : KS l D cI cS cM yX9_doMoves.cls yX9_doMoves.name cX9_doMoves 2 (some .int) (k_rm 3 0 0) false 24 0 (b_X9_doMoves_24 F_X9_isMove) :=
  s_aload_n dX9_doMoves_24 rfl <|
  s_get dX9_doMoves_25 (ci := 9) (sl := 0) (Cn := RX9) (Tf := TX9) (N := 40) rfl (by decide) kiX9 kw_6_16 <|
  s_push1 dX9_doMoves_28 (by decide) (by decide) <|
  s_aload_n dX9_doMoves_29 rfl <|
  s_get dX9_doMoves_30 (ci := 9) (sl := 0) (Cn := RX9) (Tf := TX9) (N := 40) rfl (by decide) kiX9 kw_6_16 <|
  s_push1 dX9_doMoves_33 (by decide) (by decide) <|
  s_iald dX9_doMoves_34 <|
  s_iadd dX9_doMoves_35 <|
  s_iload_n dX9_doMoves_36 rfl <|
  s_iast dX9_doMoves_37 <|
  s_aload_n dX9_doMoves_38 rfl <|
  s_get dX9_doMoves_39 (ci := 9) (sl := 0) (Cn := RX9) (Tf := TX9) (N := 40) rfl (by decide) kiX9 kw_6_16 <|
  s_push1 dX9_doMoves_42 (by decide) (by decide) <|
  s_dup2 dX9_doMoves_43 <|
  s_iald dX9_doMoves_44 <|
  s_push1 dX9_doMoves_45 (by decide) (by decide) <|
  s_iadd dX9_doMoves_46 <|
  s_iast dX9_doMoves_47 <|
  s_aload_n dX9_doMoves_48 rfl <|
  s_push1 dX9_doMoves_49 (by decide) (by decide) <|
  s_putz dX9_doMoves_50 (ci := 9) (sl := 5) (Cn := RX9) (Tf := TX9) (N := 40) (tyf := tyX9) rfl (by decide) kiX9 tyX9_ok nmX9 kw_9_17 rfl rfl <|
  s_aload_n dX9_doMoves_53 rfl <|
  s_get dX9_doMoves_54 (ci := 9) (sl := 0) (Cn := RX9) (Tf := TX9) (N := 40) rfl (by decide) kiX9 kw_6_16 <|
  s_push1 dX9_doMoves_57 (by decide) (by decide) <|
  s_iald dX9_doMoves_58 <|
  s_push1 dX9_doMoves_59 (by decide) (by decide) <|
  s_isub dX9_doMoves_60 <|
  s_ireturn dX9_doMoves_61 rfl
noncomputable def b_X9_doMoves_21 (F_X9_isMove : KF) : KC := o_push 4294967292 <| o_iret
set_option maxRecDepth 100000 in
theorem s_X9_doMoves_21 {l : Launch} {D : va_G} {cI cS cM : ClassId} {F_X9_isMove : KF} (h_X9_isMove : k_snd l D cI cS cM yX9_isMove cX9_isMove 5 (some .boolean) 2 2 F_X9_isMove) : KS l D cI cS cM yX9_doMoves.cls yX9_doMoves.name cX9_doMoves 2 (some .int) (k_rm 3 0 0) false 21 0 (b_X9_doMoves_21 F_X9_isMove) :=
  s_push2 dX9_doMoves_21 (by decide) (by decide) <|
  s_ireturn dX9_doMoves_23 rfl
noncomputable def b_X9_doMoves_11 (F_X9_isMove : KF) : KC := o_aload 0 <| o_get 9 0 <| o_push 1 <| o_iald <| o_push 3 <| o_c2 Nat.beq (b_X9_doMoves_21 F_X9_isMove) (b_X9_doMoves_24 F_X9_isMove)
set_option maxRecDepth 100000 in
theorem s_X9_doMoves_11 {l : Launch} {D : va_G} {cI cS cM : ClassId} {F_X9_isMove : KF} (h_X9_isMove : k_snd l D cI cS cM yX9_isMove cX9_isMove 5 (some .boolean) 2 2 F_X9_isMove) : KS l D cI cS cM yX9_doMoves.cls yX9_doMoves.name cX9_doMoves 2 (some .int) (k_rm 3 0 0) false 11 0 (b_X9_doMoves_11 F_X9_isMove) :=
  s_aload_n dX9_doMoves_11 rfl <|
  s_get dX9_doMoves_12 (ci := 9) (sl := 0) (Cn := RX9) (Tf := TX9) (N := 40) rfl (by decide) kiX9 kw_6_16 <|
  s_push1 dX9_doMoves_15 (by decide) (by decide) <|
  s_iald dX9_doMoves_16 <|
  s_push1 dX9_doMoves_17 (by decide) (by decide) <|
  s_icmp_ne dX9_doMoves_18 (by decide) (s_X9_doMoves_24 h_X9_isMove) (s_X9_doMoves_21 h_X9_isMove)
noncomputable def b_X9_doMoves_8 (F_X9_isMove : KF) : KC := o_push 4294967294 <| o_iret
set_option maxRecDepth 100000 in
theorem s_X9_doMoves_8 {l : Launch} {D : va_G} {cI cS cM : ClassId} {F_X9_isMove : KF} (h_X9_isMove : k_snd l D cI cS cM yX9_isMove cX9_isMove 5 (some .boolean) 2 2 F_X9_isMove) : KS l D cI cS cM yX9_doMoves.cls yX9_doMoves.name cX9_doMoves 2 (some .int) (k_rm 3 0 0) false 8 0 (b_X9_doMoves_8 F_X9_isMove) :=
  s_push2 dX9_doMoves_8 (by decide) (by decide) <|
  s_ireturn dX9_doMoves_10 rfl
noncomputable def b_X9_doMoves_0 (F_X9_isMove : KF) : KC := o_aload 0 <| o_iload 1 <| o_cV1 2 9 F_X9_isMove <| o_c1 g_eq (b_X9_doMoves_8 F_X9_isMove) (b_X9_doMoves_11 F_X9_isMove)
set_option maxRecDepth 100000 in
theorem s_X9_doMoves_0 {l : Launch} {D : va_G} {cI cS cM : ClassId} {F_X9_isMove : KF} (h_X9_isMove : k_snd l D cI cS cM yX9_isMove cX9_isMove 5 (some .boolean) 2 2 F_X9_isMove) : KS l D cI cS cM yX9_doMoves.cls yX9_doMoves.name cX9_doMoves 2 (some .int) (k_rm 3 0 0) false 0 0 (b_X9_doMoves_0 F_X9_isMove) :=
  s_aload_n dX9_doMoves_0 rfl <|
  s_iload_n dX9_doMoves_1 rfl <|
  s_callV1 dX9_doMoves_2 kw_11_6 kw_11_7 kw_11_8 (ci := 9) rfl ok_X9_isMove (by decide) (by decide) h_X9_isMove (by decide) <|
  s_if_ne dX9_doMoves_5 (by decide) (s_X9_doMoves_11 h_X9_isMove) (s_X9_doMoves_8 h_X9_isMove)
noncomputable def m_X9_doMoves (F_X9_isMove : KF) : KF := k_fun [] (b_X9_doMoves_0 F_X9_isMove)
theorem r_X9_doMoves {l : Launch} {D : va_G} {cI cS cM : ClassId} {F_X9_isMove : KF} (h_X9_isMove : k_snd l D cI cS cM yX9_isMove cX9_isMove 5 (some .boolean) 2 2 F_X9_isMove) : k_snd l D cI cS cM yX9_doMoves cX9_doMoves 2 (some .int) 3 2 (m_X9_doMoves F_X9_isMove) :=
  k_method (by decide +kernel) (by simp) rfl (s_X9_doMoves_0 h_X9_isMove)
noncomputable def b_X9_drops_0 (F_X9_hold F_X9_doDrops F_X9_ends : KF) : KC := o_aload 0 <| o_cV0 1 9 F_X9_hold <| o_aload 0 <| o_aload 0 <| o_iload 1 <| o_cV1 2 9 F_X9_doDrops <| o_cV1 2 9 F_X9_ends <| o_iret
set_option maxRecDepth 100000 in
theorem s_X9_drops_0 {l : Launch} {D : va_G} {cI cS cM : ClassId} {F_X9_hold F_X9_doDrops F_X9_ends : KF} (h_X9_hold : k_snd l D cI cS cM yX9_hold cX9_hold 2 none 1 1 F_X9_hold) (h_X9_doDrops : k_snd l D cI cS cM yX9_doDrops cX9_doDrops 3 (some .int) 2 2 F_X9_doDrops) (h_X9_ends : k_snd l D cI cS cM yX9_ends cX9_ends 2 (some .int) 2 2 F_X9_ends) : KS l D cI cS cM yX9_drops.cls yX9_drops.name cX9_drops 2 (some .int) (k_rm 3 0 0) false 0 0 (b_X9_drops_0 F_X9_hold F_X9_doDrops F_X9_ends) :=
  s_aload_n dX9_drops_0 rfl <|
  s_callV0 dX9_drops_1 kw_9_9 kw_9_10 kw_9_11 (ci := 9) rfl ok_X9_hold (by decide) (by decide) h_X9_hold (by decide) <|
  s_aload_n dX9_drops_4 rfl <|
  s_aload_n dX9_drops_5 rfl <|
  s_iload_n dX9_drops_6 rfl <|
  s_callV1 dX9_drops_7 kw_12_2 kw_12_3 kw_12_4 (ci := 9) rfl ok_X9_doDrops (by decide) (by decide) h_X9_doDrops (by decide) <|
  s_callV1 dX9_drops_10 kw_9_21 kw_9_22 kw_9_23 (ci := 9) rfl ok_X9_ends (by decide) (by decide) h_X9_ends (by decide) <|
  s_ireturn dX9_drops_13 rfl
noncomputable def m_X9_drops (F_X9_hold F_X9_doDrops F_X9_ends : KF) : KF := k_fun [] (b_X9_drops_0 F_X9_hold F_X9_doDrops F_X9_ends)
theorem r_X9_drops {l : Launch} {D : va_G} {cI cS cM : ClassId} {F_X9_hold F_X9_doDrops F_X9_ends : KF} (h_X9_hold : k_snd l D cI cS cM yX9_hold cX9_hold 2 none 1 1 F_X9_hold) (h_X9_doDrops : k_snd l D cI cS cM yX9_doDrops cX9_doDrops 3 (some .int) 2 2 F_X9_doDrops) (h_X9_ends : k_snd l D cI cS cM yX9_ends cX9_ends 2 (some .int) 2 2 F_X9_ends) : k_snd l D cI cS cM yX9_drops cX9_drops 2 (some .int) 3 2 (m_X9_drops F_X9_hold F_X9_doDrops F_X9_ends) :=
  k_method (by decide +kernel) (by simp) rfl (s_X9_drops_0 h_X9_hold h_X9_doDrops h_X9_ends)
noncomputable def b_X9_findElements_231 (F_X9_stays F_X9_both F_X9_find : KF) (J : List KC) : KC := o_ret
set_option maxRecDepth 100000 in
theorem s_X9_findElements_231 {l : Launch} {D : va_G} {cI cS cM : ClassId} {F_X9_stays F_X9_both F_X9_find : KF} (h_X9_stays : k_snd l D cI cS cM yX9_stays cX9_stays 3 (some .int) 1 1 F_X9_stays) (h_X9_both : k_snd l D cI cS cM yX9_both cX9_both 5 (some .int) 2 3 F_X9_both) (h_X9_find : k_snd l D cI cS cM yX9_find cX9_find 3 (some .int) 1 2 F_X9_find) {J : List KC} (hJ : ∀ (i pc d : Nat), ([(17, 0), (27, 0), (102, 0), (119, 0), (170, 0), (180, 0)] : List (Nat × Nat))[i]? = some (pc, d) → KS l D cI cS cM yX9_findElements.cls yX9_findElements.name cX9_findElements 4 none (k_rm 3 0 0) false pc d (k_jmp J i)) : KS l D cI cS cM yX9_findElements.cls yX9_findElements.name cX9_findElements 4 none (k_rm 3 0 0) false 231 0 (b_X9_findElements_231 F_X9_stays F_X9_both F_X9_find J) :=
  s_return dX9_findElements_231 rfl
noncomputable def b_X9_findElements_225 (F_X9_stays F_X9_both F_X9_find : KF) (J : List KC) : KC := o_iinc 1 1 <| k_jmp J 4
set_option maxRecDepth 100000 in
theorem s_X9_findElements_225 {l : Launch} {D : va_G} {cI cS cM : ClassId} {F_X9_stays F_X9_both F_X9_find : KF} (h_X9_stays : k_snd l D cI cS cM yX9_stays cX9_stays 3 (some .int) 1 1 F_X9_stays) (h_X9_both : k_snd l D cI cS cM yX9_both cX9_both 5 (some .int) 2 3 F_X9_both) (h_X9_find : k_snd l D cI cS cM yX9_find cX9_find 3 (some .int) 1 2 F_X9_find) {J : List KC} (hJ : ∀ (i pc d : Nat), ([(17, 0), (27, 0), (102, 0), (119, 0), (170, 0), (180, 0)] : List (Nat × Nat))[i]? = some (pc, d) → KS l D cI cS cM yX9_findElements.cls yX9_findElements.name cX9_findElements 4 none (k_rm 3 0 0) false pc d (k_jmp J i)) : KS l D cI cS cM yX9_findElements.cls yX9_findElements.name cX9_findElements 4 none (k_rm 3 0 0) false 225 0 (b_X9_findElements_225 F_X9_stays F_X9_both F_X9_find J) :=
  s_iinc dX9_findElements_225 (by decide) (by decide) <|
  s_goto dX9_findElements_228 (by decide) (hJ 4 _ _ rfl)
noncomputable def b_X9_findElements_188 (F_X9_stays F_X9_both F_X9_find : KF) (J : List KC) : KC := o_aload 0 <| o_get 9 8 <| o_push 120 <| o_iload 1 <| o_bin n_mul <| o_iload 2 <| o_bin n_add <| o_aload 0 <| o_aload 0 <| o_aload 0 <| o_get 9 7 <| o_iload 1 <| o_iald <| o_aload 0 <| o_get 9 7 <| o_iload 2 <| o_iald <| o_cV1 3 9 F_X9_both <| o_cV1 2 9 F_X9_find <| o_iast <| o_iinc 2 1 <| k_jmp J 5
set_option maxRecDepth 100000 in
theorem s_X9_findElements_188 {l : Launch} {D : va_G} {cI cS cM : ClassId} {F_X9_stays F_X9_both F_X9_find : KF} (h_X9_stays : k_snd l D cI cS cM yX9_stays cX9_stays 3 (some .int) 1 1 F_X9_stays) (h_X9_both : k_snd l D cI cS cM yX9_both cX9_both 5 (some .int) 2 3 F_X9_both) (h_X9_find : k_snd l D cI cS cM yX9_find cX9_find 3 (some .int) 1 2 F_X9_find) {J : List KC} (hJ : ∀ (i pc d : Nat), ([(17, 0), (27, 0), (102, 0), (119, 0), (170, 0), (180, 0)] : List (Nat × Nat))[i]? = some (pc, d) → KS l D cI cS cM yX9_findElements.cls yX9_findElements.name cX9_findElements 4 none (k_rm 3 0 0) false pc d (k_jmp J i)) : KS l D cI cS cM yX9_findElements.cls yX9_findElements.name cX9_findElements 4 none (k_rm 3 0 0) false 188 0 (b_X9_findElements_188 F_X9_stays F_X9_both F_X9_find J) :=
  s_aload_n dX9_findElements_188 rfl <|
  s_get dX9_findElements_189 (ci := 9) (sl := 8) (Cn := RX9) (Tf := TX9) (N := 40) rfl (by decide) kiX9 kw_6_21 <|
  s_push2 dX9_findElements_192 (by decide) (by decide) <|
  s_iload_n dX9_findElements_194 rfl <|
  s_imul dX9_findElements_195 <|
  s_iload_n dX9_findElements_196 rfl <|
  s_iadd dX9_findElements_197 <|
  s_aload_n dX9_findElements_198 rfl <|
  s_aload_n dX9_findElements_199 rfl <|
  s_aload_n dX9_findElements_200 rfl <|
  s_get dX9_findElements_201 (ci := 9) (sl := 7) (Cn := RX9) (Tf := TX9) (N := 40) rfl (by decide) kiX9 kw_6_20 <|
  s_iload_n dX9_findElements_204 rfl <|
  s_iald dX9_findElements_205 <|
  s_aload_n dX9_findElements_206 rfl <|
  s_get dX9_findElements_207 (ci := 9) (sl := 7) (Cn := RX9) (Tf := TX9) (N := 40) rfl (by decide) kiX9 kw_6_20 <|
  s_iload_n dX9_findElements_210 rfl <|
  s_iald dX9_findElements_211 <|
  s_callV1 dX9_findElements_212 kw_23_6 kw_23_7 kw_23_8 (ci := 9) rfl ok_X9_both (by decide) (by decide) h_X9_both (by decide) <|
  s_callV1 dX9_findElements_215 kw_23_10 kw_23_11 kw_23_12 (ci := 9) rfl ok_X9_find (by decide) (by decide) h_X9_find (by decide) <|
  s_iast dX9_findElements_218 <|
  s_iinc dX9_findElements_219 (by decide) (by decide) <|
  s_goto dX9_findElements_222 (by decide) (hJ 5 _ _ rfl)
noncomputable def b_X9_findElements_180 (F_X9_stays F_X9_both F_X9_find : KF) (J : List KC) : KC := o_iload 2 <| o_aload 0 <| o_get 9 6 <| o_c2 s_lt (b_X9_findElements_188 F_X9_stays F_X9_both F_X9_find J) (b_X9_findElements_225 F_X9_stays F_X9_both F_X9_find J)
set_option maxRecDepth 100000 in
theorem s_X9_findElements_180 {l : Launch} {D : va_G} {cI cS cM : ClassId} {F_X9_stays F_X9_both F_X9_find : KF} (h_X9_stays : k_snd l D cI cS cM yX9_stays cX9_stays 3 (some .int) 1 1 F_X9_stays) (h_X9_both : k_snd l D cI cS cM yX9_both cX9_both 5 (some .int) 2 3 F_X9_both) (h_X9_find : k_snd l D cI cS cM yX9_find cX9_find 3 (some .int) 1 2 F_X9_find) {J : List KC} (hJ : ∀ (i pc d : Nat), ([(17, 0), (27, 0), (102, 0), (119, 0), (170, 0), (180, 0)] : List (Nat × Nat))[i]? = some (pc, d) → KS l D cI cS cM yX9_findElements.cls yX9_findElements.name cX9_findElements 4 none (k_rm 3 0 0) false pc d (k_jmp J i)) : KS l D cI cS cM yX9_findElements.cls yX9_findElements.name cX9_findElements 4 none (k_rm 3 0 0) false 180 0 (b_X9_findElements_180 F_X9_stays F_X9_both F_X9_find J) :=
  s_iload_n dX9_findElements_180 rfl <|
  s_aload_n dX9_findElements_181 rfl <|
  s_get dX9_findElements_182 (ci := 9) (sl := 6) (Cn := RX9) (Tf := TX9) (N := 40) rfl (by decide) kiX9 kw_22_13 <|
  s_icmp_ge dX9_findElements_185 (by decide) (s_X9_findElements_225 h_X9_stays h_X9_both h_X9_find hJ) (s_X9_findElements_188 h_X9_stays h_X9_both h_X9_find hJ)
noncomputable def b_X9_findElements_178 (F_X9_stays F_X9_both F_X9_find : KF) (J : List KC) : KC := o_push 0 <| o_istore 2 <| b_X9_findElements_180 F_X9_stays F_X9_both F_X9_find J
set_option maxRecDepth 100000 in
theorem s_X9_findElements_178 {l : Launch} {D : va_G} {cI cS cM : ClassId} {F_X9_stays F_X9_both F_X9_find : KF} (h_X9_stays : k_snd l D cI cS cM yX9_stays cX9_stays 3 (some .int) 1 1 F_X9_stays) (h_X9_both : k_snd l D cI cS cM yX9_both cX9_both 5 (some .int) 2 3 F_X9_both) (h_X9_find : k_snd l D cI cS cM yX9_find cX9_find 3 (some .int) 1 2 F_X9_find) {J : List KC} (hJ : ∀ (i pc d : Nat), ([(17, 0), (27, 0), (102, 0), (119, 0), (170, 0), (180, 0)] : List (Nat × Nat))[i]? = some (pc, d) → KS l D cI cS cM yX9_findElements.cls yX9_findElements.name cX9_findElements 4 none (k_rm 3 0 0) false pc d (k_jmp J i)) : KS l D cI cS cM yX9_findElements.cls yX9_findElements.name cX9_findElements 4 none (k_rm 3 0 0) false 178 0 (b_X9_findElements_178 F_X9_stays F_X9_both F_X9_find J) :=
  s_push1 dX9_findElements_178 (by decide) (by decide) <|
  s_istore_n dX9_findElements_179 rfl (by decide) <|
  s_X9_findElements_180 h_X9_stays h_X9_both h_X9_find hJ
noncomputable def b_X9_findElements_170 (F_X9_stays F_X9_both F_X9_find : KF) (J : List KC) : KC := o_iload 1 <| o_aload 0 <| o_get 9 6 <| o_c2 s_lt (b_X9_findElements_178 F_X9_stays F_X9_both F_X9_find J) (b_X9_findElements_231 F_X9_stays F_X9_both F_X9_find J)
set_option maxRecDepth 100000 in
theorem s_X9_findElements_170 {l : Launch} {D : va_G} {cI cS cM : ClassId} {F_X9_stays F_X9_both F_X9_find : KF} (h_X9_stays : k_snd l D cI cS cM yX9_stays cX9_stays 3 (some .int) 1 1 F_X9_stays) (h_X9_both : k_snd l D cI cS cM yX9_both cX9_both 5 (some .int) 2 3 F_X9_both) (h_X9_find : k_snd l D cI cS cM yX9_find cX9_find 3 (some .int) 1 2 F_X9_find) {J : List KC} (hJ : ∀ (i pc d : Nat), ([(17, 0), (27, 0), (102, 0), (119, 0), (170, 0), (180, 0)] : List (Nat × Nat))[i]? = some (pc, d) → KS l D cI cS cM yX9_findElements.cls yX9_findElements.name cX9_findElements 4 none (k_rm 3 0 0) false pc d (k_jmp J i)) : KS l D cI cS cM yX9_findElements.cls yX9_findElements.name cX9_findElements 4 none (k_rm 3 0 0) false 170 0 (b_X9_findElements_170 F_X9_stays F_X9_both F_X9_find J) :=
  s_iload_n dX9_findElements_170 rfl <|
  s_aload_n dX9_findElements_171 rfl <|
  s_get dX9_findElements_172 (ci := 9) (sl := 6) (Cn := RX9) (Tf := TX9) (N := 40) rfl (by decide) kiX9 kw_22_13 <|
  s_icmp_ge dX9_findElements_175 (by decide) (s_X9_findElements_231 h_X9_stays h_X9_both h_X9_find hJ) (s_X9_findElements_178 h_X9_stays h_X9_both h_X9_find hJ)
noncomputable def b_X9_findElements_168 (F_X9_stays F_X9_both F_X9_find : KF) (J : List KC) : KC := o_push 0 <| o_istore 1 <| b_X9_findElements_170 F_X9_stays F_X9_both F_X9_find J
set_option maxRecDepth 100000 in
theorem s_X9_findElements_168 {l : Launch} {D : va_G} {cI cS cM : ClassId} {F_X9_stays F_X9_both F_X9_find : KF} (h_X9_stays : k_snd l D cI cS cM yX9_stays cX9_stays 3 (some .int) 1 1 F_X9_stays) (h_X9_both : k_snd l D cI cS cM yX9_both cX9_both 5 (some .int) 2 3 F_X9_both) (h_X9_find : k_snd l D cI cS cM yX9_find cX9_find 3 (some .int) 1 2 F_X9_find) {J : List KC} (hJ : ∀ (i pc d : Nat), ([(17, 0), (27, 0), (102, 0), (119, 0), (170, 0), (180, 0)] : List (Nat × Nat))[i]? = some (pc, d) → KS l D cI cS cM yX9_findElements.cls yX9_findElements.name cX9_findElements 4 none (k_rm 3 0 0) false pc d (k_jmp J i)) : KS l D cI cS cM yX9_findElements.cls yX9_findElements.name cX9_findElements 4 none (k_rm 3 0 0) false 168 0 (b_X9_findElements_168 F_X9_stays F_X9_both F_X9_find J) :=
  s_push1 dX9_findElements_168 (by decide) (by decide) <|
  s_istore_n dX9_findElements_169 rfl (by decide) <|
  s_X9_findElements_170 h_X9_stays h_X9_both h_X9_find hJ
noncomputable def b_X9_findElements_155 (F_X9_stays F_X9_both F_X9_find : KF) (J : List KC) : KC := o_aload 0 <| o_get 9 7 <| o_iload 3 <| o_iload 2 <| o_iast <| o_iinc 1 1 <| k_jmp J 2
set_option maxRecDepth 100000 in
theorem s_X9_findElements_155 {l : Launch} {D : va_G} {cI cS cM : ClassId} {F_X9_stays F_X9_both F_X9_find : KF} (h_X9_stays : k_snd l D cI cS cM yX9_stays cX9_stays 3 (some .int) 1 1 F_X9_stays) (h_X9_both : k_snd l D cI cS cM yX9_both cX9_both 5 (some .int) 2 3 F_X9_both) (h_X9_find : k_snd l D cI cS cM yX9_find cX9_find 3 (some .int) 1 2 F_X9_find) {J : List KC} (hJ : ∀ (i pc d : Nat), ([(17, 0), (27, 0), (102, 0), (119, 0), (170, 0), (180, 0)] : List (Nat × Nat))[i]? = some (pc, d) → KS l D cI cS cM yX9_findElements.cls yX9_findElements.name cX9_findElements 4 none (k_rm 3 0 0) false pc d (k_jmp J i)) : KS l D cI cS cM yX9_findElements.cls yX9_findElements.name cX9_findElements 4 none (k_rm 3 0 0) false 155 0 (b_X9_findElements_155 F_X9_stays F_X9_both F_X9_find J) :=
  s_aload_n dX9_findElements_155 rfl <|
  s_get dX9_findElements_156 (ci := 9) (sl := 7) (Cn := RX9) (Tf := TX9) (N := 40) rfl (by decide) kiX9 kw_6_20 <|
  s_iload_n dX9_findElements_159 rfl <|
  s_iload_n dX9_findElements_160 rfl <|
  s_iast dX9_findElements_161 <|
  s_iinc dX9_findElements_162 (by decide) (by decide) <|
  s_goto dX9_findElements_165 (by decide) (hJ 2 _ _ rfl)
noncomputable def b_X9_findElements_135 (F_X9_stays F_X9_both F_X9_find : KF) (J : List KC) : KC := o_aload 0 <| o_get 9 7 <| o_iload 3 <| o_aload 0 <| o_get 9 7 <| o_iload 3 <| o_push 1 <| o_bin n_sub <| o_iald <| o_iast <| o_iinc 3 4294967295 <| k_jmp J 3
set_option maxRecDepth 100000 in
theorem s_X9_findElements_135 {l : Launch} {D : va_G} {cI cS cM : ClassId} {F_X9_stays F_X9_both F_X9_find : KF} (h_X9_stays : k_snd l D cI cS cM yX9_stays cX9_stays 3 (some .int) 1 1 F_X9_stays) (h_X9_both : k_snd l D cI cS cM yX9_both cX9_both 5 (some .int) 2 3 F_X9_both) (h_X9_find : k_snd l D cI cS cM yX9_find cX9_find 3 (some .int) 1 2 F_X9_find) {J : List KC} (hJ : ∀ (i pc d : Nat), ([(17, 0), (27, 0), (102, 0), (119, 0), (170, 0), (180, 0)] : List (Nat × Nat))[i]? = some (pc, d) → KS l D cI cS cM yX9_findElements.cls yX9_findElements.name cX9_findElements 4 none (k_rm 3 0 0) false pc d (k_jmp J i)) : KS l D cI cS cM yX9_findElements.cls yX9_findElements.name cX9_findElements 4 none (k_rm 3 0 0) false 135 0 (b_X9_findElements_135 F_X9_stays F_X9_both F_X9_find J) :=
  s_aload_n dX9_findElements_135 rfl <|
  s_get dX9_findElements_136 (ci := 9) (sl := 7) (Cn := RX9) (Tf := TX9) (N := 40) rfl (by decide) kiX9 kw_6_20 <|
  s_iload_n dX9_findElements_139 rfl <|
  s_aload_n dX9_findElements_140 rfl <|
  s_get dX9_findElements_141 (ci := 9) (sl := 7) (Cn := RX9) (Tf := TX9) (N := 40) rfl (by decide) kiX9 kw_6_20 <|
  s_iload_n dX9_findElements_144 rfl <|
  s_push1 dX9_findElements_145 (by decide) (by decide) <|
  s_isub dX9_findElements_146 <|
  s_iald dX9_findElements_147 <|
  s_iast dX9_findElements_148 <|
  s_iinc dX9_findElements_149 (by decide) (by decide) <|
  s_goto dX9_findElements_152 (by decide) (hJ 3 _ _ rfl)
noncomputable def b_X9_findElements_123 (F_X9_stays F_X9_both F_X9_find : KF) (J : List KC) : KC := o_aload 0 <| o_get 9 7 <| o_iload 3 <| o_push 1 <| o_bin n_sub <| o_iald <| o_iload 2 <| o_c2 s_gt (b_X9_findElements_135 F_X9_stays F_X9_both F_X9_find J) (b_X9_findElements_155 F_X9_stays F_X9_both F_X9_find J)
set_option maxRecDepth 100000 in
theorem s_X9_findElements_123 {l : Launch} {D : va_G} {cI cS cM : ClassId} {F_X9_stays F_X9_both F_X9_find : KF} (h_X9_stays : k_snd l D cI cS cM yX9_stays cX9_stays 3 (some .int) 1 1 F_X9_stays) (h_X9_both : k_snd l D cI cS cM yX9_both cX9_both 5 (some .int) 2 3 F_X9_both) (h_X9_find : k_snd l D cI cS cM yX9_find cX9_find 3 (some .int) 1 2 F_X9_find) {J : List KC} (hJ : ∀ (i pc d : Nat), ([(17, 0), (27, 0), (102, 0), (119, 0), (170, 0), (180, 0)] : List (Nat × Nat))[i]? = some (pc, d) → KS l D cI cS cM yX9_findElements.cls yX9_findElements.name cX9_findElements 4 none (k_rm 3 0 0) false pc d (k_jmp J i)) : KS l D cI cS cM yX9_findElements.cls yX9_findElements.name cX9_findElements 4 none (k_rm 3 0 0) false 123 0 (b_X9_findElements_123 F_X9_stays F_X9_both F_X9_find J) :=
  s_aload_n dX9_findElements_123 rfl <|
  s_get dX9_findElements_124 (ci := 9) (sl := 7) (Cn := RX9) (Tf := TX9) (N := 40) rfl (by decide) kiX9 kw_6_20 <|
  s_iload_n dX9_findElements_127 rfl <|
  s_push1 dX9_findElements_128 (by decide) (by decide) <|
  s_isub dX9_findElements_129 <|
  s_iald dX9_findElements_130 <|
  s_iload_n dX9_findElements_131 rfl <|
  s_icmp_le dX9_findElements_132 (by decide) (s_X9_findElements_155 h_X9_stays h_X9_both h_X9_find hJ) (s_X9_findElements_135 h_X9_stays h_X9_both h_X9_find hJ)
noncomputable def b_X9_findElements_119 (F_X9_stays F_X9_both F_X9_find : KF) (J : List KC) : KC := o_iload 3 <| o_c1 g_gt (b_X9_findElements_123 F_X9_stays F_X9_both F_X9_find J) (b_X9_findElements_155 F_X9_stays F_X9_both F_X9_find J)
set_option maxRecDepth 100000 in
theorem s_X9_findElements_119 {l : Launch} {D : va_G} {cI cS cM : ClassId} {F_X9_stays F_X9_both F_X9_find : KF} (h_X9_stays : k_snd l D cI cS cM yX9_stays cX9_stays 3 (some .int) 1 1 F_X9_stays) (h_X9_both : k_snd l D cI cS cM yX9_both cX9_both 5 (some .int) 2 3 F_X9_both) (h_X9_find : k_snd l D cI cS cM yX9_find cX9_find 3 (some .int) 1 2 F_X9_find) {J : List KC} (hJ : ∀ (i pc d : Nat), ([(17, 0), (27, 0), (102, 0), (119, 0), (170, 0), (180, 0)] : List (Nat × Nat))[i]? = some (pc, d) → KS l D cI cS cM yX9_findElements.cls yX9_findElements.name cX9_findElements 4 none (k_rm 3 0 0) false pc d (k_jmp J i)) : KS l D cI cS cM yX9_findElements.cls yX9_findElements.name cX9_findElements 4 none (k_rm 3 0 0) false 119 0 (b_X9_findElements_119 F_X9_stays F_X9_both F_X9_find J) :=
  s_iload_n dX9_findElements_119 rfl <|
  s_if_le dX9_findElements_120 (by decide) (s_X9_findElements_155 h_X9_stays h_X9_both h_X9_find hJ) (s_X9_findElements_123 h_X9_stays h_X9_both h_X9_find hJ)
noncomputable def b_X9_findElements_110 (F_X9_stays F_X9_both F_X9_find : KF) (J : List KC) : KC := o_aload 0 <| o_get 9 7 <| o_iload 1 <| o_iald <| o_istore 2 <| o_iload 1 <| o_istore 3 <| b_X9_findElements_119 F_X9_stays F_X9_both F_X9_find J
set_option maxRecDepth 100000 in
theorem s_X9_findElements_110 {l : Launch} {D : va_G} {cI cS cM : ClassId} {F_X9_stays F_X9_both F_X9_find : KF} (h_X9_stays : k_snd l D cI cS cM yX9_stays cX9_stays 3 (some .int) 1 1 F_X9_stays) (h_X9_both : k_snd l D cI cS cM yX9_both cX9_both 5 (some .int) 2 3 F_X9_both) (h_X9_find : k_snd l D cI cS cM yX9_find cX9_find 3 (some .int) 1 2 F_X9_find) {J : List KC} (hJ : ∀ (i pc d : Nat), ([(17, 0), (27, 0), (102, 0), (119, 0), (170, 0), (180, 0)] : List (Nat × Nat))[i]? = some (pc, d) → KS l D cI cS cM yX9_findElements.cls yX9_findElements.name cX9_findElements 4 none (k_rm 3 0 0) false pc d (k_jmp J i)) : KS l D cI cS cM yX9_findElements.cls yX9_findElements.name cX9_findElements 4 none (k_rm 3 0 0) false 110 0 (b_X9_findElements_110 F_X9_stays F_X9_both F_X9_find J) :=
  s_aload_n dX9_findElements_110 rfl <|
  s_get dX9_findElements_111 (ci := 9) (sl := 7) (Cn := RX9) (Tf := TX9) (N := 40) rfl (by decide) kiX9 kw_6_20 <|
  s_iload_n dX9_findElements_114 rfl <|
  s_iald dX9_findElements_115 <|
  s_istore_n dX9_findElements_116 rfl (by decide) <|
  s_iload_n dX9_findElements_117 rfl <|
  s_istore_n dX9_findElements_118 rfl (by decide) <|
  s_X9_findElements_119 h_X9_stays h_X9_both h_X9_find hJ
noncomputable def b_X9_findElements_102 (F_X9_stays F_X9_both F_X9_find : KF) (J : List KC) : KC := o_iload 1 <| o_aload 0 <| o_get 9 6 <| o_c2 s_lt (b_X9_findElements_110 F_X9_stays F_X9_both F_X9_find J) (b_X9_findElements_168 F_X9_stays F_X9_both F_X9_find J)
set_option maxRecDepth 100000 in
theorem s_X9_findElements_102 {l : Launch} {D : va_G} {cI cS cM : ClassId} {F_X9_stays F_X9_both F_X9_find : KF} (h_X9_stays : k_snd l D cI cS cM yX9_stays cX9_stays 3 (some .int) 1 1 F_X9_stays) (h_X9_both : k_snd l D cI cS cM yX9_both cX9_both 5 (some .int) 2 3 F_X9_both) (h_X9_find : k_snd l D cI cS cM yX9_find cX9_find 3 (some .int) 1 2 F_X9_find) {J : List KC} (hJ : ∀ (i pc d : Nat), ([(17, 0), (27, 0), (102, 0), (119, 0), (170, 0), (180, 0)] : List (Nat × Nat))[i]? = some (pc, d) → KS l D cI cS cM yX9_findElements.cls yX9_findElements.name cX9_findElements 4 none (k_rm 3 0 0) false pc d (k_jmp J i)) : KS l D cI cS cM yX9_findElements.cls yX9_findElements.name cX9_findElements 4 none (k_rm 3 0 0) false 102 0 (b_X9_findElements_102 F_X9_stays F_X9_both F_X9_find J) :=
  s_iload_n dX9_findElements_102 rfl <|
  s_aload_n dX9_findElements_103 rfl <|
  s_get dX9_findElements_104 (ci := 9) (sl := 6) (Cn := RX9) (Tf := TX9) (N := 40) rfl (by decide) kiX9 kw_22_13 <|
  s_icmp_ge dX9_findElements_107 (by decide) (s_X9_findElements_168 h_X9_stays h_X9_both h_X9_find hJ) (s_X9_findElements_110 h_X9_stays h_X9_both h_X9_find hJ)
noncomputable def b_X9_findElements_100 (F_X9_stays F_X9_both F_X9_find : KF) (J : List KC) : KC := o_push 1 <| o_istore 1 <| b_X9_findElements_102 F_X9_stays F_X9_both F_X9_find J
set_option maxRecDepth 100000 in
theorem s_X9_findElements_100 {l : Launch} {D : va_G} {cI cS cM : ClassId} {F_X9_stays F_X9_both F_X9_find : KF} (h_X9_stays : k_snd l D cI cS cM yX9_stays cX9_stays 3 (some .int) 1 1 F_X9_stays) (h_X9_both : k_snd l D cI cS cM yX9_both cX9_both 5 (some .int) 2 3 F_X9_both) (h_X9_find : k_snd l D cI cS cM yX9_find cX9_find 3 (some .int) 1 2 F_X9_find) {J : List KC} (hJ : ∀ (i pc d : Nat), ([(17, 0), (27, 0), (102, 0), (119, 0), (170, 0), (180, 0)] : List (Nat × Nat))[i]? = some (pc, d) → KS l D cI cS cM yX9_findElements.cls yX9_findElements.name cX9_findElements 4 none (k_rm 3 0 0) false pc d (k_jmp J i)) : KS l D cI cS cM yX9_findElements.cls yX9_findElements.name cX9_findElements 4 none (k_rm 3 0 0) false 100 0 (b_X9_findElements_100 F_X9_stays F_X9_both F_X9_find J) :=
  s_push1 dX9_findElements_100 (by decide) (by decide) <|
  s_istore_n dX9_findElements_101 rfl (by decide) <|
  s_X9_findElements_102 h_X9_stays h_X9_both h_X9_find hJ
noncomputable def b_X9_findElements_94 (F_X9_stays F_X9_both F_X9_find : KF) (J : List KC) : KC := o_iinc 1 1 <| k_jmp J 0
set_option maxRecDepth 100000 in
theorem s_X9_findElements_94 {l : Launch} {D : va_G} {cI cS cM : ClassId} {F_X9_stays F_X9_both F_X9_find : KF} (h_X9_stays : k_snd l D cI cS cM yX9_stays cX9_stays 3 (some .int) 1 1 F_X9_stays) (h_X9_both : k_snd l D cI cS cM yX9_both cX9_both 5 (some .int) 2 3 F_X9_both) (h_X9_find : k_snd l D cI cS cM yX9_find cX9_find 3 (some .int) 1 2 F_X9_find) {J : List KC} (hJ : ∀ (i pc d : Nat), ([(17, 0), (27, 0), (102, 0), (119, 0), (170, 0), (180, 0)] : List (Nat × Nat))[i]? = some (pc, d) → KS l D cI cS cM yX9_findElements.cls yX9_findElements.name cX9_findElements 4 none (k_rm 3 0 0) false pc d (k_jmp J i)) : KS l D cI cS cM yX9_findElements.cls yX9_findElements.name cX9_findElements 4 none (k_rm 3 0 0) false 94 0 (b_X9_findElements_94 F_X9_stays F_X9_both F_X9_find J) :=
  s_iinc dX9_findElements_94 (by decide) (by decide) <|
  s_goto dX9_findElements_97 (by decide) (hJ 0 _ _ rfl)
noncomputable def b_X9_findElements_88 (F_X9_stays F_X9_both F_X9_find : KF) (J : List KC) : KC := o_iinc 2 1 <| k_jmp J 1
set_option maxRecDepth 100000 in
theorem s_X9_findElements_88 {l : Launch} {D : va_G} {cI cS cM : ClassId} {F_X9_stays F_X9_both F_X9_find : KF} (h_X9_stays : k_snd l D cI cS cM yX9_stays cX9_stays 3 (some .int) 1 1 F_X9_stays) (h_X9_both : k_snd l D cI cS cM yX9_both cX9_both 5 (some .int) 2 3 F_X9_both) (h_X9_find : k_snd l D cI cS cM yX9_find cX9_find 3 (some .int) 1 2 F_X9_find) {J : List KC} (hJ : ∀ (i pc d : Nat), ([(17, 0), (27, 0), (102, 0), (119, 0), (170, 0), (180, 0)] : List (Nat × Nat))[i]? = some (pc, d) → KS l D cI cS cM yX9_findElements.cls yX9_findElements.name cX9_findElements 4 none (k_rm 3 0 0) false pc d (k_jmp J i)) : KS l D cI cS cM yX9_findElements.cls yX9_findElements.name cX9_findElements 4 none (k_rm 3 0 0) false 88 0 (b_X9_findElements_88 F_X9_stays F_X9_both F_X9_find J) :=
  s_iinc dX9_findElements_88 (by decide) (by decide) <|
  s_goto dX9_findElements_91 (by decide) (hJ 1 _ _ rfl)
noncomputable def b_X9_findElements_68 (F_X9_stays F_X9_both F_X9_find : KF) (J : List KC) : KC := o_aload 0 <| o_get 9 7 <| o_aload 0 <| o_get 9 6 <| o_iload 3 <| o_iast <| o_aload 0 <| o_dup <| o_get 9 6 <| o_push 1 <| o_bin n_add <| o_puti 9 6 <| b_X9_findElements_88 F_X9_stays F_X9_both F_X9_find J
set_option maxRecDepth 100000 in
theorem s_X9_findElements_68 {l : Launch} {D : va_G} {cI cS cM : ClassId} {F_X9_stays F_X9_both F_X9_find : KF} (h_X9_stays : k_snd l D cI cS cM yX9_stays cX9_stays 3 (some .int) 1 1 F_X9_stays) (h_X9_both : k_snd l D cI cS cM yX9_both cX9_both 5 (some .int) 2 3 F_X9_both) (h_X9_find : k_snd l D cI cS cM yX9_find cX9_find 3 (some .int) 1 2 F_X9_find) {J : List KC} (hJ : ∀ (i pc d : Nat), ([(17, 0), (27, 0), (102, 0), (119, 0), (170, 0), (180, 0)] : List (Nat × Nat))[i]? = some (pc, d) → KS l D cI cS cM yX9_findElements.cls yX9_findElements.name cX9_findElements 4 none (k_rm 3 0 0) false pc d (k_jmp J i)) : KS l D cI cS cM yX9_findElements.cls yX9_findElements.name cX9_findElements 4 none (k_rm 3 0 0) false 68 0 (b_X9_findElements_68 F_X9_stays F_X9_both F_X9_find J) :=
  s_aload_n dX9_findElements_68 rfl <|
  s_get dX9_findElements_69 (ci := 9) (sl := 7) (Cn := RX9) (Tf := TX9) (N := 40) rfl (by decide) kiX9 kw_6_20 <|
  s_aload_n dX9_findElements_72 rfl <|
  s_get dX9_findElements_73 (ci := 9) (sl := 6) (Cn := RX9) (Tf := TX9) (N := 40) rfl (by decide) kiX9 kw_22_13 <|
  s_iload_n dX9_findElements_76 rfl <|
  s_iast dX9_findElements_77 <|
  s_aload_n dX9_findElements_78 rfl <|
  s_dup dX9_findElements_79 <|
  s_get dX9_findElements_80 (ci := 9) (sl := 6) (Cn := RX9) (Tf := TX9) (N := 40) rfl (by decide) kiX9 kw_22_13 <|
  s_push1 dX9_findElements_83 (by decide) (by decide) <|
  s_iadd dX9_findElements_84 <|
  s_puti dX9_findElements_85 (ci := 9) (sl := 6) (Cn := RX9) (Tf := TX9) (N := 40) (tyf := tyX9) rfl (by decide) kiX9 tyX9_ok nmX9 kw_22_13 rfl rfl <|
  s_X9_findElements_88 h_X9_stays h_X9_both h_X9_find hJ
noncomputable def b_X9_findElements_37 (F_X9_stays F_X9_both F_X9_find : KF) (J : List KC) : KC := o_aload 0 <| o_aload 0 <| o_get 9 7 <| o_iload 1 <| o_iald <| o_aload 0 <| o_get 9 0 <| o_push 2 <| o_iload 2 <| o_bin n_add <| o_iald <| o_cV1 3 9 F_X9_both <| o_istore 3 <| o_aload 0 <| o_iload 3 <| o_cV1 2 9 F_X9_find <| o_aload 0 <| o_get 9 6 <| o_c2 Nat.beq (b_X9_findElements_68 F_X9_stays F_X9_both F_X9_find J) (b_X9_findElements_88 F_X9_stays F_X9_both F_X9_find J)
set_option maxRecDepth 100000 in
theorem s_X9_findElements_37 {l : Launch} {D : va_G} {cI cS cM : ClassId} {F_X9_stays F_X9_both F_X9_find : KF} (h_X9_stays : k_snd l D cI cS cM yX9_stays cX9_stays 3 (some .int) 1 1 F_X9_stays) (h_X9_both : k_snd l D cI cS cM yX9_both cX9_both 5 (some .int) 2 3 F_X9_both) (h_X9_find : k_snd l D cI cS cM yX9_find cX9_find 3 (some .int) 1 2 F_X9_find) {J : List KC} (hJ : ∀ (i pc d : Nat), ([(17, 0), (27, 0), (102, 0), (119, 0), (170, 0), (180, 0)] : List (Nat × Nat))[i]? = some (pc, d) → KS l D cI cS cM yX9_findElements.cls yX9_findElements.name cX9_findElements 4 none (k_rm 3 0 0) false pc d (k_jmp J i)) : KS l D cI cS cM yX9_findElements.cls yX9_findElements.name cX9_findElements 4 none (k_rm 3 0 0) false 37 0 (b_X9_findElements_37 F_X9_stays F_X9_both F_X9_find J) :=
  s_aload_n dX9_findElements_37 rfl <|
  s_aload_n dX9_findElements_38 rfl <|
  s_get dX9_findElements_39 (ci := 9) (sl := 7) (Cn := RX9) (Tf := TX9) (N := 40) rfl (by decide) kiX9 kw_6_20 <|
  s_iload_n dX9_findElements_42 rfl <|
  s_iald dX9_findElements_43 <|
  s_aload_n dX9_findElements_44 rfl <|
  s_get dX9_findElements_45 (ci := 9) (sl := 0) (Cn := RX9) (Tf := TX9) (N := 40) rfl (by decide) kiX9 kw_6_16 <|
  s_push1 dX9_findElements_48 (by decide) (by decide) <|
  s_iload_n dX9_findElements_49 rfl <|
  s_iadd dX9_findElements_50 <|
  s_iald dX9_findElements_51 <|
  s_callV1 dX9_findElements_52 kw_23_6 kw_23_7 kw_23_8 (ci := 9) rfl ok_X9_both (by decide) (by decide) h_X9_both (by decide) <|
  s_istore_n dX9_findElements_55 rfl (by decide) <|
  s_aload_n dX9_findElements_56 rfl <|
  s_iload_n dX9_findElements_57 rfl <|
  s_callV1 dX9_findElements_58 kw_23_10 kw_23_11 kw_23_12 (ci := 9) rfl ok_X9_find (by decide) (by decide) h_X9_find (by decide) <|
  s_aload_n dX9_findElements_61 rfl <|
  s_get dX9_findElements_62 (ci := 9) (sl := 6) (Cn := RX9) (Tf := TX9) (N := 40) rfl (by decide) kiX9 kw_22_13 <|
  s_icmp_ne dX9_findElements_65 (by decide) (s_X9_findElements_88 h_X9_stays h_X9_both h_X9_find hJ) (s_X9_findElements_68 h_X9_stays h_X9_both h_X9_find hJ)
noncomputable def b_X9_findElements_27 (F_X9_stays F_X9_both F_X9_find : KF) (J : List KC) : KC := o_iload 2 <| o_aload 0 <| o_get 9 0 <| o_push 1 <| o_iald <| o_c2 s_lt (b_X9_findElements_37 F_X9_stays F_X9_both F_X9_find J) (b_X9_findElements_94 F_X9_stays F_X9_both F_X9_find J)
set_option maxRecDepth 100000 in
theorem s_X9_findElements_27 {l : Launch} {D : va_G} {cI cS cM : ClassId} {F_X9_stays F_X9_both F_X9_find : KF} (h_X9_stays : k_snd l D cI cS cM yX9_stays cX9_stays 3 (some .int) 1 1 F_X9_stays) (h_X9_both : k_snd l D cI cS cM yX9_both cX9_both 5 (some .int) 2 3 F_X9_both) (h_X9_find : k_snd l D cI cS cM yX9_find cX9_find 3 (some .int) 1 2 F_X9_find) {J : List KC} (hJ : ∀ (i pc d : Nat), ([(17, 0), (27, 0), (102, 0), (119, 0), (170, 0), (180, 0)] : List (Nat × Nat))[i]? = some (pc, d) → KS l D cI cS cM yX9_findElements.cls yX9_findElements.name cX9_findElements 4 none (k_rm 3 0 0) false pc d (k_jmp J i)) : KS l D cI cS cM yX9_findElements.cls yX9_findElements.name cX9_findElements 4 none (k_rm 3 0 0) false 27 0 (b_X9_findElements_27 F_X9_stays F_X9_both F_X9_find J) :=
  s_iload_n dX9_findElements_27 rfl <|
  s_aload_n dX9_findElements_28 rfl <|
  s_get dX9_findElements_29 (ci := 9) (sl := 0) (Cn := RX9) (Tf := TX9) (N := 40) rfl (by decide) kiX9 kw_6_16 <|
  s_push1 dX9_findElements_32 (by decide) (by decide) <|
  s_iald dX9_findElements_33 <|
  s_icmp_ge dX9_findElements_34 (by decide) (s_X9_findElements_94 h_X9_stays h_X9_both h_X9_find hJ) (s_X9_findElements_37 h_X9_stays h_X9_both h_X9_find hJ)
noncomputable def b_X9_findElements_25 (F_X9_stays F_X9_both F_X9_find : KF) (J : List KC) : KC := o_push 0 <| o_istore 2 <| b_X9_findElements_27 F_X9_stays F_X9_both F_X9_find J
set_option maxRecDepth 100000 in
theorem s_X9_findElements_25 {l : Launch} {D : va_G} {cI cS cM : ClassId} {F_X9_stays F_X9_both F_X9_find : KF} (h_X9_stays : k_snd l D cI cS cM yX9_stays cX9_stays 3 (some .int) 1 1 F_X9_stays) (h_X9_both : k_snd l D cI cS cM yX9_both cX9_both 5 (some .int) 2 3 F_X9_both) (h_X9_find : k_snd l D cI cS cM yX9_find cX9_find 3 (some .int) 1 2 F_X9_find) {J : List KC} (hJ : ∀ (i pc d : Nat), ([(17, 0), (27, 0), (102, 0), (119, 0), (170, 0), (180, 0)] : List (Nat × Nat))[i]? = some (pc, d) → KS l D cI cS cM yX9_findElements.cls yX9_findElements.name cX9_findElements 4 none (k_rm 3 0 0) false pc d (k_jmp J i)) : KS l D cI cS cM yX9_findElements.cls yX9_findElements.name cX9_findElements 4 none (k_rm 3 0 0) false 25 0 (b_X9_findElements_25 F_X9_stays F_X9_both F_X9_find J) :=
  s_push1 dX9_findElements_25 (by decide) (by decide) <|
  s_istore_n dX9_findElements_26 rfl (by decide) <|
  s_X9_findElements_27 h_X9_stays h_X9_both h_X9_find hJ
noncomputable def b_X9_findElements_17 (F_X9_stays F_X9_both F_X9_find : KF) (J : List KC) : KC := o_iload 1 <| o_aload 0 <| o_get 9 6 <| o_c2 s_lt (b_X9_findElements_25 F_X9_stays F_X9_both F_X9_find J) (b_X9_findElements_100 F_X9_stays F_X9_both F_X9_find J)
set_option maxRecDepth 100000 in
theorem s_X9_findElements_17 {l : Launch} {D : va_G} {cI cS cM : ClassId} {F_X9_stays F_X9_both F_X9_find : KF} (h_X9_stays : k_snd l D cI cS cM yX9_stays cX9_stays 3 (some .int) 1 1 F_X9_stays) (h_X9_both : k_snd l D cI cS cM yX9_both cX9_both 5 (some .int) 2 3 F_X9_both) (h_X9_find : k_snd l D cI cS cM yX9_find cX9_find 3 (some .int) 1 2 F_X9_find) {J : List KC} (hJ : ∀ (i pc d : Nat), ([(17, 0), (27, 0), (102, 0), (119, 0), (170, 0), (180, 0)] : List (Nat × Nat))[i]? = some (pc, d) → KS l D cI cS cM yX9_findElements.cls yX9_findElements.name cX9_findElements 4 none (k_rm 3 0 0) false pc d (k_jmp J i)) : KS l D cI cS cM yX9_findElements.cls yX9_findElements.name cX9_findElements 4 none (k_rm 3 0 0) false 17 0 (b_X9_findElements_17 F_X9_stays F_X9_both F_X9_find J) :=
  s_iload_n dX9_findElements_17 rfl <|
  s_aload_n dX9_findElements_18 rfl <|
  s_get dX9_findElements_19 (ci := 9) (sl := 6) (Cn := RX9) (Tf := TX9) (N := 40) rfl (by decide) kiX9 kw_22_13 <|
  s_icmp_ge dX9_findElements_22 (by decide) (s_X9_findElements_100 h_X9_stays h_X9_both h_X9_find hJ) (s_X9_findElements_25 h_X9_stays h_X9_both h_X9_find hJ)
noncomputable def b_X9_findElements_0 (F_X9_stays F_X9_both F_X9_find : KF) (J : List KC) : KC := o_aload 0 <| o_push 1 <| o_puti 9 6 <| o_aload 0 <| o_get 9 7 <| o_push 0 <| o_aload 0 <| o_cV1 1 9 F_X9_stays <| o_iast <| o_push 0 <| o_istore 1 <| b_X9_findElements_17 F_X9_stays F_X9_both F_X9_find J
set_option maxRecDepth 100000 in
theorem s_X9_findElements_0 {l : Launch} {D : va_G} {cI cS cM : ClassId} {F_X9_stays F_X9_both F_X9_find : KF} (h_X9_stays : k_snd l D cI cS cM yX9_stays cX9_stays 3 (some .int) 1 1 F_X9_stays) (h_X9_both : k_snd l D cI cS cM yX9_both cX9_both 5 (some .int) 2 3 F_X9_both) (h_X9_find : k_snd l D cI cS cM yX9_find cX9_find 3 (some .int) 1 2 F_X9_find) {J : List KC} (hJ : ∀ (i pc d : Nat), ([(17, 0), (27, 0), (102, 0), (119, 0), (170, 0), (180, 0)] : List (Nat × Nat))[i]? = some (pc, d) → KS l D cI cS cM yX9_findElements.cls yX9_findElements.name cX9_findElements 4 none (k_rm 3 0 0) false pc d (k_jmp J i)) : KS l D cI cS cM yX9_findElements.cls yX9_findElements.name cX9_findElements 4 none (k_rm 3 0 0) false 0 0 (b_X9_findElements_0 F_X9_stays F_X9_both F_X9_find J) :=
  s_aload_n dX9_findElements_0 rfl <|
  s_push1 dX9_findElements_1 (by decide) (by decide) <|
  s_puti dX9_findElements_2 (ci := 9) (sl := 6) (Cn := RX9) (Tf := TX9) (N := 40) (tyf := tyX9) rfl (by decide) kiX9 tyX9_ok nmX9 kw_22_13 rfl rfl <|
  s_aload_n dX9_findElements_5 rfl <|
  s_get dX9_findElements_6 (ci := 9) (sl := 7) (Cn := RX9) (Tf := TX9) (N := 40) rfl (by decide) kiX9 kw_6_20 <|
  s_push1 dX9_findElements_9 (by decide) (by decide) <|
  s_aload_n dX9_findElements_10 rfl <|
  s_callV1 dX9_findElements_11 kw_23_2 kw_23_3 kw_23_4 (ci := 9) rfl ok_X9_stays (by decide) (by decide) h_X9_stays (by decide) <|
  s_iast dX9_findElements_14 <|
  s_push1 dX9_findElements_15 (by decide) (by decide) <|
  s_istore_n dX9_findElements_16 rfl (by decide) <|
  s_X9_findElements_17 h_X9_stays h_X9_both h_X9_find hJ
noncomputable def j_X9_findElements (F_X9_stays F_X9_both F_X9_find : KF) (J : List KC) : List KC := [b_X9_findElements_17 F_X9_stays F_X9_both F_X9_find J, b_X9_findElements_27 F_X9_stays F_X9_both F_X9_find J, b_X9_findElements_102 F_X9_stays F_X9_both F_X9_find J, b_X9_findElements_119 F_X9_stays F_X9_both F_X9_find J, b_X9_findElements_170 F_X9_stays F_X9_both F_X9_find J, b_X9_findElements_180 F_X9_stays F_X9_both F_X9_find J]
noncomputable def m_X9_findElements (F_X9_stays F_X9_both F_X9_find : KF) (n : Nat) : KF := k_fun [k_u, k_u, k_u] (b_X9_findElements_0 F_X9_stays F_X9_both F_X9_find (k_loop (j_X9_findElements F_X9_stays F_X9_both F_X9_find) n))
theorem r_X9_findElements {l : Launch} {D : va_G} {cI cS cM : ClassId} {F_X9_stays F_X9_both F_X9_find : KF} (h_X9_stays : k_snd l D cI cS cM yX9_stays cX9_stays 3 (some .int) 1 1 F_X9_stays) (h_X9_both : k_snd l D cI cS cM yX9_both cX9_both 5 (some .int) 2 3 F_X9_both) (h_X9_find : k_snd l D cI cS cM yX9_find cX9_find 3 (some .int) 1 2 F_X9_find) (n : Nat) : k_snd l D cI cS cM yX9_findElements cX9_findElements 4 none 3 1 (m_X9_findElements F_X9_stays F_X9_both F_X9_find n) :=
  k_method (by decide +kernel) (by simp) rfl (s_X9_findElements_0 h_X9_stays h_X9_both h_X9_find (k_loops (hs := [(17, 0), (27, 0), (102, 0), (119, 0), (170, 0), (180, 0)]) (fun J hJ i pc d h => match i, h with | 0, h => by cases h; exact s_X9_findElements_17 h_X9_stays h_X9_both h_X9_find hJ | 1, h => by cases h; exact s_X9_findElements_27 h_X9_stays h_X9_both h_X9_find hJ | 2, h => by cases h; exact s_X9_findElements_102 h_X9_stays h_X9_both h_X9_find hJ | 3, h => by cases h; exact s_X9_findElements_119 h_X9_stays h_X9_both h_X9_find hJ | 4, h => by cases h; exact s_X9_findElements_170 h_X9_stays h_X9_both h_X9_find hJ | 5, h => by cases h; exact s_X9_findElements_180 h_X9_stays h_X9_both h_X9_find hJ | _ + 6, h => by simp at h) n))
noncomputable def b_X9_leadBy_191 (F_X9_by F_X9_over : KF) (J : List KC) : KC := o_ret
set_option maxRecDepth 100000 in
theorem s_X9_leadBy_191 {l : Launch} {D : va_G} {cI cS cM : ClassId} {F_X9_by F_X9_over : KF} (h_X9_by : k_snd l D cI cS cM yX9_by cX9_by 4 (some .int) 2 3 F_X9_by) (h_X9_over : k_snd l D cI cS cM yX9_over cX9_over 3 (some .int) 1 2 F_X9_over) {J : List KC} (hJ : ∀ (i pc d : Nat), ([(16, 0), (90, 0), (126, 0)] : List (Nat × Nat))[i]? = some (pc, d) → KS l D cI cS cM yX9_leadBy.cls yX9_leadBy.name cX9_leadBy 9 none (k_rm 3 0 0) false pc d (k_jmp J i)) : KS l D cI cS cM yX9_leadBy.cls yX9_leadBy.name cX9_leadBy 9 none (k_rm 3 0 0) false 191 0 (b_X9_leadBy_191 F_X9_by F_X9_over J) :=
  s_return dX9_leadBy_191 rfl
noncomputable def b_X9_leadBy_185 (F_X9_by F_X9_over : KF) (J : List KC) : KC := o_iinc 6 1 <| k_jmp J 1
set_option maxRecDepth 100000 in
theorem s_X9_leadBy_185 {l : Launch} {D : va_G} {cI cS cM : ClassId} {F_X9_by F_X9_over : KF} (h_X9_by : k_snd l D cI cS cM yX9_by cX9_by 4 (some .int) 2 3 F_X9_by) (h_X9_over : k_snd l D cI cS cM yX9_over cX9_over 3 (some .int) 1 2 F_X9_over) {J : List KC} (hJ : ∀ (i pc d : Nat), ([(16, 0), (90, 0), (126, 0)] : List (Nat × Nat))[i]? = some (pc, d) → KS l D cI cS cM yX9_leadBy.cls yX9_leadBy.name cX9_leadBy 9 none (k_rm 3 0 0) false pc d (k_jmp J i)) : KS l D cI cS cM yX9_leadBy.cls yX9_leadBy.name cX9_leadBy 9 none (k_rm 3 0 0) false 185 0 (b_X9_leadBy_185 F_X9_by F_X9_over J) :=
  s_iinc dX9_leadBy_185 (by decide) (by decide) <|
  s_goto dX9_leadBy_188 (by decide) (hJ 1 _ _ rfl)
noncomputable def b_X9_leadBy_133 (F_X9_by F_X9_over : KF) (J : List KC) : KC := o_aload 0 <| o_get 9 25 <| o_push 8 <| o_iload 6 <| o_bin n_mul <| o_iload 8 <| o_bin n_add <| o_aload 0 <| o_aload 0 <| o_get 9 25 <| o_push 8 <| o_iload 6 <| o_bin n_mul <| o_iload 8 <| o_bin n_add <| o_iald <| o_iload 7 <| o_aload 0 <| o_get 9 25 <| o_push 8 <| o_iload 2 <| o_bin n_mul <| o_iload 8 <| o_bin n_add <| o_iald <| o_bin n_mul <| o_bin n_sub <| o_cV1 2 9 F_X9_over <| o_iast <| o_iinc 8 1 <| k_jmp J 2
set_option maxRecDepth 100000 in
theorem s_X9_leadBy_133 {l : Launch} {D : va_G} {cI cS cM : ClassId} {F_X9_by F_X9_over : KF} (h_X9_by : k_snd l D cI cS cM yX9_by cX9_by 4 (some .int) 2 3 F_X9_by) (h_X9_over : k_snd l D cI cS cM yX9_over cX9_over 3 (some .int) 1 2 F_X9_over) {J : List KC} (hJ : ∀ (i pc d : Nat), ([(16, 0), (90, 0), (126, 0)] : List (Nat × Nat))[i]? = some (pc, d) → KS l D cI cS cM yX9_leadBy.cls yX9_leadBy.name cX9_leadBy 9 none (k_rm 3 0 0) false pc d (k_jmp J i)) : KS l D cI cS cM yX9_leadBy.cls yX9_leadBy.name cX9_leadBy 9 none (k_rm 3 0 0) false 133 0 (b_X9_leadBy_133 F_X9_by F_X9_over J) :=
  s_aload_n dX9_leadBy_133 rfl <|
  s_get dX9_leadBy_134 (ci := 9) (sl := 25) (Cn := RX9) (Tf := TX9) (N := 40) rfl (by decide) kiX9 kw_7_8 <|
  s_push2 dX9_leadBy_137 (by decide) (by decide) <|
  s_iload dX9_leadBy_139 <|
  s_imul dX9_leadBy_141 <|
  s_iload dX9_leadBy_142 <|
  s_iadd dX9_leadBy_144 <|
  s_aload_n dX9_leadBy_145 rfl <|
  s_aload_n dX9_leadBy_146 rfl <|
  s_get dX9_leadBy_147 (ci := 9) (sl := 25) (Cn := RX9) (Tf := TX9) (N := 40) rfl (by decide) kiX9 kw_7_8 <|
  s_push2 dX9_leadBy_150 (by decide) (by decide) <|
  s_iload dX9_leadBy_152 <|
  s_imul dX9_leadBy_154 <|
  s_iload dX9_leadBy_155 <|
  s_iadd dX9_leadBy_157 <|
  s_iald dX9_leadBy_158 <|
  s_iload dX9_leadBy_159 <|
  s_aload_n dX9_leadBy_161 rfl <|
  s_get dX9_leadBy_162 (ci := 9) (sl := 25) (Cn := RX9) (Tf := TX9) (N := 40) rfl (by decide) kiX9 kw_7_8 <|
  s_push2 dX9_leadBy_165 (by decide) (by decide) <|
  s_iload_n dX9_leadBy_167 rfl <|
  s_imul dX9_leadBy_168 <|
  s_iload dX9_leadBy_169 <|
  s_iadd dX9_leadBy_171 <|
  s_iald dX9_leadBy_172 <|
  s_imul dX9_leadBy_173 <|
  s_isub dX9_leadBy_174 <|
  s_callV1 dX9_leadBy_175 kw_25_14 kw_25_15 kw_25_16 (ci := 9) rfl ok_X9_over (by decide) (by decide) h_X9_over (by decide) <|
  s_iast dX9_leadBy_178 <|
  s_iinc dX9_leadBy_179 (by decide) (by decide) <|
  s_goto dX9_leadBy_182 (by decide) (hJ 2 _ _ rfl)
noncomputable def b_X9_leadBy_126 (F_X9_by F_X9_over : KF) (J : List KC) : KC := o_iload 8 <| o_iload 4 <| o_c2 s_lt (b_X9_leadBy_133 F_X9_by F_X9_over J) (b_X9_leadBy_185 F_X9_by F_X9_over J)
set_option maxRecDepth 100000 in
theorem s_X9_leadBy_126 {l : Launch} {D : va_G} {cI cS cM : ClassId} {F_X9_by F_X9_over : KF} (h_X9_by : k_snd l D cI cS cM yX9_by cX9_by 4 (some .int) 2 3 F_X9_by) (h_X9_over : k_snd l D cI cS cM yX9_over cX9_over 3 (some .int) 1 2 F_X9_over) {J : List KC} (hJ : ∀ (i pc d : Nat), ([(16, 0), (90, 0), (126, 0)] : List (Nat × Nat))[i]? = some (pc, d) → KS l D cI cS cM yX9_leadBy.cls yX9_leadBy.name cX9_leadBy 9 none (k_rm 3 0 0) false pc d (k_jmp J i)) : KS l D cI cS cM yX9_leadBy.cls yX9_leadBy.name cX9_leadBy 9 none (k_rm 3 0 0) false 126 0 (b_X9_leadBy_126 F_X9_by F_X9_over J) :=
  s_iload dX9_leadBy_126 <|
  s_iload dX9_leadBy_128 <|
  s_icmp_ge dX9_leadBy_130 (by decide) (s_X9_leadBy_185 h_X9_by h_X9_over hJ) (s_X9_leadBy_133 h_X9_by h_X9_over hJ)
noncomputable def b_X9_leadBy_121 (F_X9_by F_X9_over : KF) (J : List KC) : KC := o_istore 7 <| o_push 0 <| o_istore 8 <| b_X9_leadBy_126 F_X9_by F_X9_over J
set_option maxRecDepth 100000 in
theorem s_X9_leadBy_121 {l : Launch} {D : va_G} {cI cS cM : ClassId} {F_X9_by F_X9_over : KF} (h_X9_by : k_snd l D cI cS cM yX9_by cX9_by 4 (some .int) 2 3 F_X9_by) (h_X9_over : k_snd l D cI cS cM yX9_over cX9_over 3 (some .int) 1 2 F_X9_over) {J : List KC} (hJ : ∀ (i pc d : Nat), ([(16, 0), (90, 0), (126, 0)] : List (Nat × Nat))[i]? = some (pc, d) → KS l D cI cS cM yX9_leadBy.cls yX9_leadBy.name cX9_leadBy 9 none (k_rm 3 0 0) false pc d (k_jmp J i)) : KS l D cI cS cM yX9_leadBy.cls yX9_leadBy.name cX9_leadBy 9 none (k_rm 3 0 0) false 121 1 (b_X9_leadBy_121 F_X9_by F_X9_over J) :=
  s_istore dX9_leadBy_121 (by decide) <|
  s_push1 dX9_leadBy_123 (by decide) (by decide) <|
  s_istore dX9_leadBy_124 (by decide) <|
  s_X9_leadBy_126 h_X9_by h_X9_over hJ
noncomputable def b_X9_leadBy_109 (F_X9_by F_X9_over : KF) (J : List KC) : KC := o_aload 0 <| o_get 9 25 <| o_push 8 <| o_iload 6 <| o_bin n_mul <| o_iload 3 <| o_bin n_add <| o_iald <| b_X9_leadBy_121 F_X9_by F_X9_over J
set_option maxRecDepth 100000 in
theorem s_X9_leadBy_109 {l : Launch} {D : va_G} {cI cS cM : ClassId} {F_X9_by F_X9_over : KF} (h_X9_by : k_snd l D cI cS cM yX9_by cX9_by 4 (some .int) 2 3 F_X9_by) (h_X9_over : k_snd l D cI cS cM yX9_over cX9_over 3 (some .int) 1 2 F_X9_over) {J : List KC} (hJ : ∀ (i pc d : Nat), ([(16, 0), (90, 0), (126, 0)] : List (Nat × Nat))[i]? = some (pc, d) → KS l D cI cS cM yX9_leadBy.cls yX9_leadBy.name cX9_leadBy 9 none (k_rm 3 0 0) false pc d (k_jmp J i)) : KS l D cI cS cM yX9_leadBy.cls yX9_leadBy.name cX9_leadBy 9 none (k_rm 3 0 0) false 109 0 (b_X9_leadBy_109 F_X9_by F_X9_over J) :=
  s_aload_n dX9_leadBy_109 rfl <|
  s_get dX9_leadBy_110 (ci := 9) (sl := 25) (Cn := RX9) (Tf := TX9) (N := 40) rfl (by decide) kiX9 kw_7_8 <|
  s_push2 dX9_leadBy_113 (by decide) (by decide) <|
  s_iload dX9_leadBy_115 <|
  s_imul dX9_leadBy_117 <|
  s_iload_n dX9_leadBy_118 rfl <|
  s_iadd dX9_leadBy_119 <|
  s_iald dX9_leadBy_120 <|
  s_X9_leadBy_121 h_X9_by h_X9_over hJ
noncomputable def b_X9_leadBy_105 (F_X9_by F_X9_over : KF) (J : List KC) : KC := o_push 0 <| b_X9_leadBy_121 F_X9_by F_X9_over J
set_option maxRecDepth 100000 in
theorem s_X9_leadBy_105 {l : Launch} {D : va_G} {cI cS cM : ClassId} {F_X9_by F_X9_over : KF} (h_X9_by : k_snd l D cI cS cM yX9_by cX9_by 4 (some .int) 2 3 F_X9_by) (h_X9_over : k_snd l D cI cS cM yX9_over cX9_over 3 (some .int) 1 2 F_X9_over) {J : List KC} (hJ : ∀ (i pc d : Nat), ([(16, 0), (90, 0), (126, 0)] : List (Nat × Nat))[i]? = some (pc, d) → KS l D cI cS cM yX9_leadBy.cls yX9_leadBy.name cX9_leadBy 9 none (k_rm 3 0 0) false pc d (k_jmp J i)) : KS l D cI cS cM yX9_leadBy.cls yX9_leadBy.name cX9_leadBy 9 none (k_rm 3 0 0) false 105 0 (b_X9_leadBy_105 F_X9_by F_X9_over J) :=
  s_push1 dX9_leadBy_105 (by decide) (by decide) <|
  s_goto dX9_leadBy_106 (by decide) (s_X9_leadBy_121 h_X9_by h_X9_over hJ)
noncomputable def b_X9_leadBy_99 (F_X9_by F_X9_over : KF) (J : List KC) : KC := o_iload 6 <| o_iload 2 <| o_c2 Nat.beq (b_X9_leadBy_105 F_X9_by F_X9_over J) (b_X9_leadBy_109 F_X9_by F_X9_over J)
set_option maxRecDepth 100000 in
theorem s_X9_leadBy_99 {l : Launch} {D : va_G} {cI cS cM : ClassId} {F_X9_by F_X9_over : KF} (h_X9_by : k_snd l D cI cS cM yX9_by cX9_by 4 (some .int) 2 3 F_X9_by) (h_X9_over : k_snd l D cI cS cM yX9_over cX9_over 3 (some .int) 1 2 F_X9_over) {J : List KC} (hJ : ∀ (i pc d : Nat), ([(16, 0), (90, 0), (126, 0)] : List (Nat × Nat))[i]? = some (pc, d) → KS l D cI cS cM yX9_leadBy.cls yX9_leadBy.name cX9_leadBy 9 none (k_rm 3 0 0) false pc d (k_jmp J i)) : KS l D cI cS cM yX9_leadBy.cls yX9_leadBy.name cX9_leadBy 9 none (k_rm 3 0 0) false 99 0 (b_X9_leadBy_99 F_X9_by F_X9_over J) :=
  s_iload dX9_leadBy_99 <|
  s_iload_n dX9_leadBy_101 rfl <|
  s_icmp_ne dX9_leadBy_102 (by decide) (s_X9_leadBy_109 h_X9_by h_X9_over hJ) (s_X9_leadBy_105 h_X9_by h_X9_over hJ)
noncomputable def b_X9_leadBy_90 (F_X9_by F_X9_over : KF) (J : List KC) : KC := o_iload 6 <| o_aload 0 <| o_get 9 12 <| o_c2 s_lt (b_X9_leadBy_99 F_X9_by F_X9_over J) (b_X9_leadBy_191 F_X9_by F_X9_over J)
set_option maxRecDepth 100000 in
theorem s_X9_leadBy_90 {l : Launch} {D : va_G} {cI cS cM : ClassId} {F_X9_by F_X9_over : KF} (h_X9_by : k_snd l D cI cS cM yX9_by cX9_by 4 (some .int) 2 3 F_X9_by) (h_X9_over : k_snd l D cI cS cM yX9_over cX9_over 3 (some .int) 1 2 F_X9_over) {J : List KC} (hJ : ∀ (i pc d : Nat), ([(16, 0), (90, 0), (126, 0)] : List (Nat × Nat))[i]? = some (pc, d) → KS l D cI cS cM yX9_leadBy.cls yX9_leadBy.name cX9_leadBy 9 none (k_rm 3 0 0) false pc d (k_jmp J i)) : KS l D cI cS cM yX9_leadBy.cls yX9_leadBy.name cX9_leadBy 9 none (k_rm 3 0 0) false 90 0 (b_X9_leadBy_90 F_X9_by F_X9_over J) :=
  s_iload dX9_leadBy_90 <|
  s_aload_n dX9_leadBy_92 rfl <|
  s_get dX9_leadBy_93 (ci := 9) (sl := 12) (Cn := RX9) (Tf := TX9) (N := 40) rfl (by decide) kiX9 kw_22_14 <|
  s_icmp_ge dX9_leadBy_96 (by decide) (s_X9_leadBy_191 h_X9_by h_X9_over hJ) (s_X9_leadBy_99 h_X9_by h_X9_over hJ)
noncomputable def b_X9_leadBy_87 (F_X9_by F_X9_over : KF) (J : List KC) : KC := o_push 0 <| o_istore 6 <| b_X9_leadBy_90 F_X9_by F_X9_over J
set_option maxRecDepth 100000 in
theorem s_X9_leadBy_87 {l : Launch} {D : va_G} {cI cS cM : ClassId} {F_X9_by F_X9_over : KF} (h_X9_by : k_snd l D cI cS cM yX9_by cX9_by 4 (some .int) 2 3 F_X9_by) (h_X9_over : k_snd l D cI cS cM yX9_over cX9_over 3 (some .int) 1 2 F_X9_over) {J : List KC} (hJ : ∀ (i pc d : Nat), ([(16, 0), (90, 0), (126, 0)] : List (Nat × Nat))[i]? = some (pc, d) → KS l D cI cS cM yX9_leadBy.cls yX9_leadBy.name cX9_leadBy 9 none (k_rm 3 0 0) false pc d (k_jmp J i)) : KS l D cI cS cM yX9_leadBy.cls yX9_leadBy.name cX9_leadBy 9 none (k_rm 3 0 0) false 87 0 (b_X9_leadBy_87 F_X9_by F_X9_over J) :=
  s_push1 dX9_leadBy_87 (by decide) (by decide) <|
  s_istore dX9_leadBy_88 (by decide) <|
  s_X9_leadBy_90 h_X9_by h_X9_over hJ
noncomputable def b_X9_leadBy_23 (F_X9_by F_X9_over : KF) (J : List KC) : KC := o_aload 0 <| o_aload 0 <| o_get 9 25 <| o_push 8 <| o_iload 1 <| o_bin n_mul <| o_iload 6 <| o_bin n_add <| o_iald <| o_iload 5 <| o_cV1 3 9 F_X9_by <| o_istore 7 <| o_aload 0 <| o_get 9 25 <| o_push 8 <| o_iload 1 <| o_bin n_mul <| o_iload 6 <| o_bin n_add <| o_aload 0 <| o_get 9 25 <| o_push 8 <| o_iload 2 <| o_bin n_mul <| o_iload 6 <| o_bin n_add <| o_iald <| o_iast <| o_aload 0 <| o_get 9 25 <| o_push 8 <| o_iload 2 <| o_bin n_mul <| o_iload 6 <| o_bin n_add <| o_iload 7 <| o_iast <| o_iinc 6 1 <| k_jmp J 0
set_option maxRecDepth 100000 in
theorem s_X9_leadBy_23 {l : Launch} {D : va_G} {cI cS cM : ClassId} {F_X9_by F_X9_over : KF} (h_X9_by : k_snd l D cI cS cM yX9_by cX9_by 4 (some .int) 2 3 F_X9_by) (h_X9_over : k_snd l D cI cS cM yX9_over cX9_over 3 (some .int) 1 2 F_X9_over) {J : List KC} (hJ : ∀ (i pc d : Nat), ([(16, 0), (90, 0), (126, 0)] : List (Nat × Nat))[i]? = some (pc, d) → KS l D cI cS cM yX9_leadBy.cls yX9_leadBy.name cX9_leadBy 9 none (k_rm 3 0 0) false pc d (k_jmp J i)) : KS l D cI cS cM yX9_leadBy.cls yX9_leadBy.name cX9_leadBy 9 none (k_rm 3 0 0) false 23 0 (b_X9_leadBy_23 F_X9_by F_X9_over J) :=
  s_aload_n dX9_leadBy_23 rfl <|
  s_aload_n dX9_leadBy_24 rfl <|
  s_get dX9_leadBy_25 (ci := 9) (sl := 25) (Cn := RX9) (Tf := TX9) (N := 40) rfl (by decide) kiX9 kw_7_8 <|
  s_push2 dX9_leadBy_28 (by decide) (by decide) <|
  s_iload_n dX9_leadBy_30 rfl <|
  s_imul dX9_leadBy_31 <|
  s_iload dX9_leadBy_32 <|
  s_iadd dX9_leadBy_34 <|
  s_iald dX9_leadBy_35 <|
  s_iload dX9_leadBy_36 <|
  s_callV1 dX9_leadBy_38 kw_26_2 kw_26_3 kw_26_4 (ci := 9) rfl ok_X9_by (by decide) (by decide) h_X9_by (by decide) <|
  s_istore dX9_leadBy_41 (by decide) <|
  s_aload_n dX9_leadBy_43 rfl <|
  s_get dX9_leadBy_44 (ci := 9) (sl := 25) (Cn := RX9) (Tf := TX9) (N := 40) rfl (by decide) kiX9 kw_7_8 <|
  s_push2 dX9_leadBy_47 (by decide) (by decide) <|
  s_iload_n dX9_leadBy_49 rfl <|
  s_imul dX9_leadBy_50 <|
  s_iload dX9_leadBy_51 <|
  s_iadd dX9_leadBy_53 <|
  s_aload_n dX9_leadBy_54 rfl <|
  s_get dX9_leadBy_55 (ci := 9) (sl := 25) (Cn := RX9) (Tf := TX9) (N := 40) rfl (by decide) kiX9 kw_7_8 <|
  s_push2 dX9_leadBy_58 (by decide) (by decide) <|
  s_iload_n dX9_leadBy_60 rfl <|
  s_imul dX9_leadBy_61 <|
  s_iload dX9_leadBy_62 <|
  s_iadd dX9_leadBy_64 <|
  s_iald dX9_leadBy_65 <|
  s_iast dX9_leadBy_66 <|
  s_aload_n dX9_leadBy_67 rfl <|
  s_get dX9_leadBy_68 (ci := 9) (sl := 25) (Cn := RX9) (Tf := TX9) (N := 40) rfl (by decide) kiX9 kw_7_8 <|
  s_push2 dX9_leadBy_71 (by decide) (by decide) <|
  s_iload_n dX9_leadBy_73 rfl <|
  s_imul dX9_leadBy_74 <|
  s_iload dX9_leadBy_75 <|
  s_iadd dX9_leadBy_77 <|
  s_iload dX9_leadBy_78 <|
  s_iast dX9_leadBy_80 <|
  s_iinc dX9_leadBy_81 (by decide) (by decide) <|
  s_goto dX9_leadBy_84 (by decide) (hJ 0 _ _ rfl)
noncomputable def b_X9_leadBy_16 (F_X9_by F_X9_over : KF) (J : List KC) : KC := o_iload 6 <| o_iload 4 <| o_c2 s_lt (b_X9_leadBy_23 F_X9_by F_X9_over J) (b_X9_leadBy_87 F_X9_by F_X9_over J)
set_option maxRecDepth 100000 in
theorem s_X9_leadBy_16 {l : Launch} {D : va_G} {cI cS cM : ClassId} {F_X9_by F_X9_over : KF} (h_X9_by : k_snd l D cI cS cM yX9_by cX9_by 4 (some .int) 2 3 F_X9_by) (h_X9_over : k_snd l D cI cS cM yX9_over cX9_over 3 (some .int) 1 2 F_X9_over) {J : List KC} (hJ : ∀ (i pc d : Nat), ([(16, 0), (90, 0), (126, 0)] : List (Nat × Nat))[i]? = some (pc, d) → KS l D cI cS cM yX9_leadBy.cls yX9_leadBy.name cX9_leadBy 9 none (k_rm 3 0 0) false pc d (k_jmp J i)) : KS l D cI cS cM yX9_leadBy.cls yX9_leadBy.name cX9_leadBy 9 none (k_rm 3 0 0) false 16 0 (b_X9_leadBy_16 F_X9_by F_X9_over J) :=
  s_iload dX9_leadBy_16 <|
  s_iload dX9_leadBy_18 <|
  s_icmp_ge dX9_leadBy_20 (by decide) (s_X9_leadBy_87 h_X9_by h_X9_over hJ) (s_X9_leadBy_23 h_X9_by h_X9_over hJ)
noncomputable def b_X9_leadBy_0 (F_X9_by F_X9_over : KF) (J : List KC) : KC := o_aload 0 <| o_get 9 25 <| o_push 8 <| o_iload 1 <| o_bin n_mul <| o_iload 3 <| o_bin n_add <| o_iald <| o_istore 5 <| o_push 0 <| o_istore 6 <| b_X9_leadBy_16 F_X9_by F_X9_over J
set_option maxRecDepth 100000 in
theorem s_X9_leadBy_0 {l : Launch} {D : va_G} {cI cS cM : ClassId} {F_X9_by F_X9_over : KF} (h_X9_by : k_snd l D cI cS cM yX9_by cX9_by 4 (some .int) 2 3 F_X9_by) (h_X9_over : k_snd l D cI cS cM yX9_over cX9_over 3 (some .int) 1 2 F_X9_over) {J : List KC} (hJ : ∀ (i pc d : Nat), ([(16, 0), (90, 0), (126, 0)] : List (Nat × Nat))[i]? = some (pc, d) → KS l D cI cS cM yX9_leadBy.cls yX9_leadBy.name cX9_leadBy 9 none (k_rm 3 0 0) false pc d (k_jmp J i)) : KS l D cI cS cM yX9_leadBy.cls yX9_leadBy.name cX9_leadBy 9 none (k_rm 3 0 0) false 0 0 (b_X9_leadBy_0 F_X9_by F_X9_over J) :=
  s_aload_n dX9_leadBy_0 rfl <|
  s_get dX9_leadBy_1 (ci := 9) (sl := 25) (Cn := RX9) (Tf := TX9) (N := 40) rfl (by decide) kiX9 kw_7_8 <|
  s_push2 dX9_leadBy_4 (by decide) (by decide) <|
  s_iload_n dX9_leadBy_6 rfl <|
  s_imul dX9_leadBy_7 <|
  s_iload_n dX9_leadBy_8 rfl <|
  s_iadd dX9_leadBy_9 <|
  s_iald dX9_leadBy_10 <|
  s_istore dX9_leadBy_11 (by decide) <|
  s_push1 dX9_leadBy_13 (by decide) (by decide) <|
  s_istore dX9_leadBy_14 (by decide) <|
  s_X9_leadBy_16 h_X9_by h_X9_over hJ
noncomputable def j_X9_leadBy (F_X9_by F_X9_over : KF) (J : List KC) : List KC := [b_X9_leadBy_16 F_X9_by F_X9_over J, b_X9_leadBy_90 F_X9_by F_X9_over J, b_X9_leadBy_126 F_X9_by F_X9_over J]
noncomputable def m_X9_leadBy (F_X9_by F_X9_over : KF) (n : Nat) : KF := k_fun [k_u, k_u, k_u, k_u] (b_X9_leadBy_0 F_X9_by F_X9_over (k_loop (j_X9_leadBy F_X9_by F_X9_over) n))
theorem r_X9_leadBy {l : Launch} {D : va_G} {cI cS cM : ClassId} {F_X9_by F_X9_over : KF} (h_X9_by : k_snd l D cI cS cM yX9_by cX9_by 4 (some .int) 2 3 F_X9_by) (h_X9_over : k_snd l D cI cS cM yX9_over cX9_over 3 (some .int) 1 2 F_X9_over) (n : Nat) : k_snd l D cI cS cM yX9_leadBy cX9_leadBy 9 none 3 5 (m_X9_leadBy F_X9_by F_X9_over n) :=
  k_method (by decide +kernel) (by simp) rfl (s_X9_leadBy_0 h_X9_by h_X9_over (k_loops (hs := [(16, 0), (90, 0), (126, 0)]) (fun J hJ i pc d h => match i, h with | 0, h => by cases h; exact s_X9_leadBy_16 h_X9_by h_X9_over hJ | 1, h => by cases h; exact s_X9_leadBy_90 h_X9_by h_X9_over hJ | 2, h => by cases h; exact s_X9_leadBy_126 h_X9_by h_X9_over hJ | _ + 3, h => by simp at h) n))
noncomputable def b_X9_meet_59 (F_X9_starOf F_X9_over F_X9_by : KF) (J : List KC) : KC := o_aload 0 <| o_iload 2 <| o_aload 0 <| o_get 9 6 <| o_cV1 3 9 F_X9_by <| o_iret
set_option maxRecDepth 100000 in
theorem s_X9_meet_59 {l : Launch} {D : va_G} {cI cS cM : ClassId} {F_X9_starOf F_X9_over F_X9_by : KF} (h_X9_starOf : k_snd l D cI cS cM yX9_starOf cX9_starOf 2 (some .int) 1 2 F_X9_starOf) (h_X9_over : k_snd l D cI cS cM yX9_over cX9_over 3 (some .int) 1 2 F_X9_over) (h_X9_by : k_snd l D cI cS cM yX9_by cX9_by 4 (some .int) 2 3 F_X9_by) {J : List KC} (hJ : ∀ (i pc d : Nat), ([(4, 0)] : List (Nat × Nat))[i]? = some (pc, d) → KS l D cI cS cM yX9_meet.cls yX9_meet.name cX9_meet 4 (some .int) (k_rm 3 0 0) false pc d (k_jmp J i)) : KS l D cI cS cM yX9_meet.cls yX9_meet.name cX9_meet 4 (some .int) (k_rm 3 0 0) false 59 0 (b_X9_meet_59 F_X9_starOf F_X9_over F_X9_by J) :=
  s_aload_n dX9_meet_59 rfl <|
  s_iload_n dX9_meet_60 rfl <|
  s_aload_n dX9_meet_61 rfl <|
  s_get dX9_meet_62 (ci := 9) (sl := 6) (Cn := RX9) (Tf := TX9) (N := 40) rfl (by decide) kiX9 kw_22_13 <|
  s_callV1 dX9_meet_65 kw_26_2 kw_26_3 kw_26_4 (ci := 9) rfl ok_X9_by (by decide) (by decide) h_X9_by (by decide) <|
  s_ireturn dX9_meet_68 rfl
noncomputable def b_X9_meet_12 (F_X9_starOf F_X9_over F_X9_by : KF) (J : List KC) : KC := o_aload 0 <| o_iload 2 <| o_aload 0 <| o_get 9 13 <| o_iload 3 <| o_iald <| o_aload 0 <| o_get 9 30 <| o_iload 3 <| o_iald <| o_bin n_mul <| o_aload 0 <| o_get 9 16 <| o_div n_rem <| o_aload 0 <| o_get 9 29 <| o_push 8 <| o_iload 1 <| o_bin n_mul <| o_aload 0 <| o_iload 3 <| o_cW1 2 9 F_X9_starOf <| o_bin n_add <| o_iald <| o_bin n_mul <| o_bin n_add <| o_cV1 2 9 F_X9_over <| o_istore 2 <| o_iinc 3 1 <| k_jmp J 0
set_option maxRecDepth 100000 in
theorem s_X9_meet_12 {l : Launch} {D : va_G} {cI cS cM : ClassId} {F_X9_starOf F_X9_over F_X9_by : KF} (h_X9_starOf : k_snd l D cI cS cM yX9_starOf cX9_starOf 2 (some .int) 1 2 F_X9_starOf) (h_X9_over : k_snd l D cI cS cM yX9_over cX9_over 3 (some .int) 1 2 F_X9_over) (h_X9_by : k_snd l D cI cS cM yX9_by cX9_by 4 (some .int) 2 3 F_X9_by) {J : List KC} (hJ : ∀ (i pc d : Nat), ([(4, 0)] : List (Nat × Nat))[i]? = some (pc, d) → KS l D cI cS cM yX9_meet.cls yX9_meet.name cX9_meet 4 (some .int) (k_rm 3 0 0) false pc d (k_jmp J i)) : KS l D cI cS cM yX9_meet.cls yX9_meet.name cX9_meet 4 (some .int) (k_rm 3 0 0) false 12 0 (b_X9_meet_12 F_X9_starOf F_X9_over F_X9_by J) :=
  s_aload_n dX9_meet_12 rfl <|
  s_iload_n dX9_meet_13 rfl <|
  s_aload_n dX9_meet_14 rfl <|
  s_get dX9_meet_15 (ci := 9) (sl := 13) (Cn := RX9) (Tf := TX9) (N := 40) rfl (by decide) kiX9 kw_7_1 <|
  s_iload_n dX9_meet_18 rfl <|
  s_iald dX9_meet_19 <|
  s_aload_n dX9_meet_20 rfl <|
  s_get dX9_meet_21 (ci := 9) (sl := 30) (Cn := RX9) (Tf := TX9) (N := 40) rfl (by decide) kiX9 kw_7_13 <|
  s_iload_n dX9_meet_24 rfl <|
  s_iald dX9_meet_25 <|
  s_imul dX9_meet_26 <|
  s_aload_n dX9_meet_27 rfl <|
  s_get dX9_meet_28 (ci := 9) (sl := 16) (Cn := RX9) (Tf := TX9) (N := 40) rfl (by decide) kiX9 kw_22_16 <|
  s_irem dX9_meet_31 <|
  s_aload_n dX9_meet_32 rfl <|
  s_get dX9_meet_33 (ci := 9) (sl := 29) (Cn := RX9) (Tf := TX9) (N := 40) rfl (by decide) kiX9 kw_7_12 <|
  s_push2 dX9_meet_36 (by decide) (by decide) <|
  s_iload_n dX9_meet_38 rfl <|
  s_imul dX9_meet_39 <|
  s_aload_n dX9_meet_40 rfl <|
  s_iload_n dX9_meet_41 rfl <|
  s_callW1 dX9_meet_42 kw_26_14 kw_26_15 kw_26_16 (ci := 9) rfl ok_X9_starOf (by decide) (by decide) h_X9_starOf (by decide) <|
  s_iadd dX9_meet_45 <|
  s_iald dX9_meet_46 <|
  s_imul dX9_meet_47 <|
  s_iadd dX9_meet_48 <|
  s_callV1 dX9_meet_49 kw_25_14 kw_25_15 kw_25_16 (ci := 9) rfl ok_X9_over (by decide) (by decide) h_X9_over (by decide) <|
  s_istore_n dX9_meet_52 rfl (by decide) <|
  s_iinc dX9_meet_53 (by decide) (by decide) <|
  s_goto dX9_meet_56 (by decide) (hJ 0 _ _ rfl)
noncomputable def b_X9_meet_4 (F_X9_starOf F_X9_over F_X9_by : KF) (J : List KC) : KC := o_iload 3 <| o_aload 0 <| o_get 9 12 <| o_c2 s_lt (b_X9_meet_12 F_X9_starOf F_X9_over F_X9_by J) (b_X9_meet_59 F_X9_starOf F_X9_over F_X9_by J)
set_option maxRecDepth 100000 in
theorem s_X9_meet_4 {l : Launch} {D : va_G} {cI cS cM : ClassId} {F_X9_starOf F_X9_over F_X9_by : KF} (h_X9_starOf : k_snd l D cI cS cM yX9_starOf cX9_starOf 2 (some .int) 1 2 F_X9_starOf) (h_X9_over : k_snd l D cI cS cM yX9_over cX9_over 3 (some .int) 1 2 F_X9_over) (h_X9_by : k_snd l D cI cS cM yX9_by cX9_by 4 (some .int) 2 3 F_X9_by) {J : List KC} (hJ : ∀ (i pc d : Nat), ([(4, 0)] : List (Nat × Nat))[i]? = some (pc, d) → KS l D cI cS cM yX9_meet.cls yX9_meet.name cX9_meet 4 (some .int) (k_rm 3 0 0) false pc d (k_jmp J i)) : KS l D cI cS cM yX9_meet.cls yX9_meet.name cX9_meet 4 (some .int) (k_rm 3 0 0) false 4 0 (b_X9_meet_4 F_X9_starOf F_X9_over F_X9_by J) :=
  s_iload_n dX9_meet_4 rfl <|
  s_aload_n dX9_meet_5 rfl <|
  s_get dX9_meet_6 (ci := 9) (sl := 12) (Cn := RX9) (Tf := TX9) (N := 40) rfl (by decide) kiX9 kw_22_14 <|
  s_icmp_ge dX9_meet_9 (by decide) (s_X9_meet_59 h_X9_starOf h_X9_over h_X9_by hJ) (s_X9_meet_12 h_X9_starOf h_X9_over h_X9_by hJ)
noncomputable def b_X9_meet_0 (F_X9_starOf F_X9_over F_X9_by : KF) (J : List KC) : KC := o_push 0 <| o_istore 2 <| o_push 0 <| o_istore 3 <| b_X9_meet_4 F_X9_starOf F_X9_over F_X9_by J
set_option maxRecDepth 100000 in
theorem s_X9_meet_0 {l : Launch} {D : va_G} {cI cS cM : ClassId} {F_X9_starOf F_X9_over F_X9_by : KF} (h_X9_starOf : k_snd l D cI cS cM yX9_starOf cX9_starOf 2 (some .int) 1 2 F_X9_starOf) (h_X9_over : k_snd l D cI cS cM yX9_over cX9_over 3 (some .int) 1 2 F_X9_over) (h_X9_by : k_snd l D cI cS cM yX9_by cX9_by 4 (some .int) 2 3 F_X9_by) {J : List KC} (hJ : ∀ (i pc d : Nat), ([(4, 0)] : List (Nat × Nat))[i]? = some (pc, d) → KS l D cI cS cM yX9_meet.cls yX9_meet.name cX9_meet 4 (some .int) (k_rm 3 0 0) false pc d (k_jmp J i)) : KS l D cI cS cM yX9_meet.cls yX9_meet.name cX9_meet 4 (some .int) (k_rm 3 0 0) false 0 0 (b_X9_meet_0 F_X9_starOf F_X9_over F_X9_by J) :=
  s_push1 dX9_meet_0 (by decide) (by decide) <|
  s_istore_n dX9_meet_1 rfl (by decide) <|
  s_push1 dX9_meet_2 (by decide) (by decide) <|
  s_istore_n dX9_meet_3 rfl (by decide) <|
  s_X9_meet_4 h_X9_starOf h_X9_over h_X9_by hJ
noncomputable def j_X9_meet (F_X9_starOf F_X9_over F_X9_by : KF) (J : List KC) : List KC := [b_X9_meet_4 F_X9_starOf F_X9_over F_X9_by J]
noncomputable def m_X9_meet (F_X9_starOf F_X9_over F_X9_by : KF) (n : Nat) : KF := k_fun [k_u, k_u] (b_X9_meet_0 F_X9_starOf F_X9_over F_X9_by (k_loop (j_X9_meet F_X9_starOf F_X9_over F_X9_by) n))
theorem r_X9_meet {l : Launch} {D : va_G} {cI cS cM : ClassId} {F_X9_starOf F_X9_over F_X9_by : KF} (h_X9_starOf : k_snd l D cI cS cM yX9_starOf cX9_starOf 2 (some .int) 1 2 F_X9_starOf) (h_X9_over : k_snd l D cI cS cM yX9_over cX9_over 3 (some .int) 1 2 F_X9_over) (h_X9_by : k_snd l D cI cS cM yX9_by cX9_by 4 (some .int) 2 3 F_X9_by) (n : Nat) : k_snd l D cI cS cM yX9_meet cX9_meet 4 (some .int) 3 2 (m_X9_meet F_X9_starOf F_X9_over F_X9_by n) :=
  k_method (by decide +kernel) (by simp) rfl (s_X9_meet_0 h_X9_starOf h_X9_over h_X9_by (k_loops (hs := [(4, 0)]) (fun J hJ i pc d h => match i, h with | 0, h => by cases h; exact s_X9_meet_4 h_X9_starOf h_X9_over h_X9_by hJ | _ + 1, h => by simp at h) n))
noncomputable def b_X9_ofSort_90 (F_X9_starOf F_X9_then F_X9_left : KF) : KC := o_aload 0 <| o_iload 1 <| o_cV1 2 9 F_X9_left <| o_iret
set_option maxRecDepth 100000 in
theorem s_X9_ofSort_90 {l : Launch} {D : va_G} {cI cS cM : ClassId} {F_X9_starOf F_X9_then F_X9_left : KF} (h_X9_starOf : k_snd l D cI cS cM yX9_starOf cX9_starOf 2 (some .int) 1 2 F_X9_starOf) (h_X9_then : k_snd l D cI cS cM yX9_then cX9_then 3 (some .int) 1 3 F_X9_then) (h_X9_left : k_snd l D cI cS cM yX9_left cX9_left 4 (some .int) 2 2 F_X9_left) : KS l D cI cS cM yX9_ofSort.cls yX9_ofSort.name cX9_ofSort 3 (some .int) (k_rm 3 0 0) false 90 0 (b_X9_ofSort_90 F_X9_starOf F_X9_then F_X9_left) :=
  s_aload_n dX9_ofSort_90 rfl <|
  s_iload_n dX9_ofSort_91 rfl <|
  s_callV1 dX9_ofSort_92 kw_29_7 kw_29_8 kw_29_9 (ci := 9) rfl ok_X9_left (by decide) (by decide) h_X9_left (by decide) <|
  s_ireturn dX9_ofSort_95 rfl
noncomputable def b_X9_ofSort_68 (F_X9_starOf F_X9_then F_X9_left : KF) : KC := o_aload 0 <| o_get 9 9 <| o_aload 0 <| o_aload 0 <| o_get 9 14 <| o_iload 1 <| o_iald <| o_aload 0 <| o_get 9 14 <| o_iload 1 <| o_iald <| o_cV1 3 9 F_X9_then <| o_iald <| o_iret
set_option maxRecDepth 100000 in
theorem s_X9_ofSort_68 {l : Launch} {D : va_G} {cI cS cM : ClassId} {F_X9_starOf F_X9_then F_X9_left : KF} (h_X9_starOf : k_snd l D cI cS cM yX9_starOf cX9_starOf 2 (some .int) 1 2 F_X9_starOf) (h_X9_then : k_snd l D cI cS cM yX9_then cX9_then 3 (some .int) 1 3 F_X9_then) (h_X9_left : k_snd l D cI cS cM yX9_left cX9_left 4 (some .int) 2 2 F_X9_left) : KS l D cI cS cM yX9_ofSort.cls yX9_ofSort.name cX9_ofSort 3 (some .int) (k_rm 3 0 0) false 68 0 (b_X9_ofSort_68 F_X9_starOf F_X9_then F_X9_left) :=
  s_aload_n dX9_ofSort_68 rfl <|
  s_get dX9_ofSort_69 (ci := 9) (sl := 9) (Cn := RX9) (Tf := TX9) (N := 40) rfl (by decide) kiX9 kw_6_22 <|
  s_aload_n dX9_ofSort_72 rfl <|
  s_aload_n dX9_ofSort_73 rfl <|
  s_get dX9_ofSort_74 (ci := 9) (sl := 14) (Cn := RX9) (Tf := TX9) (N := 40) rfl (by decide) kiX9 kw_7_2 <|
  s_iload_n dX9_ofSort_77 rfl <|
  s_iald dX9_ofSort_78 <|
  s_aload_n dX9_ofSort_79 rfl <|
  s_get dX9_ofSort_80 (ci := 9) (sl := 14) (Cn := RX9) (Tf := TX9) (N := 40) rfl (by decide) kiX9 kw_7_2 <|
  s_iload_n dX9_ofSort_83 rfl <|
  s_iald dX9_ofSort_84 <|
  s_callV1 dX9_ofSort_85 kw_23_18 kw_23_19 kw_23_20 (ci := 9) rfl ok_X9_then (by decide) (by decide) h_X9_then (by decide) <|
  s_iald dX9_ofSort_88 <|
  s_ireturn dX9_ofSort_89 rfl
noncomputable def b_X9_ofSort_62 (F_X9_starOf F_X9_then F_X9_left : KF) : KC := o_aload 0 <| o_iload 1 <| o_cV1 2 9 F_X9_starOf <| o_iret
set_option maxRecDepth 100000 in
theorem s_X9_ofSort_62 {l : Launch} {D : va_G} {cI cS cM : ClassId} {F_X9_starOf F_X9_then F_X9_left : KF} (h_X9_starOf : k_snd l D cI cS cM yX9_starOf cX9_starOf 2 (some .int) 1 2 F_X9_starOf) (h_X9_then : k_snd l D cI cS cM yX9_then cX9_then 3 (some .int) 1 3 F_X9_then) (h_X9_left : k_snd l D cI cS cM yX9_left cX9_left 4 (some .int) 2 2 F_X9_left) : KS l D cI cS cM yX9_ofSort.cls yX9_ofSort.name cX9_ofSort 3 (some .int) (k_rm 3 0 0) false 62 0 (b_X9_ofSort_62 F_X9_starOf F_X9_then F_X9_left) :=
  s_aload_n dX9_ofSort_62 rfl <|
  s_iload_n dX9_ofSort_63 rfl <|
  s_callV1 dX9_ofSort_64 kw_26_14 kw_26_15 kw_26_16 (ci := 9) rfl ok_X9_starOf (by decide) (by decide) h_X9_starOf (by decide) <|
  s_ireturn dX9_ofSort_67 rfl
noncomputable def b_X9_ofSort_55 (F_X9_starOf F_X9_then F_X9_left : KF) : KC := o_aload 0 <| o_get 9 14 <| o_iload 1 <| o_iald <| o_iret
set_option maxRecDepth 100000 in
theorem s_X9_ofSort_55 {l : Launch} {D : va_G} {cI cS cM : ClassId} {F_X9_starOf F_X9_then F_X9_left : KF} (h_X9_starOf : k_snd l D cI cS cM yX9_starOf cX9_starOf 2 (some .int) 1 2 F_X9_starOf) (h_X9_then : k_snd l D cI cS cM yX9_then cX9_then 3 (some .int) 1 3 F_X9_then) (h_X9_left : k_snd l D cI cS cM yX9_left cX9_left 4 (some .int) 2 2 F_X9_left) : KS l D cI cS cM yX9_ofSort.cls yX9_ofSort.name cX9_ofSort 3 (some .int) (k_rm 3 0 0) false 55 0 (b_X9_ofSort_55 F_X9_starOf F_X9_then F_X9_left) :=
  s_aload_n dX9_ofSort_55 rfl <|
  s_get dX9_ofSort_56 (ci := 9) (sl := 14) (Cn := RX9) (Tf := TX9) (N := 40) rfl (by decide) kiX9 kw_7_2 <|
  s_iload_n dX9_ofSort_59 rfl <|
  s_iald dX9_ofSort_60 <|
  s_ireturn dX9_ofSort_61 rfl
noncomputable def b_X9_ofSort_43 (F_X9_starOf F_X9_then F_X9_left : KF) : KC := o_aload 0 <| o_get 9 11 <| o_aload 0 <| o_get 9 14 <| o_iload 1 <| o_iald <| o_iald <| o_iret
set_option maxRecDepth 100000 in
theorem s_X9_ofSort_43 {l : Launch} {D : va_G} {cI cS cM : ClassId} {F_X9_starOf F_X9_then F_X9_left : KF} (h_X9_starOf : k_snd l D cI cS cM yX9_starOf cX9_starOf 2 (some .int) 1 2 F_X9_starOf) (h_X9_then : k_snd l D cI cS cM yX9_then cX9_then 3 (some .int) 1 3 F_X9_then) (h_X9_left : k_snd l D cI cS cM yX9_left cX9_left 4 (some .int) 2 2 F_X9_left) : KS l D cI cS cM yX9_ofSort.cls yX9_ofSort.name cX9_ofSort 3 (some .int) (k_rm 3 0 0) false 43 0 (b_X9_ofSort_43 F_X9_starOf F_X9_then F_X9_left) :=
  s_aload_n dX9_ofSort_43 rfl <|
  s_get dX9_ofSort_44 (ci := 9) (sl := 11) (Cn := RX9) (Tf := TX9) (N := 40) rfl (by decide) kiX9 kw_7_0 <|
  s_aload_n dX9_ofSort_47 rfl <|
  s_get dX9_ofSort_48 (ci := 9) (sl := 14) (Cn := RX9) (Tf := TX9) (N := 40) rfl (by decide) kiX9 kw_7_2 <|
  s_iload_n dX9_ofSort_51 rfl <|
  s_iald dX9_ofSort_52 <|
  s_iald dX9_ofSort_53 <|
  s_ireturn dX9_ofSort_54 rfl
noncomputable def b_X9_ofSort_36 (F_X9_starOf F_X9_then F_X9_left : KF) : KC := o_aload 0 <| o_get 9 13 <| o_iload 1 <| o_iald <| o_iret
set_option maxRecDepth 100000 in
theorem s_X9_ofSort_36 {l : Launch} {D : va_G} {cI cS cM : ClassId} {F_X9_starOf F_X9_then F_X9_left : KF} (h_X9_starOf : k_snd l D cI cS cM yX9_starOf cX9_starOf 2 (some .int) 1 2 F_X9_starOf) (h_X9_then : k_snd l D cI cS cM yX9_then cX9_then 3 (some .int) 1 3 F_X9_then) (h_X9_left : k_snd l D cI cS cM yX9_left cX9_left 4 (some .int) 2 2 F_X9_left) : KS l D cI cS cM yX9_ofSort.cls yX9_ofSort.name cX9_ofSort 3 (some .int) (k_rm 3 0 0) false 36 0 (b_X9_ofSort_36 F_X9_starOf F_X9_then F_X9_left) :=
  s_aload_n dX9_ofSort_36 rfl <|
  s_get dX9_ofSort_37 (ci := 9) (sl := 13) (Cn := RX9) (Tf := TX9) (N := 40) rfl (by decide) kiX9 kw_7_1 <|
  s_iload_n dX9_ofSort_40 rfl <|
  s_iald dX9_ofSort_41 <|
  s_ireturn dX9_ofSort_42 rfl
noncomputable def b_X9_ofSort_0 (F_X9_starOf F_X9_then F_X9_left : KF) : KC := o_iload 2 <| o_switch [b_X9_ofSort_36 F_X9_starOf F_X9_then F_X9_left, b_X9_ofSort_43 F_X9_starOf F_X9_then F_X9_left, b_X9_ofSort_55 F_X9_starOf F_X9_then F_X9_left, b_X9_ofSort_62 F_X9_starOf F_X9_then F_X9_left, b_X9_ofSort_68 F_X9_starOf F_X9_then F_X9_left] (b_X9_ofSort_90 F_X9_starOf F_X9_then F_X9_left)
set_option maxRecDepth 100000 in
theorem s_X9_ofSort_0 {l : Launch} {D : va_G} {cI cS cM : ClassId} {F_X9_starOf F_X9_then F_X9_left : KF} (h_X9_starOf : k_snd l D cI cS cM yX9_starOf cX9_starOf 2 (some .int) 1 2 F_X9_starOf) (h_X9_then : k_snd l D cI cS cM yX9_then cX9_then 3 (some .int) 1 3 F_X9_then) (h_X9_left : k_snd l D cI cS cM yX9_left cX9_left 4 (some .int) 2 2 F_X9_left) : KS l D cI cS cM yX9_ofSort.cls yX9_ofSort.name cX9_ofSort 3 (some .int) (k_rm 3 0 0) false 0 0 (b_X9_ofSort_0 F_X9_starOf F_X9_then F_X9_left) :=
  s_iload_n dX9_ofSort_0 rfl <|
  s_switch2 [36, 43, 55, 62, 68] dX9_ofSort_1 (by decide) (by decide) (by decide) (by decide) (s_X9_ofSort_90 h_X9_starOf h_X9_then h_X9_left) ⟨s_X9_ofSort_36 h_X9_starOf h_X9_then h_X9_left, s_X9_ofSort_43 h_X9_starOf h_X9_then h_X9_left, s_X9_ofSort_55 h_X9_starOf h_X9_then h_X9_left, s_X9_ofSort_62 h_X9_starOf h_X9_then h_X9_left, s_X9_ofSort_68 h_X9_starOf h_X9_then h_X9_left, trivial⟩
noncomputable def m_X9_ofSort (F_X9_starOf F_X9_then F_X9_left : KF) : KF := k_fun [] (b_X9_ofSort_0 F_X9_starOf F_X9_then F_X9_left)
theorem r_X9_ofSort {l : Launch} {D : va_G} {cI cS cM : ClassId} {F_X9_starOf F_X9_then F_X9_left : KF} (h_X9_starOf : k_snd l D cI cS cM yX9_starOf cX9_starOf 2 (some .int) 1 2 F_X9_starOf) (h_X9_then : k_snd l D cI cS cM yX9_then cX9_then 3 (some .int) 1 3 F_X9_then) (h_X9_left : k_snd l D cI cS cM yX9_left cX9_left 4 (some .int) 2 2 F_X9_left) : k_snd l D cI cS cM yX9_ofSort cX9_ofSort 3 (some .int) 3 3 (m_X9_ofSort F_X9_starOf F_X9_then F_X9_left) :=
  k_method (by decide +kernel) (by simp) rfl (s_X9_ofSort_0 h_X9_starOf h_X9_then h_X9_left)
noncomputable def b_X9_points_0 (F_X9_hold F_X9_doPoints F_X9_ends : KF) : KC := o_aload 0 <| o_cV0 1 9 F_X9_hold <| o_aload 0 <| o_aload 0 <| o_iload 1 <| o_cV1 2 9 F_X9_doPoints <| o_cV1 2 9 F_X9_ends <| o_iret
set_option maxRecDepth 100000 in
theorem s_X9_points_0 {l : Launch} {D : va_G} {cI cS cM : ClassId} {F_X9_hold F_X9_doPoints F_X9_ends : KF} (h_X9_hold : k_snd l D cI cS cM yX9_hold cX9_hold 2 none 1 1 F_X9_hold) (h_X9_doPoints : k_snd l D cI cS cM yX9_doPoints cX9_doPoints 3 (some .int) 2 2 F_X9_doPoints) (h_X9_ends : k_snd l D cI cS cM yX9_ends cX9_ends 2 (some .int) 2 2 F_X9_ends) : KS l D cI cS cM yX9_points.cls yX9_points.name cX9_points 2 (some .int) (k_rm 3 0 0) false 0 0 (b_X9_points_0 F_X9_hold F_X9_doPoints F_X9_ends) :=
  s_aload_n dX9_points_0 rfl <|
  s_callV0 dX9_points_1 kw_9_9 kw_9_10 kw_9_11 (ci := 9) rfl ok_X9_hold (by decide) (by decide) h_X9_hold (by decide) <|
  s_aload_n dX9_points_4 rfl <|
  s_aload_n dX9_points_5 rfl <|
  s_iload_n dX9_points_6 rfl <|
  s_callV1 dX9_points_7 kw_9_13 kw_9_14 kw_9_15 (ci := 9) rfl ok_X9_doPoints (by decide) (by decide) h_X9_doPoints (by decide) <|
  s_callV1 dX9_points_10 kw_9_21 kw_9_22 kw_9_23 (ci := 9) rfl ok_X9_ends (by decide) (by decide) h_X9_ends (by decide) <|
  s_ireturn dX9_points_13 rfl
noncomputable def m_X9_points (F_X9_hold F_X9_doPoints F_X9_ends : KF) : KF := k_fun [] (b_X9_points_0 F_X9_hold F_X9_doPoints F_X9_ends)
theorem r_X9_points {l : Launch} {D : va_G} {cI cS cM : ClassId} {F_X9_hold F_X9_doPoints F_X9_ends : KF} (h_X9_hold : k_snd l D cI cS cM yX9_hold cX9_hold 2 none 1 1 F_X9_hold) (h_X9_doPoints : k_snd l D cI cS cM yX9_doPoints cX9_doPoints 3 (some .int) 2 2 F_X9_doPoints) (h_X9_ends : k_snd l D cI cS cM yX9_ends cX9_ends 2 (some .int) 2 2 F_X9_ends) : k_snd l D cI cS cM yX9_points cX9_points 2 (some .int) 3 2 (m_X9_points F_X9_hold F_X9_doPoints F_X9_ends) :=
  k_method (by decide +kernel) (by simp) rfl (s_X9_points_0 h_X9_hold h_X9_doPoints h_X9_ends)
noncomputable def b_X9_readOrder_155 (F_X9_here F_X9_must F_X9_readMove F_X9_figure : KF) : KC := o_cV0 2 9 F_X9_must <| o_ret
set_option maxRecDepth 100000 in
theorem s_X9_readOrder_155 {l : Launch} {D : va_G} {cI cS cM : ClassId} {F_X9_here F_X9_must F_X9_readMove F_X9_figure : KF} (h_X9_here : k_snd l D cI cS cM yX9_here cX9_here 1 (some .int) 1 1 F_X9_here) (h_X9_must : k_snd l D cI cS cM yX9_must cX9_must 2 none 1 2 F_X9_must) (h_X9_readMove : k_snd l D cI cS cM yX9_readMove cX9_readMove 5 (some .int) 2 1 F_X9_readMove) (h_X9_figure : k_snd l D cI cS cM yX9_figure cX9_figure 4 (some .int) 2 3 F_X9_figure) : KS l D cI cS cM yX9_readOrder.cls yX9_readOrder.name cX9_readOrder 2 none (k_rm 3 0 0) false 155 2 (b_X9_readOrder_155 F_X9_here F_X9_must F_X9_readMove F_X9_figure) :=
  s_callV0 dX9_readOrder_155 kw_38_3 kw_38_4 kw_38_5 (ci := 9) rfl ok_X9_must (by decide) (by decide) h_X9_must (by decide) <|
  s_return dX9_readOrder_158 rfl
noncomputable def b_X9_readOrder_154 (F_X9_here F_X9_must F_X9_readMove F_X9_figure : KF) : KC := o_push 0 <| b_X9_readOrder_155 F_X9_here F_X9_must F_X9_readMove F_X9_figure
set_option maxRecDepth 100000 in
theorem s_X9_readOrder_154 {l : Launch} {D : va_G} {cI cS cM : ClassId} {F_X9_here F_X9_must F_X9_readMove F_X9_figure : KF} (h_X9_here : k_snd l D cI cS cM yX9_here cX9_here 1 (some .int) 1 1 F_X9_here) (h_X9_must : k_snd l D cI cS cM yX9_must cX9_must 2 none 1 2 F_X9_must) (h_X9_readMove : k_snd l D cI cS cM yX9_readMove cX9_readMove 5 (some .int) 2 1 F_X9_readMove) (h_X9_figure : k_snd l D cI cS cM yX9_figure cX9_figure 4 (some .int) 2 3 F_X9_figure) : KS l D cI cS cM yX9_readOrder.cls yX9_readOrder.name cX9_readOrder 2 none (k_rm 3 0 0) false 154 1 (b_X9_readOrder_154 F_X9_here F_X9_must F_X9_readMove F_X9_figure) :=
  s_push1 dX9_readOrder_154 (by decide) (by decide) <|
  s_X9_readOrder_155 h_X9_here h_X9_must h_X9_readMove h_X9_figure
noncomputable def b_X9_readOrder_150 (F_X9_here F_X9_must F_X9_readMove F_X9_figure : KF) : KC := o_push 1 <| b_X9_readOrder_155 F_X9_here F_X9_must F_X9_readMove F_X9_figure
set_option maxRecDepth 100000 in
theorem s_X9_readOrder_150 {l : Launch} {D : va_G} {cI cS cM : ClassId} {F_X9_here F_X9_must F_X9_readMove F_X9_figure : KF} (h_X9_here : k_snd l D cI cS cM yX9_here cX9_here 1 (some .int) 1 1 F_X9_here) (h_X9_must : k_snd l D cI cS cM yX9_must cX9_must 2 none 1 2 F_X9_must) (h_X9_readMove : k_snd l D cI cS cM yX9_readMove cX9_readMove 5 (some .int) 2 1 F_X9_readMove) (h_X9_figure : k_snd l D cI cS cM yX9_figure cX9_figure 4 (some .int) 2 3 F_X9_figure) : KS l D cI cS cM yX9_readOrder.cls yX9_readOrder.name cX9_readOrder 2 none (k_rm 3 0 0) false 150 1 (b_X9_readOrder_150 F_X9_here F_X9_must F_X9_readMove F_X9_figure) :=
  s_push1 dX9_readOrder_150 (by decide) (by decide) <|
  s_goto dX9_readOrder_151 (by decide) (s_X9_readOrder_155 h_X9_here h_X9_must h_X9_readMove h_X9_figure)
noncomputable def b_X9_readOrder_130 (F_X9_here F_X9_must F_X9_readMove F_X9_figure : KF) : KC := o_aload 0 <| o_dup <| o_get 9 35 <| o_push 1 <| o_bin n_add <| o_puti 9 35 <| o_aload 0 <| o_aload 0 <| o_cV1 1 9 F_X9_here <| o_push 59 <| o_c2 Nat.beq (b_X9_readOrder_150 F_X9_here F_X9_must F_X9_readMove F_X9_figure) (b_X9_readOrder_154 F_X9_here F_X9_must F_X9_readMove F_X9_figure)
set_option maxRecDepth 100000 in
theorem s_X9_readOrder_130 {l : Launch} {D : va_G} {cI cS cM : ClassId} {F_X9_here F_X9_must F_X9_readMove F_X9_figure : KF} (h_X9_here : k_snd l D cI cS cM yX9_here cX9_here 1 (some .int) 1 1 F_X9_here) (h_X9_must : k_snd l D cI cS cM yX9_must cX9_must 2 none 1 2 F_X9_must) (h_X9_readMove : k_snd l D cI cS cM yX9_readMove cX9_readMove 5 (some .int) 2 1 F_X9_readMove) (h_X9_figure : k_snd l D cI cS cM yX9_figure cX9_figure 4 (some .int) 2 3 F_X9_figure) : KS l D cI cS cM yX9_readOrder.cls yX9_readOrder.name cX9_readOrder 2 none (k_rm 3 0 0) false 130 0 (b_X9_readOrder_130 F_X9_here F_X9_must F_X9_readMove F_X9_figure) :=
  s_aload_n dX9_readOrder_130 rfl <|
  s_dup dX9_readOrder_131 <|
  s_get dX9_readOrder_132 (ci := 9) (sl := 35) (Cn := RX9) (Tf := TX9) (N := 40) rfl (by decide) kiX9 kw_37_17 <|
  s_push1 dX9_readOrder_135 (by decide) (by decide) <|
  s_iadd dX9_readOrder_136 <|
  s_puti dX9_readOrder_137 (ci := 9) (sl := 35) (Cn := RX9) (Tf := TX9) (N := 40) (tyf := tyX9) rfl (by decide) kiX9 tyX9_ok nmX9 kw_37_17 rfl rfl <|
  s_aload_n dX9_readOrder_140 rfl <|
  s_aload_n dX9_readOrder_141 rfl <|
  s_callV1 dX9_readOrder_142 kw_37_19 kw_37_20 kw_37_21 (ci := 9) rfl ok_X9_here (by decide) (by decide) h_X9_here (by decide) <|
  s_push2 dX9_readOrder_145 (by decide) (by decide) <|
  s_icmp_ne dX9_readOrder_147 (by decide) (s_X9_readOrder_154 h_X9_here h_X9_must h_X9_readMove h_X9_figure) (s_X9_readOrder_150 h_X9_here h_X9_must h_X9_readMove h_X9_figure)
noncomputable def b_X9_readOrder_127 (F_X9_here F_X9_must F_X9_readMove F_X9_figure : KF) : KC := o_puti 9 36 <| b_X9_readOrder_130 F_X9_here F_X9_must F_X9_readMove F_X9_figure
set_option maxRecDepth 100000 in
theorem s_X9_readOrder_127 {l : Launch} {D : va_G} {cI cS cM : ClassId} {F_X9_here F_X9_must F_X9_readMove F_X9_figure : KF} (h_X9_here : k_snd l D cI cS cM yX9_here cX9_here 1 (some .int) 1 1 F_X9_here) (h_X9_must : k_snd l D cI cS cM yX9_must cX9_must 2 none 1 2 F_X9_must) (h_X9_readMove : k_snd l D cI cS cM yX9_readMove cX9_readMove 5 (some .int) 2 1 F_X9_readMove) (h_X9_figure : k_snd l D cI cS cM yX9_figure cX9_figure 4 (some .int) 2 3 F_X9_figure) : KS l D cI cS cM yX9_readOrder.cls yX9_readOrder.name cX9_readOrder 2 none (k_rm 3 0 0) false 127 2 (b_X9_readOrder_127 F_X9_here F_X9_must F_X9_readMove F_X9_figure) :=
  s_puti dX9_readOrder_127 (ci := 9) (sl := 36) (Cn := RX9) (Tf := TX9) (N := 40) (tyf := tyX9) rfl (by decide) kiX9 tyX9_ok nmX9 kw_37_18 rfl rfl <|
  s_X9_readOrder_130 h_X9_here h_X9_must h_X9_readMove h_X9_figure
noncomputable def b_X9_readOrder_123 (F_X9_here F_X9_must F_X9_readMove F_X9_figure : KF) : KC := o_aload 0 <| o_get 9 36 <| b_X9_readOrder_127 F_X9_here F_X9_must F_X9_readMove F_X9_figure
set_option maxRecDepth 100000 in
theorem s_X9_readOrder_123 {l : Launch} {D : va_G} {cI cS cM : ClassId} {F_X9_here F_X9_must F_X9_readMove F_X9_figure : KF} (h_X9_here : k_snd l D cI cS cM yX9_here cX9_here 1 (some .int) 1 1 F_X9_here) (h_X9_must : k_snd l D cI cS cM yX9_must cX9_must 2 none 1 2 F_X9_must) (h_X9_readMove : k_snd l D cI cS cM yX9_readMove cX9_readMove 5 (some .int) 2 1 F_X9_readMove) (h_X9_figure : k_snd l D cI cS cM yX9_figure cX9_figure 4 (some .int) 2 3 F_X9_figure) : KS l D cI cS cM yX9_readOrder.cls yX9_readOrder.name cX9_readOrder 2 none (k_rm 3 0 0) false 123 1 (b_X9_readOrder_123 F_X9_here F_X9_must F_X9_readMove F_X9_figure) :=
  s_aload_n dX9_readOrder_123 rfl <|
  s_get dX9_readOrder_124 (ci := 9) (sl := 36) (Cn := RX9) (Tf := TX9) (N := 40) rfl (by decide) kiX9 kw_37_18 <|
  s_X9_readOrder_127 h_X9_here h_X9_must h_X9_readMove h_X9_figure
noncomputable def b_X9_readOrder_111 (F_X9_here F_X9_must F_X9_readMove F_X9_figure : KF) : KC := o_aload 0 <| o_get 9 38 <| o_aload 0 <| o_get 9 35 <| o_iald <| b_X9_readOrder_127 F_X9_here F_X9_must F_X9_readMove F_X9_figure
set_option maxRecDepth 100000 in
theorem s_X9_readOrder_111 {l : Launch} {D : va_G} {cI cS cM : ClassId} {F_X9_here F_X9_must F_X9_readMove F_X9_figure : KF} (h_X9_here : k_snd l D cI cS cM yX9_here cX9_here 1 (some .int) 1 1 F_X9_here) (h_X9_must : k_snd l D cI cS cM yX9_must cX9_must 2 none 1 2 F_X9_must) (h_X9_readMove : k_snd l D cI cS cM yX9_readMove cX9_readMove 5 (some .int) 2 1 F_X9_readMove) (h_X9_figure : k_snd l D cI cS cM yX9_figure cX9_figure 4 (some .int) 2 3 F_X9_figure) : KS l D cI cS cM yX9_readOrder.cls yX9_readOrder.name cX9_readOrder 2 none (k_rm 3 0 0) false 111 1 (b_X9_readOrder_111 F_X9_here F_X9_must F_X9_readMove F_X9_figure) :=
  s_aload_n dX9_readOrder_111 rfl <|
  s_get dX9_readOrder_112 (ci := 9) (sl := 38) (Cn := RX9) (Tf := TX9) (N := 40) rfl (by decide) kiX9 kw_7_16 <|
  s_aload_n dX9_readOrder_115 rfl <|
  s_get dX9_readOrder_116 (ci := 9) (sl := 35) (Cn := RX9) (Tf := TX9) (N := 40) rfl (by decide) kiX9 kw_37_17 <|
  s_iald dX9_readOrder_119 <|
  s_goto dX9_readOrder_120 (by decide) (s_X9_readOrder_127 h_X9_here h_X9_must h_X9_readMove h_X9_figure)
noncomputable def b_X9_readOrder_103 (F_X9_here F_X9_must F_X9_readMove F_X9_figure : KF) : KC := o_iast <| o_aload 0 <| o_iload 1 <| o_push 110 <| o_c2 Nat.beq (b_X9_readOrder_111 F_X9_here F_X9_must F_X9_readMove F_X9_figure) (b_X9_readOrder_123 F_X9_here F_X9_must F_X9_readMove F_X9_figure)
set_option maxRecDepth 100000 in
theorem s_X9_readOrder_103 {l : Launch} {D : va_G} {cI cS cM : ClassId} {F_X9_here F_X9_must F_X9_readMove F_X9_figure : KF} (h_X9_here : k_snd l D cI cS cM yX9_here cX9_here 1 (some .int) 1 1 F_X9_here) (h_X9_must : k_snd l D cI cS cM yX9_must cX9_must 2 none 1 2 F_X9_must) (h_X9_readMove : k_snd l D cI cS cM yX9_readMove cX9_readMove 5 (some .int) 2 1 F_X9_readMove) (h_X9_figure : k_snd l D cI cS cM yX9_figure cX9_figure 4 (some .int) 2 3 F_X9_figure) : KS l D cI cS cM yX9_readOrder.cls yX9_readOrder.name cX9_readOrder 2 none (k_rm 3 0 0) false 103 3 (b_X9_readOrder_103 F_X9_here F_X9_must F_X9_readMove F_X9_figure) :=
  s_iast dX9_readOrder_103 <|
  s_aload_n dX9_readOrder_104 rfl <|
  s_iload_n dX9_readOrder_105 rfl <|
  s_push2 dX9_readOrder_106 (by decide) (by decide) <|
  s_icmp_ne dX9_readOrder_108 (by decide) (s_X9_readOrder_123 h_X9_here h_X9_must h_X9_readMove h_X9_figure) (s_X9_readOrder_111 h_X9_here h_X9_must h_X9_readMove h_X9_figure)
noncomputable def b_X9_readOrder_96 (F_X9_here F_X9_must F_X9_readMove F_X9_figure : KF) : KC := o_aload 0 <| o_push 0 <| o_push 9 <| o_cV1 3 9 F_X9_figure <| b_X9_readOrder_103 F_X9_here F_X9_must F_X9_readMove F_X9_figure
set_option maxRecDepth 100000 in
theorem s_X9_readOrder_96 {l : Launch} {D : va_G} {cI cS cM : ClassId} {F_X9_here F_X9_must F_X9_readMove F_X9_figure : KF} (h_X9_here : k_snd l D cI cS cM yX9_here cX9_here 1 (some .int) 1 1 F_X9_here) (h_X9_must : k_snd l D cI cS cM yX9_must cX9_must 2 none 1 2 F_X9_must) (h_X9_readMove : k_snd l D cI cS cM yX9_readMove cX9_readMove 5 (some .int) 2 1 F_X9_readMove) (h_X9_figure : k_snd l D cI cS cM yX9_figure cX9_figure 4 (some .int) 2 3 F_X9_figure) : KS l D cI cS cM yX9_readOrder.cls yX9_readOrder.name cX9_readOrder 2 none (k_rm 3 0 0) false 96 2 (b_X9_readOrder_96 F_X9_here F_X9_must F_X9_readMove F_X9_figure) :=
  s_aload_n dX9_readOrder_96 rfl <|
  s_push1 dX9_readOrder_97 (by decide) (by decide) <|
  s_push2 dX9_readOrder_98 (by decide) (by decide) <|
  s_callV1 dX9_readOrder_100 kw_38_14 kw_38_15 kw_38_16 (ci := 9) rfl ok_X9_figure (by decide) (by decide) h_X9_figure (by decide) <|
  s_X9_readOrder_103 h_X9_here h_X9_must h_X9_readMove h_X9_figure
noncomputable def b_X9_readOrder_87 (F_X9_here F_X9_must F_X9_readMove F_X9_figure : KF) : KC := o_aload 0 <| o_push 1 <| o_push 5 <| o_cV1 3 9 F_X9_figure <| b_X9_readOrder_103 F_X9_here F_X9_must F_X9_readMove F_X9_figure
set_option maxRecDepth 100000 in
theorem s_X9_readOrder_87 {l : Launch} {D : va_G} {cI cS cM : ClassId} {F_X9_here F_X9_must F_X9_readMove F_X9_figure : KF} (h_X9_here : k_snd l D cI cS cM yX9_here cX9_here 1 (some .int) 1 1 F_X9_here) (h_X9_must : k_snd l D cI cS cM yX9_must cX9_must 2 none 1 2 F_X9_must) (h_X9_readMove : k_snd l D cI cS cM yX9_readMove cX9_readMove 5 (some .int) 2 1 F_X9_readMove) (h_X9_figure : k_snd l D cI cS cM yX9_figure cX9_figure 4 (some .int) 2 3 F_X9_figure) : KS l D cI cS cM yX9_readOrder.cls yX9_readOrder.name cX9_readOrder 2 none (k_rm 3 0 0) false 87 2 (b_X9_readOrder_87 F_X9_here F_X9_must F_X9_readMove F_X9_figure) :=
  s_aload_n dX9_readOrder_87 rfl <|
  s_push1 dX9_readOrder_88 (by decide) (by decide) <|
  s_push1 dX9_readOrder_89 (by decide) (by decide) <|
  s_callV1 dX9_readOrder_90 kw_38_14 kw_38_15 kw_38_16 (ci := 9) rfl ok_X9_figure (by decide) (by decide) h_X9_figure (by decide) <|
  s_goto dX9_readOrder_93 (by decide) (s_X9_readOrder_103 h_X9_here h_X9_must h_X9_readMove h_X9_figure)
noncomputable def b_X9_readOrder_73 (F_X9_here F_X9_must F_X9_readMove F_X9_figure : KF) : KC := o_aload 0 <| o_get 9 38 <| o_aload 0 <| o_get 9 35 <| o_iload 1 <| o_push 110 <| o_c2 Nat.beq (b_X9_readOrder_87 F_X9_here F_X9_must F_X9_readMove F_X9_figure) (b_X9_readOrder_96 F_X9_here F_X9_must F_X9_readMove F_X9_figure)
set_option maxRecDepth 100000 in
theorem s_X9_readOrder_73 {l : Launch} {D : va_G} {cI cS cM : ClassId} {F_X9_here F_X9_must F_X9_readMove F_X9_figure : KF} (h_X9_here : k_snd l D cI cS cM yX9_here cX9_here 1 (some .int) 1 1 F_X9_here) (h_X9_must : k_snd l D cI cS cM yX9_must cX9_must 2 none 1 2 F_X9_must) (h_X9_readMove : k_snd l D cI cS cM yX9_readMove cX9_readMove 5 (some .int) 2 1 F_X9_readMove) (h_X9_figure : k_snd l D cI cS cM yX9_figure cX9_figure 4 (some .int) 2 3 F_X9_figure) : KS l D cI cS cM yX9_readOrder.cls yX9_readOrder.name cX9_readOrder 2 none (k_rm 3 0 0) false 73 0 (b_X9_readOrder_73 F_X9_here F_X9_must F_X9_readMove F_X9_figure) :=
  s_aload_n dX9_readOrder_73 rfl <|
  s_get dX9_readOrder_74 (ci := 9) (sl := 38) (Cn := RX9) (Tf := TX9) (N := 40) rfl (by decide) kiX9 kw_7_16 <|
  s_aload_n dX9_readOrder_77 rfl <|
  s_get dX9_readOrder_78 (ci := 9) (sl := 35) (Cn := RX9) (Tf := TX9) (N := 40) rfl (by decide) kiX9 kw_37_17 <|
  s_iload_n dX9_readOrder_81 rfl <|
  s_push2 dX9_readOrder_82 (by decide) (by decide) <|
  s_icmp_ne dX9_readOrder_84 (by decide) (s_X9_readOrder_96 h_X9_here h_X9_must h_X9_readMove h_X9_figure) (s_X9_readOrder_87 h_X9_here h_X9_must h_X9_readMove h_X9_figure)
noncomputable def b_X9_readOrder_57 (F_X9_here F_X9_must F_X9_readMove F_X9_figure : KF) : KC := o_aload 0 <| o_get 9 38 <| o_aload 0 <| o_get 9 35 <| o_aload 0 <| o_cV1 1 9 F_X9_readMove <| o_iast <| b_X9_readOrder_130 F_X9_here F_X9_must F_X9_readMove F_X9_figure
set_option maxRecDepth 100000 in
theorem s_X9_readOrder_57 {l : Launch} {D : va_G} {cI cS cM : ClassId} {F_X9_here F_X9_must F_X9_readMove F_X9_figure : KF} (h_X9_here : k_snd l D cI cS cM yX9_here cX9_here 1 (some .int) 1 1 F_X9_here) (h_X9_must : k_snd l D cI cS cM yX9_must cX9_must 2 none 1 2 F_X9_must) (h_X9_readMove : k_snd l D cI cS cM yX9_readMove cX9_readMove 5 (some .int) 2 1 F_X9_readMove) (h_X9_figure : k_snd l D cI cS cM yX9_figure cX9_figure 4 (some .int) 2 3 F_X9_figure) : KS l D cI cS cM yX9_readOrder.cls yX9_readOrder.name cX9_readOrder 2 none (k_rm 3 0 0) false 57 0 (b_X9_readOrder_57 F_X9_here F_X9_must F_X9_readMove F_X9_figure) :=
  s_aload_n dX9_readOrder_57 rfl <|
  s_get dX9_readOrder_58 (ci := 9) (sl := 38) (Cn := RX9) (Tf := TX9) (N := 40) rfl (by decide) kiX9 kw_7_16 <|
  s_aload_n dX9_readOrder_61 rfl <|
  s_get dX9_readOrder_62 (ci := 9) (sl := 35) (Cn := RX9) (Tf := TX9) (N := 40) rfl (by decide) kiX9 kw_37_17 <|
  s_aload_n dX9_readOrder_65 rfl <|
  s_callV1 dX9_readOrder_66 kw_38_7 kw_38_8 kw_38_9 (ci := 9) rfl ok_X9_readMove (by decide) (by decide) h_X9_readMove (by decide) <|
  s_iast dX9_readOrder_69 <|
  s_goto dX9_readOrder_70 (by decide) (s_X9_readOrder_130 h_X9_here h_X9_must h_X9_readMove h_X9_figure)
noncomputable def b_X9_readOrder_41 (F_X9_here F_X9_must F_X9_readMove F_X9_figure : KF) : KC := o_aload 0 <| o_get 9 37 <| o_aload 0 <| o_get 9 35 <| o_iload 1 <| o_iast <| o_iload 1 <| o_push 109 <| o_c2 Nat.beq (b_X9_readOrder_57 F_X9_here F_X9_must F_X9_readMove F_X9_figure) (b_X9_readOrder_73 F_X9_here F_X9_must F_X9_readMove F_X9_figure)
set_option maxRecDepth 100000 in
theorem s_X9_readOrder_41 {l : Launch} {D : va_G} {cI cS cM : ClassId} {F_X9_here F_X9_must F_X9_readMove F_X9_figure : KF} (h_X9_here : k_snd l D cI cS cM yX9_here cX9_here 1 (some .int) 1 1 F_X9_here) (h_X9_must : k_snd l D cI cS cM yX9_must cX9_must 2 none 1 2 F_X9_must) (h_X9_readMove : k_snd l D cI cS cM yX9_readMove cX9_readMove 5 (some .int) 2 1 F_X9_readMove) (h_X9_figure : k_snd l D cI cS cM yX9_figure cX9_figure 4 (some .int) 2 3 F_X9_figure) : KS l D cI cS cM yX9_readOrder.cls yX9_readOrder.name cX9_readOrder 2 none (k_rm 3 0 0) false 41 0 (b_X9_readOrder_41 F_X9_here F_X9_must F_X9_readMove F_X9_figure) :=
  s_aload_n dX9_readOrder_41 rfl <|
  s_get dX9_readOrder_42 (ci := 9) (sl := 37) (Cn := RX9) (Tf := TX9) (N := 40) rfl (by decide) kiX9 kw_7_15 <|
  s_aload_n dX9_readOrder_45 rfl <|
  s_get dX9_readOrder_46 (ci := 9) (sl := 35) (Cn := RX9) (Tf := TX9) (N := 40) rfl (by decide) kiX9 kw_37_17 <|
  s_iload_n dX9_readOrder_49 rfl <|
  s_iast dX9_readOrder_50 <|
  s_iload_n dX9_readOrder_51 rfl <|
  s_push2 dX9_readOrder_52 (by decide) (by decide) <|
  s_icmp_ne dX9_readOrder_54 (by decide) (s_X9_readOrder_73 h_X9_here h_X9_must h_X9_readMove h_X9_figure) (s_X9_readOrder_57 h_X9_here h_X9_must h_X9_readMove h_X9_figure)
noncomputable def b_X9_readOrder_40 (F_X9_here F_X9_must F_X9_readMove F_X9_figure : KF) : KC := o_ret
set_option maxRecDepth 100000 in
theorem s_X9_readOrder_40 {l : Launch} {D : va_G} {cI cS cM : ClassId} {F_X9_here F_X9_must F_X9_readMove F_X9_figure : KF} (h_X9_here : k_snd l D cI cS cM yX9_here cX9_here 1 (some .int) 1 1 F_X9_here) (h_X9_must : k_snd l D cI cS cM yX9_must cX9_must 2 none 1 2 F_X9_must) (h_X9_readMove : k_snd l D cI cS cM yX9_readMove cX9_readMove 5 (some .int) 2 1 F_X9_readMove) (h_X9_figure : k_snd l D cI cS cM yX9_figure cX9_figure 4 (some .int) 2 3 F_X9_figure) : KS l D cI cS cM yX9_readOrder.cls yX9_readOrder.name cX9_readOrder 2 none (k_rm 3 0 0) false 40 0 (b_X9_readOrder_40 F_X9_here F_X9_must F_X9_readMove F_X9_figure) :=
  s_return dX9_readOrder_40 rfl
noncomputable def b_X9_readOrder_29 (F_X9_here F_X9_must F_X9_readMove F_X9_figure : KF) : KC := o_cV0 2 9 F_X9_must <| o_aload 0 <| o_get 9 34 <| o_push 4294967295 <| o_c2 Nat.beq (b_X9_readOrder_41 F_X9_here F_X9_must F_X9_readMove F_X9_figure) (b_X9_readOrder_40 F_X9_here F_X9_must F_X9_readMove F_X9_figure)
set_option maxRecDepth 100000 in
theorem s_X9_readOrder_29 {l : Launch} {D : va_G} {cI cS cM : ClassId} {F_X9_here F_X9_must F_X9_readMove F_X9_figure : KF} (h_X9_here : k_snd l D cI cS cM yX9_here cX9_here 1 (some .int) 1 1 F_X9_here) (h_X9_must : k_snd l D cI cS cM yX9_must cX9_must 2 none 1 2 F_X9_must) (h_X9_readMove : k_snd l D cI cS cM yX9_readMove cX9_readMove 5 (some .int) 2 1 F_X9_readMove) (h_X9_figure : k_snd l D cI cS cM yX9_figure cX9_figure 4 (some .int) 2 3 F_X9_figure) : KS l D cI cS cM yX9_readOrder.cls yX9_readOrder.name cX9_readOrder 2 none (k_rm 3 0 0) false 29 2 (b_X9_readOrder_29 F_X9_here F_X9_must F_X9_readMove F_X9_figure) :=
  s_callV0 dX9_readOrder_29 kw_38_3 kw_38_4 kw_38_5 (ci := 9) rfl ok_X9_must (by decide) (by decide) h_X9_must (by decide) <|
  s_aload_n dX9_readOrder_32 rfl <|
  s_get dX9_readOrder_33 (ci := 9) (sl := 34) (Cn := RX9) (Tf := TX9) (N := 40) rfl (by decide) kiX9 kw_37_16 <|
  s_push1 dX9_readOrder_36 (by decide) (by decide) <|
  s_icmp_eq dX9_readOrder_37 (by decide) (s_X9_readOrder_41 h_X9_here h_X9_must h_X9_readMove h_X9_figure) (s_X9_readOrder_40 h_X9_here h_X9_must h_X9_readMove h_X9_figure)
noncomputable def b_X9_readOrder_28 (F_X9_here F_X9_must F_X9_readMove F_X9_figure : KF) : KC := o_push 0 <| b_X9_readOrder_29 F_X9_here F_X9_must F_X9_readMove F_X9_figure
set_option maxRecDepth 100000 in
theorem s_X9_readOrder_28 {l : Launch} {D : va_G} {cI cS cM : ClassId} {F_X9_here F_X9_must F_X9_readMove F_X9_figure : KF} (h_X9_here : k_snd l D cI cS cM yX9_here cX9_here 1 (some .int) 1 1 F_X9_here) (h_X9_must : k_snd l D cI cS cM yX9_must cX9_must 2 none 1 2 F_X9_must) (h_X9_readMove : k_snd l D cI cS cM yX9_readMove cX9_readMove 5 (some .int) 2 1 F_X9_readMove) (h_X9_figure : k_snd l D cI cS cM yX9_figure cX9_figure 4 (some .int) 2 3 F_X9_figure) : KS l D cI cS cM yX9_readOrder.cls yX9_readOrder.name cX9_readOrder 2 none (k_rm 3 0 0) false 28 1 (b_X9_readOrder_28 F_X9_here F_X9_must F_X9_readMove F_X9_figure) :=
  s_push1 dX9_readOrder_28 (by decide) (by decide) <|
  s_X9_readOrder_29 h_X9_here h_X9_must h_X9_readMove h_X9_figure
noncomputable def b_X9_readOrder_24 (F_X9_here F_X9_must F_X9_readMove F_X9_figure : KF) : KC := o_push 1 <| b_X9_readOrder_29 F_X9_here F_X9_must F_X9_readMove F_X9_figure
set_option maxRecDepth 100000 in
theorem s_X9_readOrder_24 {l : Launch} {D : va_G} {cI cS cM : ClassId} {F_X9_here F_X9_must F_X9_readMove F_X9_figure : KF} (h_X9_here : k_snd l D cI cS cM yX9_here cX9_here 1 (some .int) 1 1 F_X9_here) (h_X9_must : k_snd l D cI cS cM yX9_must cX9_must 2 none 1 2 F_X9_must) (h_X9_readMove : k_snd l D cI cS cM yX9_readMove cX9_readMove 5 (some .int) 2 1 F_X9_readMove) (h_X9_figure : k_snd l D cI cS cM yX9_figure cX9_figure 4 (some .int) 2 3 F_X9_figure) : KS l D cI cS cM yX9_readOrder.cls yX9_readOrder.name cX9_readOrder 2 none (k_rm 3 0 0) false 24 1 (b_X9_readOrder_24 F_X9_here F_X9_must F_X9_readMove F_X9_figure) :=
  s_push1 dX9_readOrder_24 (by decide) (by decide) <|
  s_goto dX9_readOrder_25 (by decide) (s_X9_readOrder_29 h_X9_here h_X9_must h_X9_readMove h_X9_figure)
noncomputable def b_X9_readOrder_18 (F_X9_here F_X9_must F_X9_readMove F_X9_figure : KF) : KC := o_iload 1 <| o_push 120 <| o_c2 Nat.beq (b_X9_readOrder_24 F_X9_here F_X9_must F_X9_readMove F_X9_figure) (b_X9_readOrder_28 F_X9_here F_X9_must F_X9_readMove F_X9_figure)
set_option maxRecDepth 100000 in
theorem s_X9_readOrder_18 {l : Launch} {D : va_G} {cI cS cM : ClassId} {F_X9_here F_X9_must F_X9_readMove F_X9_figure : KF} (h_X9_here : k_snd l D cI cS cM yX9_here cX9_here 1 (some .int) 1 1 F_X9_here) (h_X9_must : k_snd l D cI cS cM yX9_must cX9_must 2 none 1 2 F_X9_must) (h_X9_readMove : k_snd l D cI cS cM yX9_readMove cX9_readMove 5 (some .int) 2 1 F_X9_readMove) (h_X9_figure : k_snd l D cI cS cM yX9_figure cX9_figure 4 (some .int) 2 3 F_X9_figure) : KS l D cI cS cM yX9_readOrder.cls yX9_readOrder.name cX9_readOrder 2 none (k_rm 3 0 0) false 18 1 (b_X9_readOrder_18 F_X9_here F_X9_must F_X9_readMove F_X9_figure) :=
  s_iload_n dX9_readOrder_18 rfl <|
  s_push2 dX9_readOrder_19 (by decide) (by decide) <|
  s_icmp_ne dX9_readOrder_21 (by decide) (s_X9_readOrder_28 h_X9_here h_X9_must h_X9_readMove h_X9_figure) (s_X9_readOrder_24 h_X9_here h_X9_must h_X9_readMove h_X9_figure)
noncomputable def b_X9_readOrder_12 (F_X9_here F_X9_must F_X9_readMove F_X9_figure : KF) : KC := o_iload 1 <| o_push 109 <| o_c2 Nat.beq (b_X9_readOrder_24 F_X9_here F_X9_must F_X9_readMove F_X9_figure) (b_X9_readOrder_18 F_X9_here F_X9_must F_X9_readMove F_X9_figure)
set_option maxRecDepth 100000 in
theorem s_X9_readOrder_12 {l : Launch} {D : va_G} {cI cS cM : ClassId} {F_X9_here F_X9_must F_X9_readMove F_X9_figure : KF} (h_X9_here : k_snd l D cI cS cM yX9_here cX9_here 1 (some .int) 1 1 F_X9_here) (h_X9_must : k_snd l D cI cS cM yX9_must cX9_must 2 none 1 2 F_X9_must) (h_X9_readMove : k_snd l D cI cS cM yX9_readMove cX9_readMove 5 (some .int) 2 1 F_X9_readMove) (h_X9_figure : k_snd l D cI cS cM yX9_figure cX9_figure 4 (some .int) 2 3 F_X9_figure) : KS l D cI cS cM yX9_readOrder.cls yX9_readOrder.name cX9_readOrder 2 none (k_rm 3 0 0) false 12 1 (b_X9_readOrder_12 F_X9_here F_X9_must F_X9_readMove F_X9_figure) :=
  s_iload_n dX9_readOrder_12 rfl <|
  s_push2 dX9_readOrder_13 (by decide) (by decide) <|
  s_icmp_eq dX9_readOrder_15 (by decide) (s_X9_readOrder_24 h_X9_here h_X9_must h_X9_readMove h_X9_figure) (s_X9_readOrder_18 h_X9_here h_X9_must h_X9_readMove h_X9_figure)
noncomputable def b_X9_readOrder_0 (F_X9_here F_X9_must F_X9_readMove F_X9_figure : KF) : KC := o_aload 0 <| o_cV1 1 9 F_X9_here <| o_istore 1 <| o_aload 0 <| o_iload 1 <| o_push 110 <| o_c2 Nat.beq (b_X9_readOrder_24 F_X9_here F_X9_must F_X9_readMove F_X9_figure) (b_X9_readOrder_12 F_X9_here F_X9_must F_X9_readMove F_X9_figure)
set_option maxRecDepth 100000 in
theorem s_X9_readOrder_0 {l : Launch} {D : va_G} {cI cS cM : ClassId} {F_X9_here F_X9_must F_X9_readMove F_X9_figure : KF} (h_X9_here : k_snd l D cI cS cM yX9_here cX9_here 1 (some .int) 1 1 F_X9_here) (h_X9_must : k_snd l D cI cS cM yX9_must cX9_must 2 none 1 2 F_X9_must) (h_X9_readMove : k_snd l D cI cS cM yX9_readMove cX9_readMove 5 (some .int) 2 1 F_X9_readMove) (h_X9_figure : k_snd l D cI cS cM yX9_figure cX9_figure 4 (some .int) 2 3 F_X9_figure) : KS l D cI cS cM yX9_readOrder.cls yX9_readOrder.name cX9_readOrder 2 none (k_rm 3 0 0) false 0 0 (b_X9_readOrder_0 F_X9_here F_X9_must F_X9_readMove F_X9_figure) :=
  s_aload_n dX9_readOrder_0 rfl <|
  s_callV1 dX9_readOrder_1 kw_37_19 kw_37_20 kw_37_21 (ci := 9) rfl ok_X9_here (by decide) (by decide) h_X9_here (by decide) <|
  s_istore_n dX9_readOrder_4 rfl (by decide) <|
  s_aload_n dX9_readOrder_5 rfl <|
  s_iload_n dX9_readOrder_6 rfl <|
  s_push2 dX9_readOrder_7 (by decide) (by decide) <|
  s_icmp_eq dX9_readOrder_9 (by decide) (s_X9_readOrder_24 h_X9_here h_X9_must h_X9_readMove h_X9_figure) (s_X9_readOrder_12 h_X9_here h_X9_must h_X9_readMove h_X9_figure)
noncomputable def m_X9_readOrder (F_X9_here F_X9_must F_X9_readMove F_X9_figure : KF) : KF := k_fun [k_u] (b_X9_readOrder_0 F_X9_here F_X9_must F_X9_readMove F_X9_figure)
theorem r_X9_readOrder {l : Launch} {D : va_G} {cI cS cM : ClassId} {F_X9_here F_X9_must F_X9_readMove F_X9_figure : KF} (h_X9_here : k_snd l D cI cS cM yX9_here cX9_here 1 (some .int) 1 1 F_X9_here) (h_X9_must : k_snd l D cI cS cM yX9_must cX9_must 2 none 1 2 F_X9_must) (h_X9_readMove : k_snd l D cI cS cM yX9_readMove cX9_readMove 5 (some .int) 2 1 F_X9_readMove) (h_X9_figure : k_snd l D cI cS cM yX9_figure cX9_figure 4 (some .int) 2 3 F_X9_figure) : k_snd l D cI cS cM yX9_readOrder cX9_readOrder 2 none 3 1 (m_X9_readOrder F_X9_here F_X9_must F_X9_readMove F_X9_figure) :=
  k_method (by decide +kernel) (by simp) rfl (s_X9_readOrder_0 h_X9_here h_X9_must h_X9_readMove h_X9_figure)
