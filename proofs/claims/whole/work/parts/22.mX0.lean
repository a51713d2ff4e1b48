noncomputable def b_X0_keyOfMade_31 (J : List KC) : KC := o_iload 1 <| o_iret
set_option maxRecDepth 100000 in
theorem s_X0_keyOfMade_31 {l : Launch} {D : va_G} {cI cS cM : ClassId} {J : List KC} (hJ : ∀ (i pc d : Nat), ([(4, 0)] : List (Nat × Nat))[i]? = some (pc, d) → KS l D cI cS cM yX0_keyOfMade.cls yX0_keyOfMade.name cX0_keyOfMade 3 (some .int) (k_rm 1 0 0) false pc d (k_jmp J i)) : KS l D cI cS cM yX0_keyOfMade.cls yX0_keyOfMade.name cX0_keyOfMade 3 (some .int) (k_rm 1 0 0) false 31 0 (b_X0_keyOfMade_31 J) :=
  s_iload_n dX0_keyOfMade_31 rfl <|
  s_ireturn dX0_keyOfMade_32 rfl
noncomputable def b_X0_keyOfMade_14 (J : List KC) : KC := o_push 5 <| o_iload 1 <| o_bin n_mul <| o_aload 0 <| o_get 0 8 <| o_iload 2 <| o_iald <| o_bin n_add <| o_istore 1 <| o_iinc 2 1 <| k_jmp J 0
set_option maxRecDepth 100000 in
theorem s_X0_keyOfMade_14 {l : Launch} {D : va_G} {cI cS cM : ClassId} {J : List KC} (hJ : ∀ (i pc d : Nat), ([(4, 0)] : List (Nat × Nat))[i]? = some (pc, d) → KS l D cI cS cM yX0_keyOfMade.cls yX0_keyOfMade.name cX0_keyOfMade 3 (some .int) (k_rm 1 0 0) false pc d (k_jmp J i)) : KS l D cI cS cM yX0_keyOfMade.cls yX0_keyOfMade.name cX0_keyOfMade 3 (some .int) (k_rm 1 0 0) false 14 0 (b_X0_keyOfMade_14 J) :=
  s_push1 dX0_keyOfMade_14 (by decide) (by decide) <|
  s_iload_n dX0_keyOfMade_15 rfl <|
  s_imul dX0_keyOfMade_16 <|
  s_aload_n dX0_keyOfMade_17 rfl <|
  s_get dX0_keyOfMade_18 (ci := 0) (sl := 8) (Cn := RX0) (Tf := TX0) (N := 9) rfl (by decide) kiX0 kw_5_12 <|
  s_iload_n dX0_keyOfMade_21 rfl <|
  s_iald dX0_keyOfMade_22 <|
  s_iadd dX0_keyOfMade_23 <|
  s_istore_n dX0_keyOfMade_24 rfl (by decide) <|
  s_iinc dX0_keyOfMade_25 (by decide) (by decide) <|
  s_goto dX0_keyOfMade_28 (by decide) (hJ 0 _ _ rfl)
noncomputable def b_X0_keyOfMade_4 (J : List KC) : KC := o_iload 2 <| o_aload 0 <| o_get 0 3 <| o_push 1 <| o_bin n_sub <| o_c2 s_lt (b_X0_keyOfMade_14 J) (b_X0_keyOfMade_31 J)
set_option maxRecDepth 100000 in
theorem s_X0_keyOfMade_4 {l : Launch} {D : va_G} {cI cS cM : ClassId} {J : List KC} (hJ : ∀ (i pc d : Nat), ([(4, 0)] : List (Nat × Nat))[i]? = some (pc, d) → KS l D cI cS cM yX0_keyOfMade.cls yX0_keyOfMade.name cX0_keyOfMade 3 (some .int) (k_rm 1 0 0) false pc d (k_jmp J i)) : KS l D cI cS cM yX0_keyOfMade.cls yX0_keyOfMade.name cX0_keyOfMade 3 (some .int) (k_rm 1 0 0) false 4 0 (b_X0_keyOfMade_4 J) :=
  s_iload_n dX0_keyOfMade_4 rfl <|
  s_aload_n dX0_keyOfMade_5 rfl <|
  s_get dX0_keyOfMade_6 (ci := 0) (sl := 3) (Cn := RX0) (Tf := TX0) (N := 9) rfl (by decide) kiX0 kw_5_7 <|
  s_push1 dX0_keyOfMade_9 (by decide) (by decide) <|
  s_isub dX0_keyOfMade_10 <|
  s_icmp_ge dX0_keyOfMade_11 (by decide) (s_X0_keyOfMade_31 hJ) (s_X0_keyOfMade_14 hJ)
noncomputable def b_X0_keyOfMade_0 (J : List KC) : KC := o_push 0 <| o_istore 1 <| o_push 0 <| o_istore 2 <| b_X0_keyOfMade_4 J
set_option maxRecDepth 100000 in
theorem s_X0_keyOfMade_0 {l : Launch} {D : va_G} {cI cS cM : ClassId} {J : List KC} (hJ : ∀ (i pc d : Nat), ([(4, 0)] : List (Nat × Nat))[i]? = some (pc, d) → KS l D cI cS cM yX0_keyOfMade.cls yX0_keyOfMade.name cX0_keyOfMade 3 (some .int) (k_rm 1 0 0) false pc d (k_jmp J i)) : KS l D cI cS cM yX0_keyOfMade.cls yX0_keyOfMade.name cX0_keyOfMade 3 (some .int) (k_rm 1 0 0) false 0 0 (b_X0_keyOfMade_0 J) :=
  s_push1 dX0_keyOfMade_0 (by decide) (by decide) <|
  s_istore_n dX0_keyOfMade_1 rfl (by decide) <|
  s_push1 dX0_keyOfMade_2 (by decide) (by decide) <|
  s_istore_n dX0_keyOfMade_3 rfl (by decide) <|
  s_X0_keyOfMade_4 hJ
noncomputable def j_X0_keyOfMade (J : List KC) : List KC := [b_X0_keyOfMade_4 J]
noncomputable def m_X0_keyOfMade (n : Nat) : KF := k_fun [k_u, k_u] (b_X0_keyOfMade_0 (k_loop (j_X0_keyOfMade) n))
theorem r_X0_keyOfMade {l : Launch} {D : va_G} {cI cS cM : ClassId} (n : Nat) : k_snd l D cI cS cM yX0_keyOfMade cX0_keyOfMade 3 (some .int) 1 1 (m_X0_keyOfMade n) :=
  k_method (by decide +kernel) (by simp) rfl (s_X0_keyOfMade_0 (k_loops (hs := [(4, 0)]) (fun J hJ i pc d h => match i, h with | 0, h => by cases h; exact s_X0_keyOfMade_4 hJ | _ + 1, h => by simp at h) n))
noncomputable def b_X0_pointsLeft_35 (J : List KC) : KC := o_iload 2 <| o_iret
set_option maxRecDepth 100000 in
theorem s_X0_pointsLeft_35 {l : Launch} {D : va_G} {cI cS cM : ClassId} {J : List KC} (hJ : ∀ (i pc d : Nat), ([(4, 0)] : List (Nat × Nat))[i]? = some (pc, d) → KS l D cI cS cM yX0_pointsLeft.cls yX0_pointsLeft.name cX0_pointsLeft 4 (some .int) (k_rm 1 0 0) false pc d (k_jmp J i)) : KS l D cI cS cM yX0_pointsLeft.cls yX0_pointsLeft.name cX0_pointsLeft 4 (some .int) (k_rm 1 0 0) false 35 0 (b_X0_pointsLeft_35 J) :=
  s_iload_n dX0_pointsLeft_35 rfl <|
  s_ireturn dX0_pointsLeft_36 rfl
noncomputable def b_X0_pointsLeft_29 (J : List KC) : KC := o_iinc 3 1 <| k_jmp J 0
set_option maxRecDepth 100000 in
theorem s_X0_pointsLeft_29 {l : Launch} {D : va_G} {cI cS cM : ClassId} {J : List KC} (hJ : ∀ (i pc d : Nat), ([(4, 0)] : List (Nat × Nat))[i]? = some (pc, d) → KS l D cI cS cM yX0_pointsLeft.cls yX0_pointsLeft.name cX0_pointsLeft 4 (some .int) (k_rm 1 0 0) false pc d (k_jmp J i)) : KS l D cI cS cM yX0_pointsLeft.cls yX0_pointsLeft.name cX0_pointsLeft 4 (some .int) (k_rm 1 0 0) false 29 0 (b_X0_pointsLeft_29 J) :=
  s_iinc dX0_pointsLeft_29 (by decide) (by decide) <|
  s_goto dX0_pointsLeft_32 (by decide) (hJ 0 _ _ rfl)
noncomputable def b_X0_pointsLeft_26 (J : List KC) : KC := o_iinc 2 1 <| b_X0_pointsLeft_29 J
set_option maxRecDepth 100000 in
theorem s_X0_pointsLeft_26 {l : Launch} {D : va_G} {cI cS cM : ClassId} {J : List KC} (hJ : ∀ (i pc d : Nat), ([(4, 0)] : List (Nat × Nat))[i]? = some (pc, d) → KS l D cI cS cM yX0_pointsLeft.cls yX0_pointsLeft.name cX0_pointsLeft 4 (some .int) (k_rm 1 0 0) false pc d (k_jmp J i)) : KS l D cI cS cM yX0_pointsLeft.cls yX0_pointsLeft.name cX0_pointsLeft 4 (some .int) (k_rm 1 0 0) false 26 0 (b_X0_pointsLeft_26 J) :=
  s_iinc dX0_pointsLeft_26 (by decide) (by decide) <|
  s_X0_pointsLeft_29 hJ
noncomputable def b_X0_pointsLeft_12 (J : List KC) : KC := o_aload 0 <| o_get 0 4 <| o_iload 1 <| o_push 5 <| o_bin n_mul <| o_iload 3 <| o_bin n_add <| o_iald <| o_iload 3 <| o_c2 Nat.beq (b_X0_pointsLeft_26 J) (b_X0_pointsLeft_29 J)
set_option maxRecDepth 100000 in
theorem s_X0_pointsLeft_12 {l : Launch} {D : va_G} {cI cS cM : ClassId} {J : List KC} (hJ : ∀ (i pc d : Nat), ([(4, 0)] : List (Nat × Nat))[i]? = some (pc, d) → KS l D cI cS cM yX0_pointsLeft.cls yX0_pointsLeft.name cX0_pointsLeft 4 (some .int) (k_rm 1 0 0) false pc d (k_jmp J i)) : KS l D cI cS cM yX0_pointsLeft.cls yX0_pointsLeft.name cX0_pointsLeft 4 (some .int) (k_rm 1 0 0) false 12 0 (b_X0_pointsLeft_12 J) :=
  s_aload_n dX0_pointsLeft_12 rfl <|
  s_get dX0_pointsLeft_13 (ci := 0) (sl := 4) (Cn := RX0) (Tf := TX0) (N := 9) rfl (by decide) kiX0 kw_5_8 <|
  s_iload_n dX0_pointsLeft_16 rfl <|
  s_push1 dX0_pointsLeft_17 (by decide) (by decide) <|
  s_imul dX0_pointsLeft_18 <|
  s_iload_n dX0_pointsLeft_19 rfl <|
  s_iadd dX0_pointsLeft_20 <|
  s_iald dX0_pointsLeft_21 <|
  s_iload_n dX0_pointsLeft_22 rfl <|
  s_icmp_ne dX0_pointsLeft_23 (by decide) (s_X0_pointsLeft_29 hJ) (s_X0_pointsLeft_26 hJ)
noncomputable def b_X0_pointsLeft_4 (J : List KC) : KC := o_iload 3 <| o_aload 0 <| o_get 0 3 <| o_c2 s_lt (b_X0_pointsLeft_12 J) (b_X0_pointsLeft_35 J)
set_option maxRecDepth 100000 in
theorem s_X0_pointsLeft_4 {l : Launch} {D : va_G} {cI cS cM : ClassId} {J : List KC} (hJ : ∀ (i pc d : Nat), ([(4, 0)] : List (Nat × Nat))[i]? = some (pc, d) → KS l D cI cS cM yX0_pointsLeft.cls yX0_pointsLeft.name cX0_pointsLeft 4 (some .int) (k_rm 1 0 0) false pc d (k_jmp J i)) : KS l D cI cS cM yX0_pointsLeft.cls yX0_pointsLeft.name cX0_pointsLeft 4 (some .int) (k_rm 1 0 0) false 4 0 (b_X0_pointsLeft_4 J) :=
  s_iload_n dX0_pointsLeft_4 rfl <|
  s_aload_n dX0_pointsLeft_5 rfl <|
  s_get dX0_pointsLeft_6 (ci := 0) (sl := 3) (Cn := RX0) (Tf := TX0) (N := 9) rfl (by decide) kiX0 kw_5_7 <|
  s_icmp_ge dX0_pointsLeft_9 (by decide) (s_X0_pointsLeft_35 hJ) (s_X0_pointsLeft_12 hJ)
noncomputable def b_X0_pointsLeft_0 (J : List KC) : KC := o_push 0 <| o_istore 2 <| o_push 0 <| o_istore 3 <| b_X0_pointsLeft_4 J
set_option maxRecDepth 100000 in
theorem s_X0_pointsLeft_0 {l : Launch} {D : va_G} {cI cS cM : ClassId} {J : List KC} (hJ : ∀ (i pc d : Nat), ([(4, 0)] : List (Nat × Nat))[i]? = some (pc, d) → KS l D cI cS cM yX0_pointsLeft.cls yX0_pointsLeft.name cX0_pointsLeft 4 (some .int) (k_rm 1 0 0) false pc d (k_jmp J i)) : KS l D cI cS cM yX0_pointsLeft.cls yX0_pointsLeft.name cX0_pointsLeft 4 (some .int) (k_rm 1 0 0) false 0 0 (b_X0_pointsLeft_0 J) :=
  s_push1 dX0_pointsLeft_0 (by decide) (by decide) <|
  s_istore_n dX0_pointsLeft_1 rfl (by decide) <|
  s_push1 dX0_pointsLeft_2 (by decide) (by decide) <|
  s_istore_n dX0_pointsLeft_3 rfl (by decide) <|
  s_X0_pointsLeft_4 hJ
noncomputable def j_X0_pointsLeft (J : List KC) : List KC := [b_X0_pointsLeft_4 J]
noncomputable def m_X0_pointsLeft (n : Nat) : KF := k_fun [k_u, k_u] (b_X0_pointsLeft_0 (k_loop (j_X0_pointsLeft) n))
theorem r_X0_pointsLeft {l : Launch} {D : va_G} {cI cS cM : ClassId} (n : Nat) : k_snd l D cI cS cM yX0_pointsLeft cX0_pointsLeft 4 (some .int) 1 2 (m_X0_pointsLeft n) :=
  k_method (by decide +kernel) (by simp) rfl (s_X0_pointsLeft_0 (k_loops (hs := [(4, 0)]) (fun J hJ i pc d h => match i, h with | 0, h => by cases h; exact s_X0_pointsLeft_4 hJ | _ + 1, h => by simp at h) n))
noncomputable def b_X0_spell_40 (J : List KC) : KC := o_ret
set_option maxRecDepth 100000 in
theorem s_X0_spell_40 {l : Launch} {D : va_G} {cI cS cM : ClassId} {J : List KC} (hJ : ∀ (i pc d : Nat), ([(11, 0)] : List (Nat × Nat))[i]? = some (pc, d) → KS l D cI cS cM yX0_spell.cls yX0_spell.name cX0_spell 6 none (k_rm 1 0 0) false pc d (k_jmp J i)) : KS l D cI cS cM yX0_spell.cls yX0_spell.name cX0_spell 6 none (k_rm 1 0 0) false 40 0 (b_X0_spell_40 J) :=
  s_return dX0_spell_40 rfl
noncomputable def b_X0_spell_16 (J : List KC) : KC := o_aload 2 <| o_iload 3 <| o_iload 5 <| o_bin n_add <| o_iload 4 <| o_push 10 <| o_div n_rem <| o_iast <| o_iload 4 <| o_push 10 <| o_div n_div <| o_istore 4 <| o_iinc 5 4294967295 <| k_jmp J 0
set_option maxRecDepth 100000 in
theorem s_X0_spell_16 {l : Launch} {D : va_G} {cI cS cM : ClassId} {J : List KC} (hJ : ∀ (i pc d : Nat), ([(11, 0)] : List (Nat × Nat))[i]? = some (pc, d) → KS l D cI cS cM yX0_spell.cls yX0_spell.name cX0_spell 6 none (k_rm 1 0 0) false pc d (k_jmp J i)) : KS l D cI cS cM yX0_spell.cls yX0_spell.name cX0_spell 6 none (k_rm 1 0 0) false 16 0 (b_X0_spell_16 J) :=
  s_aload_n dX0_spell_16 rfl <|
  s_iload_n dX0_spell_17 rfl <|
  s_iload dX0_spell_18 <|
  s_iadd dX0_spell_20 <|
  s_iload dX0_spell_21 <|
  s_push2 dX0_spell_23 (by decide) (by decide) <|
  s_irem dX0_spell_25 <|
  s_iast dX0_spell_26 <|
  s_iload dX0_spell_27 <|
  s_push2 dX0_spell_29 (by decide) (by decide) <|
  s_idiv dX0_spell_31 <|
  s_istore dX0_spell_32 (by decide) <|
  s_iinc dX0_spell_34 (by decide) (by decide) <|
  s_goto dX0_spell_37 (by decide) (hJ 0 _ _ rfl)
noncomputable def b_X0_spell_11 (J : List KC) : KC := o_iload 5 <| o_c1 g_lt (b_X0_spell_40 J) (b_X0_spell_16 J)
set_option maxRecDepth 100000 in
theorem s_X0_spell_11 {l : Launch} {D : va_G} {cI cS cM : ClassId} {J : List KC} (hJ : ∀ (i pc d : Nat), ([(11, 0)] : List (Nat × Nat))[i]? = some (pc, d) → KS l D cI cS cM yX0_spell.cls yX0_spell.name cX0_spell 6 none (k_rm 1 0 0) false pc d (k_jmp J i)) : KS l D cI cS cM yX0_spell.cls yX0_spell.name cX0_spell 6 none (k_rm 1 0 0) false 11 0 (b_X0_spell_11 J) :=
  s_iload dX0_spell_11 <|
  s_if_lt dX0_spell_13 (by decide) (s_X0_spell_40 hJ) (s_X0_spell_16 hJ)
noncomputable def b_X0_spell_0 (J : List KC) : KC := o_iload 1 <| o_istore 4 <| o_aload 0 <| o_get 0 3 <| o_push 1 <| o_bin n_sub <| o_istore 5 <| b_X0_spell_11 J
set_option maxRecDepth 100000 in
theorem s_X0_spell_0 {l : Launch} {D : va_G} {cI cS cM : ClassId} {J : List KC} (hJ : ∀ (i pc d : Nat), ([(11, 0)] : List (Nat × Nat))[i]? = some (pc, d) → KS l D cI cS cM yX0_spell.cls yX0_spell.name cX0_spell 6 none (k_rm 1 0 0) false pc d (k_jmp J i)) : KS l D cI cS cM yX0_spell.cls yX0_spell.name cX0_spell 6 none (k_rm 1 0 0) false 0 0 (b_X0_spell_0 J) :=
  s_iload_n dX0_spell_0 rfl <|
  s_istore dX0_spell_1 (by decide) <|
  s_aload_n dX0_spell_3 rfl <|
  s_get dX0_spell_4 (ci := 0) (sl := 3) (Cn := RX0) (Tf := TX0) (N := 9) rfl (by decide) kiX0 kw_5_7 <|
  s_push1 dX0_spell_7 (by decide) (by decide) <|
  s_isub dX0_spell_8 <|
  s_istore dX0_spell_9 (by decide) <|
  s_X0_spell_11 hJ
noncomputable def j_X0_spell (J : List KC) : List KC := [b_X0_spell_11 J]
noncomputable def m_X0_spell (n : Nat) : KF := k_fun [k_u, k_u] (b_X0_spell_0 (k_loop (j_X0_spell) n))
theorem r_X0_spell {l : Launch} {D : va_G} {cI cS cM : ClassId} (n : Nat) : k_snd l D cI cS cM yX0_spell cX0_spell 6 none 1 4 (m_X0_spell n) :=
  k_method (by decide +kernel) (by simp) rfl (s_X0_spell_0 (k_loops (hs := [(11, 0)]) (fun J hJ i pc d h => match i, h with | 0, h => by cases h; exact s_X0_spell_11 hJ | _ + 1, h => by simp at h) n))
noncomputable def b_X0_addMade_84 (F_X0_keyOfMade F_X8_isBelow : KF) (J : List KC) : KC := o_aload 0 <| o_get 0 6 <| o_iload 1 <| o_iload 2 <| o_iast <| o_aload 0 <| o_dup <| o_get 0 0 <| o_push 1 <| o_bin n_add <| o_puti 0 0 <| o_ret
set_option maxRecDepth 100000 in
theorem s_X0_addMade_84 {l : Launch} {D : va_G} {cI cS cM : ClassId} {F_X0_keyOfMade F_X8_isBelow : KF} (h_X0_keyOfMade : k_snd l D cI cS cM yX0_keyOfMade cX0_keyOfMade 3 (some .int) 1 1 F_X0_keyOfMade) (h_X8_isBelow : k_snd l D cI cS cM yX8_isBelow cX8_isBelow 2 (some .boolean) 1 2 F_X8_isBelow) {J : List KC} (hJ : ∀ (i pc d : Nat), ([(39, 0)] : List (Nat × Nat))[i]? = some (pc, d) → KS l D cI cS cM yX0_addMade.cls yX0_addMade.name cX0_addMade 4 none (k_rm 2 0 0) false pc d (k_jmp J i)) : KS l D cI cS cM yX0_addMade.cls yX0_addMade.name cX0_addMade 4 none (k_rm 2 0 0) false 84 0 (b_X0_addMade_84 F_X0_keyOfMade F_X8_isBelow J) :=
  s_aload_n dX0_addMade_84 rfl <|
  s_get dX0_addMade_85 (ci := 0) (sl := 6) (Cn := RX0) (Tf := TX0) (N := 9) rfl (by decide) kiX0 kw_5_10 <|
  s_iload_n dX0_addMade_88 rfl <|
  s_iload_n dX0_addMade_89 rfl <|
  s_iast dX0_addMade_90 <|
  s_aload_n dX0_addMade_91 rfl <|
  s_dup dX0_addMade_92 <|
  s_get dX0_addMade_93 (ci := 0) (sl := 0) (Cn := RX0) (Tf := TX0) (N := 9) rfl (by decide) kiX0 kw_5_4 <|
  s_push1 dX0_addMade_96 (by decide) (by decide) <|
  s_iadd dX0_addMade_97 <|
  s_puti dX0_addMade_98 (ci := 0) (sl := 0) (Cn := RX0) (Tf := TX0) (N := 9) (tyf := tyX0) rfl (by decide) kiX0 tyX0_ok nmX0 kw_5_4 rfl rfl <|
  s_return dX0_addMade_101 rfl
noncomputable def b_X0_addMade_47 (F_X0_keyOfMade F_X8_isBelow : KF) (J : List KC) : KC := o_aload 0 <| o_get 0 4 <| o_aload 0 <| o_get 0 0 <| o_push 5 <| o_bin n_mul <| o_iload 3 <| o_bin n_add <| o_aload 0 <| o_get 0 8 <| o_iload 3 <| o_iald <| o_iast <| o_push 10 <| o_iload 2 <| o_bin n_mul <| o_aload 0 <| o_get 0 8 <| o_iload 3 <| o_iald <| o_bin n_add <| o_istore 2 <| o_iinc 3 1 <| k_jmp J 0
set_option maxRecDepth 100000 in
theorem s_X0_addMade_47 {l : Launch} {D : va_G} {cI cS cM : ClassId} {F_X0_keyOfMade F_X8_isBelow : KF} (h_X0_keyOfMade : k_snd l D cI cS cM yX0_keyOfMade cX0_keyOfMade 3 (some .int) 1 1 F_X0_keyOfMade) (h_X8_isBelow : k_snd l D cI cS cM yX8_isBelow cX8_isBelow 2 (some .boolean) 1 2 F_X8_isBelow) {J : List KC} (hJ : ∀ (i pc d : Nat), ([(39, 0)] : List (Nat × Nat))[i]? = some (pc, d) → KS l D cI cS cM yX0_addMade.cls yX0_addMade.name cX0_addMade 4 none (k_rm 2 0 0) false pc d (k_jmp J i)) : KS l D cI cS cM yX0_addMade.cls yX0_addMade.name cX0_addMade 4 none (k_rm 2 0 0) false 47 0 (b_X0_addMade_47 F_X0_keyOfMade F_X8_isBelow J) :=
  s_aload_n dX0_addMade_47 rfl <|
  s_get dX0_addMade_48 (ci := 0) (sl := 4) (Cn := RX0) (Tf := TX0) (N := 9) rfl (by decide) kiX0 kw_5_8 <|
  s_aload_n dX0_addMade_51 rfl <|
  s_get dX0_addMade_52 (ci := 0) (sl := 0) (Cn := RX0) (Tf := TX0) (N := 9) rfl (by decide) kiX0 kw_5_4 <|
  s_push1 dX0_addMade_55 (by decide) (by decide) <|
  s_imul dX0_addMade_56 <|
  s_iload_n dX0_addMade_57 rfl <|
  s_iadd dX0_addMade_58 <|
  s_aload_n dX0_addMade_59 rfl <|
  s_get dX0_addMade_60 (ci := 0) (sl := 8) (Cn := RX0) (Tf := TX0) (N := 9) rfl (by decide) kiX0 kw_5_12 <|
  s_iload_n dX0_addMade_63 rfl <|
  s_iald dX0_addMade_64 <|
  s_iast dX0_addMade_65 <|
  s_push2 dX0_addMade_66 (by decide) (by decide) <|
  s_iload_n dX0_addMade_68 rfl <|
  s_imul dX0_addMade_69 <|
  s_aload_n dX0_addMade_70 rfl <|
  s_get dX0_addMade_71 (ci := 0) (sl := 8) (Cn := RX0) (Tf := TX0) (N := 9) rfl (by decide) kiX0 kw_5_12 <|
  s_iload_n dX0_addMade_74 rfl <|
  s_iald dX0_addMade_75 <|
  s_iadd dX0_addMade_76 <|
  s_istore_n dX0_addMade_77 rfl (by decide) <|
  s_iinc dX0_addMade_78 (by decide) (by decide) <|
  s_goto dX0_addMade_81 (by decide) (hJ 0 _ _ rfl)
noncomputable def b_X0_addMade_39 (F_X0_keyOfMade F_X8_isBelow : KF) (J : List KC) : KC := o_iload 3 <| o_aload 0 <| o_get 0 3 <| o_c2 s_lt (b_X0_addMade_47 F_X0_keyOfMade F_X8_isBelow J) (b_X0_addMade_84 F_X0_keyOfMade F_X8_isBelow J)
set_option maxRecDepth 100000 in
theorem s_X0_addMade_39 {l : Launch} {D : va_G} {cI cS cM : ClassId} {F_X0_keyOfMade F_X8_isBelow : KF} (h_X0_keyOfMade : k_snd l D cI cS cM yX0_keyOfMade cX0_keyOfMade 3 (some .int) 1 1 F_X0_keyOfMade) (h_X8_isBelow : k_snd l D cI cS cM yX8_isBelow cX8_isBelow 2 (some .boolean) 1 2 F_X8_isBelow) {J : List KC} (hJ : ∀ (i pc d : Nat), ([(39, 0)] : List (Nat × Nat))[i]? = some (pc, d) → KS l D cI cS cM yX0_addMade.cls yX0_addMade.name cX0_addMade 4 none (k_rm 2 0 0) false pc d (k_jmp J i)) : KS l D cI cS cM yX0_addMade.cls yX0_addMade.name cX0_addMade 4 none (k_rm 2 0 0) false 39 0 (b_X0_addMade_39 F_X0_keyOfMade F_X8_isBelow J) :=
  s_iload_n dX0_addMade_39 rfl <|
  s_aload_n dX0_addMade_40 rfl <|
  s_get dX0_addMade_41 (ci := 0) (sl := 3) (Cn := RX0) (Tf := TX0) (N := 9) rfl (by decide) kiX0 kw_5_7 <|
  s_icmp_ge dX0_addMade_44 (by decide) (s_X0_addMade_84 h_X0_keyOfMade h_X8_isBelow hJ) (s_X0_addMade_47 h_X0_keyOfMade h_X8_isBelow hJ)
noncomputable def b_X0_addMade_35 (F_X0_keyOfMade F_X8_isBelow : KF) (J : List KC) : KC := o_push 0 <| o_istore 2 <| o_push 0 <| o_istore 3 <| b_X0_addMade_39 F_X0_keyOfMade F_X8_isBelow J
set_option maxRecDepth 100000 in
theorem s_X0_addMade_35 {l : Launch} {D : va_G} {cI cS cM : ClassId} {F_X0_keyOfMade F_X8_isBelow : KF} (h_X0_keyOfMade : k_snd l D cI cS cM yX0_keyOfMade cX0_keyOfMade 3 (some .int) 1 1 F_X0_keyOfMade) (h_X8_isBelow : k_snd l D cI cS cM yX8_isBelow cX8_isBelow 2 (some .boolean) 1 2 F_X8_isBelow) {J : List KC} (hJ : ∀ (i pc d : Nat), ([(39, 0)] : List (Nat × Nat))[i]? = some (pc, d) → KS l D cI cS cM yX0_addMade.cls yX0_addMade.name cX0_addMade 4 none (k_rm 2 0 0) false pc d (k_jmp J i)) : KS l D cI cS cM yX0_addMade.cls yX0_addMade.name cX0_addMade 4 none (k_rm 2 0 0) false 35 0 (b_X0_addMade_35 F_X0_keyOfMade F_X8_isBelow J) :=
  s_push1 dX0_addMade_35 (by decide) (by decide) <|
  s_istore_n dX0_addMade_36 rfl (by decide) <|
  s_push1 dX0_addMade_37 (by decide) (by decide) <|
  s_istore_n dX0_addMade_38 rfl (by decide) <|
  s_X0_addMade_39 h_X0_keyOfMade h_X8_isBelow hJ
noncomputable def b_X0_addMade_34 (F_X0_keyOfMade F_X8_isBelow : KF) (J : List KC) : KC := o_ret
set_option maxRecDepth 100000 in
theorem s_X0_addMade_34 {l : Launch} {D : va_G} {cI cS cM : ClassId} {F_X0_keyOfMade F_X8_isBelow : KF} (h_X0_keyOfMade : k_snd l D cI cS cM yX0_keyOfMade cX0_keyOfMade 3 (some .int) 1 1 F_X0_keyOfMade) (h_X8_isBelow : k_snd l D cI cS cM yX8_isBelow cX8_isBelow 2 (some .boolean) 1 2 F_X8_isBelow) {J : List KC} (hJ : ∀ (i pc d : Nat), ([(39, 0)] : List (Nat × Nat))[i]? = some (pc, d) → KS l D cI cS cM yX0_addMade.cls yX0_addMade.name cX0_addMade 4 none (k_rm 2 0 0) false pc d (k_jmp J i)) : KS l D cI cS cM yX0_addMade.cls yX0_addMade.name cX0_addMade 4 none (k_rm 2 0 0) false 34 0 (b_X0_addMade_34 F_X0_keyOfMade F_X8_isBelow J) :=
  s_return dX0_addMade_34 rfl
noncomputable def b_X0_addMade_25 (F_X0_keyOfMade F_X8_isBelow : KF) (J : List KC) : KC := o_aload 0 <| o_get 0 0 <| o_push 120 <| o_c2 s_lt (b_X0_addMade_35 F_X0_keyOfMade F_X8_isBelow J) (b_X0_addMade_34 F_X0_keyOfMade F_X8_isBelow J)
set_option maxRecDepth 100000 in
theorem s_X0_addMade_25 {l : Launch} {D : va_G} {cI cS cM : ClassId} {F_X0_keyOfMade F_X8_isBelow : KF} (h_X0_keyOfMade : k_snd l D cI cS cM yX0_keyOfMade cX0_keyOfMade 3 (some .int) 1 1 F_X0_keyOfMade) (h_X8_isBelow : k_snd l D cI cS cM yX8_isBelow cX8_isBelow 2 (some .boolean) 1 2 F_X8_isBelow) {J : List KC} (hJ : ∀ (i pc d : Nat), ([(39, 0)] : List (Nat × Nat))[i]? = some (pc, d) → KS l D cI cS cM yX0_addMade.cls yX0_addMade.name cX0_addMade 4 none (k_rm 2 0 0) false pc d (k_jmp J i)) : KS l D cI cS cM yX0_addMade.cls yX0_addMade.name cX0_addMade 4 none (k_rm 2 0 0) false 25 0 (b_X0_addMade_25 F_X0_keyOfMade F_X8_isBelow J) :=
  s_aload_n dX0_addMade_25 rfl <|
  s_get dX0_addMade_26 (ci := 0) (sl := 0) (Cn := RX0) (Tf := TX0) (N := 9) rfl (by decide) kiX0 kw_5_4 <|
  s_push2 dX0_addMade_29 (by decide) (by decide) <|
  s_icmp_lt dX0_addMade_31 (by decide) (s_X0_addMade_35 h_X0_keyOfMade h_X8_isBelow hJ) (s_X0_addMade_34 h_X0_keyOfMade h_X8_isBelow hJ)
noncomputable def b_X0_addMade_15 (F_X0_keyOfMade F_X8_isBelow : KF) (J : List KC) : KC := o_aload 0 <| o_get 0 6 <| o_iload 1 <| o_iald <| o_push 4294967295 <| o_c2 Nat.beq (b_X0_addMade_25 F_X0_keyOfMade F_X8_isBelow J) (b_X0_addMade_34 F_X0_keyOfMade F_X8_isBelow J)
set_option maxRecDepth 100000 in
theorem s_X0_addMade_15 {l : Launch} {D : va_G} {cI cS cM : ClassId} {F_X0_keyOfMade F_X8_isBelow : KF} (h_X0_keyOfMade : k_snd l D cI cS cM yX0_keyOfMade cX0_keyOfMade 3 (some .int) 1 1 F_X0_keyOfMade) (h_X8_isBelow : k_snd l D cI cS cM yX8_isBelow cX8_isBelow 2 (some .boolean) 1 2 F_X8_isBelow) {J : List KC} (hJ : ∀ (i pc d : Nat), ([(39, 0)] : List (Nat × Nat))[i]? = some (pc, d) → KS l D cI cS cM yX0_addMade.cls yX0_addMade.name cX0_addMade 4 none (k_rm 2 0 0) false pc d (k_jmp J i)) : KS l D cI cS cM yX0_addMade.cls yX0_addMade.name cX0_addMade 4 none (k_rm 2 0 0) false 15 0 (b_X0_addMade_15 F_X0_keyOfMade F_X8_isBelow J) :=
  s_aload_n dX0_addMade_15 rfl <|
  s_get dX0_addMade_16 (ci := 0) (sl := 6) (Cn := RX0) (Tf := TX0) (N := 9) rfl (by decide) kiX0 kw_5_10 <|
  s_iload_n dX0_addMade_19 rfl <|
  s_iald dX0_addMade_20 <|
  s_push1 dX0_addMade_21 (by decide) (by decide) <|
  s_icmp_ne dX0_addMade_22 (by decide) (s_X0_addMade_34 h_X0_keyOfMade h_X8_isBelow hJ) (s_X0_addMade_25 h_X0_keyOfMade h_X8_isBelow hJ)
noncomputable def b_X0_addMade_0 (F_X0_keyOfMade F_X8_isBelow : KF) (J : List KC) : KC := o_aload 0 <| o_cV1 1 0 F_X0_keyOfMade <| o_istore 1 <| o_iload 1 <| o_push 625 <| o_cS1 2 F_X8_isBelow <| o_c1 g_eq (b_X0_addMade_34 F_X0_keyOfMade F_X8_isBelow J) (b_X0_addMade_15 F_X0_keyOfMade F_X8_isBelow J)
set_option maxRecDepth 100000 in
theorem s_X0_addMade_0 {l : Launch} {D : va_G} {cI cS cM : ClassId} {F_X0_keyOfMade F_X8_isBelow : KF} (h_X0_keyOfMade : k_snd l D cI cS cM yX0_keyOfMade cX0_keyOfMade 3 (some .int) 1 1 F_X0_keyOfMade) (h_X8_isBelow : k_snd l D cI cS cM yX8_isBelow cX8_isBelow 2 (some .boolean) 1 2 F_X8_isBelow) {J : List KC} (hJ : ∀ (i pc d : Nat), ([(39, 0)] : List (Nat × Nat))[i]? = some (pc, d) → KS l D cI cS cM yX0_addMade.cls yX0_addMade.name cX0_addMade 4 none (k_rm 2 0 0) false pc d (k_jmp J i)) : KS l D cI cS cM yX0_addMade.cls yX0_addMade.name cX0_addMade 4 none (k_rm 2 0 0) false 0 0 (b_X0_addMade_0 F_X0_keyOfMade F_X8_isBelow J) :=
  s_aload_n dX0_addMade_0 rfl <|
  s_callV1 dX0_addMade_1 kw_13_22 kw_13_23 kw_14_0 (ci := 0) rfl ok_X0_keyOfMade (by decide) (by decide) h_X0_keyOfMade (by decide) <|
  s_istore_n dX0_addMade_4 rfl (by decide) <|
  s_iload_n dX0_addMade_5 rfl <|
  s_push3 dX0_addMade_6 (by decide) (by decide) <|
  s_callN1 dX0_addMade_9 (List.mem_of_getElem? (i := 1) rfl) kw_8_14 ok_X8_isBelow (by decide) (by decide) h_X8_isBelow (by decide) <|
  s_if_eq dX0_addMade_12 (by decide) (s_X0_addMade_34 h_X0_keyOfMade h_X8_isBelow hJ) (s_X0_addMade_15 h_X0_keyOfMade h_X8_isBelow hJ)
noncomputable def j_X0_addMade (F_X0_keyOfMade F_X8_isBelow : KF) (J : List KC) : List KC := [b_X0_addMade_39 F_X0_keyOfMade F_X8_isBelow J]
noncomputable def m_X0_addMade (F_X0_keyOfMade F_X8_isBelow : KF) (n : Nat) : KF := k_fun [k_u, k_u, k_u] (b_X0_addMade_0 F_X0_keyOfMade F_X8_isBelow (k_loop (j_X0_addMade F_X0_keyOfMade F_X8_isBelow) n))
theorem r_X0_addMade {l : Launch} {D : va_G} {cI cS cM : ClassId} {F_X0_keyOfMade F_X8_isBelow : KF} (h_X0_keyOfMade : k_snd l D cI cS cM yX0_keyOfMade cX0_keyOfMade 3 (some .int) 1 1 F_X0_keyOfMade) (h_X8_isBelow : k_snd l D cI cS cM yX8_isBelow cX8_isBelow 2 (some .boolean) 1 2 F_X8_isBelow) (n : Nat) : k_snd l D cI cS cM yX0_addMade cX0_addMade 4 none 2 1 (m_X0_addMade F_X0_keyOfMade F_X8_isBelow n) :=
  k_method (by decide +kernel) (by simp) rfl (s_X0_addMade_0 h_X0_keyOfMade h_X8_isBelow (k_loops (hs := [(39, 0)]) (fun J hJ i pc d h => match i, h with | 0, h => by cases h; exact s_X0_addMade_39 h_X0_keyOfMade h_X8_isBelow hJ | _ + 1, h => by simp at h) n))
noncomputable def b_X0_placeOfMade_25 (F_X0_keyOfMade F_X8_isBelow : KF) : KC := o_iret
set_option maxRecDepth 100000 in
theorem s_X0_placeOfMade_25 {l : Launch} {D : va_G} {cI cS cM : ClassId} {F_X0_keyOfMade F_X8_isBelow : KF} (h_X0_keyOfMade : k_snd l D cI cS cM yX0_keyOfMade cX0_keyOfMade 3 (some .int) 1 1 F_X0_keyOfMade) (h_X8_isBelow : k_snd l D cI cS cM yX8_isBelow cX8_isBelow 2 (some .boolean) 1 2 F_X8_isBelow) : KS l D cI cS cM yX0_placeOfMade.cls yX0_placeOfMade.name cX0_placeOfMade 2 (some .int) (k_rm 2 0 0) false 25 1 (b_X0_placeOfMade_25 F_X0_keyOfMade F_X8_isBelow) :=
  s_ireturn dX0_placeOfMade_25 rfl
noncomputable def b_X0_placeOfMade_24 (F_X0_keyOfMade F_X8_isBelow : KF) : KC := o_push 0 <| b_X0_placeOfMade_25 F_X0_keyOfMade F_X8_isBelow
set_option maxRecDepth 100000 in
theorem s_X0_placeOfMade_24 {l : Launch} {D : va_G} {cI cS cM : ClassId} {F_X0_keyOfMade F_X8_isBelow : KF} (h_X0_keyOfMade : k_snd l D cI cS cM yX0_keyOfMade cX0_keyOfMade 3 (some .int) 1 1 F_X0_keyOfMade) (h_X8_isBelow : k_snd l D cI cS cM yX8_isBelow cX8_isBelow 2 (some .boolean) 1 2 F_X8_isBelow) : KS l D cI cS cM yX0_placeOfMade.cls yX0_placeOfMade.name cX0_placeOfMade 2 (some .int) (k_rm 2 0 0) false 24 0 (b_X0_placeOfMade_24 F_X0_keyOfMade F_X8_isBelow) :=
  s_push1 dX0_placeOfMade_24 (by decide) (by decide) <|
  s_X0_placeOfMade_25 h_X0_keyOfMade h_X8_isBelow
noncomputable def b_X0_placeOfMade_15 (F_X0_keyOfMade F_X8_isBelow : KF) : KC := o_aload 0 <| o_get 0 7 <| o_iload 1 <| o_iald <| b_X0_placeOfMade_25 F_X0_keyOfMade F_X8_isBelow
set_option maxRecDepth 100000 in
theorem s_X0_placeOfMade_15 {l : Launch} {D : va_G} {cI cS cM : ClassId} {F_X0_keyOfMade F_X8_isBelow : KF} (h_X0_keyOfMade : k_snd l D cI cS cM yX0_keyOfMade cX0_keyOfMade 3 (some .int) 1 1 F_X0_keyOfMade) (h_X8_isBelow : k_snd l D cI cS cM yX8_isBelow cX8_isBelow 2 (some .boolean) 1 2 F_X8_isBelow) : KS l D cI cS cM yX0_placeOfMade.cls yX0_placeOfMade.name cX0_placeOfMade 2 (some .int) (k_rm 2 0 0) false 15 0 (b_X0_placeOfMade_15 F_X0_keyOfMade F_X8_isBelow) :=
  s_aload_n dX0_placeOfMade_15 rfl <|
  s_get dX0_placeOfMade_16 (ci := 0) (sl := 7) (Cn := RX0) (Tf := TX0) (N := 9) rfl (by decide) kiX0 kw_5_11 <|
  s_iload_n dX0_placeOfMade_19 rfl <|
  s_iald dX0_placeOfMade_20 <|
  s_goto dX0_placeOfMade_21 (by decide) (s_X0_placeOfMade_25 h_X0_keyOfMade h_X8_isBelow)
noncomputable def b_X0_placeOfMade_0 (F_X0_keyOfMade F_X8_isBelow : KF) : KC := o_aload 0 <| o_cV1 1 0 F_X0_keyOfMade <| o_istore 1 <| o_iload 1 <| o_push 625 <| o_cS1 2 F_X8_isBelow <| o_c1 g_eq (b_X0_placeOfMade_24 F_X0_keyOfMade F_X8_isBelow) (b_X0_placeOfMade_15 F_X0_keyOfMade F_X8_isBelow)
set_option maxRecDepth 100000 in
theorem s_X0_placeOfMade_0 {l : Launch} {D : va_G} {cI cS cM : ClassId} {F_X0_keyOfMade F_X8_isBelow : KF} (h_X0_keyOfMade : k_snd l D cI cS cM yX0_keyOfMade cX0_keyOfMade 3 (some .int) 1 1 F_X0_keyOfMade) (h_X8_isBelow : k_snd l D cI cS cM yX8_isBelow cX8_isBelow 2 (some .boolean) 1 2 F_X8_isBelow) : KS l D cI cS cM yX0_placeOfMade.cls yX0_placeOfMade.name cX0_placeOfMade 2 (some .int) (k_rm 2 0 0) false 0 0 (b_X0_placeOfMade_0 F_X0_keyOfMade F_X8_isBelow) :=
  s_aload_n dX0_placeOfMade_0 rfl <|
  s_callV1 dX0_placeOfMade_1 kw_13_22 kw_13_23 kw_14_0 (ci := 0) rfl ok_X0_keyOfMade (by decide) (by decide) h_X0_keyOfMade (by decide) <|
  s_istore_n dX0_placeOfMade_4 rfl (by decide) <|
  s_iload_n dX0_placeOfMade_5 rfl <|
  s_push3 dX0_placeOfMade_6 (by decide) (by decide) <|
  s_callN1 dX0_placeOfMade_9 (List.mem_of_getElem? (i := 1) rfl) kw_8_14 ok_X8_isBelow (by decide) (by decide) h_X8_isBelow (by decide) <|
  s_if_eq dX0_placeOfMade_12 (by decide) (s_X0_placeOfMade_24 h_X0_keyOfMade h_X8_isBelow) (s_X0_placeOfMade_15 h_X0_keyOfMade h_X8_isBelow)
noncomputable def m_X0_placeOfMade (F_X0_keyOfMade F_X8_isBelow : KF) : KF := k_fun [k_u] (b_X0_placeOfMade_0 F_X0_keyOfMade F_X8_isBelow)
theorem r_X0_placeOfMade {l : Launch} {D : va_G} {cI cS cM : ClassId} {F_X0_keyOfMade F_X8_isBelow : KF} (h_X0_keyOfMade : k_snd l D cI cS cM yX0_keyOfMade cX0_keyOfMade 3 (some .int) 1 1 F_X0_keyOfMade) (h_X8_isBelow : k_snd l D cI cS cM yX8_isBelow cX8_isBelow 2 (some .boolean) 1 2 F_X8_isBelow) : k_snd l D cI cS cM yX0_placeOfMade cX0_placeOfMade 2 (some .int) 2 1 (m_X0_placeOfMade F_X0_keyOfMade F_X8_isBelow) :=
  k_method (by decide +kernel) (by simp) rfl (s_X0_placeOfMade_0 h_X0_keyOfMade h_X8_isBelow)
noncomputable def b_X0_putInOrder_74 (F_X0_spell : KF) (J : List KC) : KC := o_ret
set_option maxRecDepth 100000 in
theorem s_X0_putInOrder_74 {l : Launch} {D : va_G} {cI cS cM : ClassId} {F_X0_spell : KF} (h_X0_spell : k_snd l D cI cS cM yX0_spell cX0_spell 6 none 1 4 F_X0_spell) {J : List KC} (hJ : ∀ (i pc d : Nat), ([(4, 0)] : List (Nat × Nat))[i]? = some (pc, d) → KS l D cI cS cM yX0_putInOrder.cls yX0_putInOrder.name cX0_putInOrder 3 none (k_rm 2 0 0) false pc d (k_jmp J i)) : KS l D cI cS cM yX0_putInOrder.cls yX0_putInOrder.name cX0_putInOrder 3 none (k_rm 2 0 0) false 74 0 (b_X0_putInOrder_74 F_X0_spell J) :=
  s_return dX0_putInOrder_74 rfl
noncomputable def b_X0_putInOrder_68 (F_X0_spell : KF) (J : List KC) : KC := o_iinc 2 1 <| k_jmp J 0
set_option maxRecDepth 100000 in
theorem s_X0_putInOrder_68 {l : Launch} {D : va_G} {cI cS cM : ClassId} {F_X0_spell : KF} (h_X0_spell : k_snd l D cI cS cM yX0_spell cX0_spell 6 none 1 4 F_X0_spell) {J : List KC} (hJ : ∀ (i pc d : Nat), ([(4, 0)] : List (Nat × Nat))[i]? = some (pc, d) → KS l D cI cS cM yX0_putInOrder.cls yX0_putInOrder.name cX0_putInOrder 3 none (k_rm 2 0 0) false pc d (k_jmp J i)) : KS l D cI cS cM yX0_putInOrder.cls yX0_putInOrder.name cX0_putInOrder 3 none (k_rm 2 0 0) false 68 0 (b_X0_putInOrder_68 F_X0_spell J) :=
  s_iinc dX0_putInOrder_68 (by decide) (by decide) <|
  s_goto dX0_putInOrder_71 (by decide) (hJ 0 _ _ rfl)
noncomputable def b_X0_putInOrder_29 (F_X0_spell : KF) (J : List KC) : KC := o_aload 0 <| o_get 0 7 <| o_iload 2 <| o_iload 1 <| o_iast <| o_aload 0 <| o_get 0 1 <| o_iload 1 <| o_aload 0 <| o_get 0 6 <| o_iload 2 <| o_iald <| o_iast <| o_aload 0 <| o_aload 0 <| o_get 0 1 <| o_iload 1 <| o_iald <| o_aload 0 <| o_get 0 4 <| o_iload 1 <| o_push 5 <| o_bin n_mul <| o_cV0 4 0 F_X0_spell <| o_iinc 1 1 <| b_X0_putInOrder_68 F_X0_spell J
set_option maxRecDepth 100000 in
theorem s_X0_putInOrder_29 {l : Launch} {D : va_G} {cI cS cM : ClassId} {F_X0_spell : KF} (h_X0_spell : k_snd l D cI cS cM yX0_spell cX0_spell 6 none 1 4 F_X0_spell) {J : List KC} (hJ : ∀ (i pc d : Nat), ([(4, 0)] : List (Nat × Nat))[i]? = some (pc, d) → KS l D cI cS cM yX0_putInOrder.cls yX0_putInOrder.name cX0_putInOrder 3 none (k_rm 2 0 0) false pc d (k_jmp J i)) : KS l D cI cS cM yX0_putInOrder.cls yX0_putInOrder.name cX0_putInOrder 3 none (k_rm 2 0 0) false 29 0 (b_X0_putInOrder_29 F_X0_spell J) :=
  s_aload_n dX0_putInOrder_29 rfl <|
  s_get dX0_putInOrder_30 (ci := 0) (sl := 7) (Cn := RX0) (Tf := TX0) (N := 9) rfl (by decide) kiX0 kw_5_11 <|
  s_iload_n dX0_putInOrder_33 rfl <|
  s_iload_n dX0_putInOrder_34 rfl <|
  s_iast dX0_putInOrder_35 <|
  s_aload_n dX0_putInOrder_36 rfl <|
  s_get dX0_putInOrder_37 (ci := 0) (sl := 1) (Cn := RX0) (Tf := TX0) (N := 9) rfl (by decide) kiX0 kw_5_5 <|
  s_iload_n dX0_putInOrder_40 rfl <|
  s_aload_n dX0_putInOrder_41 rfl <|
  s_get dX0_putInOrder_42 (ci := 0) (sl := 6) (Cn := RX0) (Tf := TX0) (N := 9) rfl (by decide) kiX0 kw_5_10 <|
  s_iload_n dX0_putInOrder_45 rfl <|
  s_iald dX0_putInOrder_46 <|
  s_iast dX0_putInOrder_47 <|
  s_aload_n dX0_putInOrder_48 rfl <|
  s_aload_n dX0_putInOrder_49 rfl <|
  s_get dX0_putInOrder_50 (ci := 0) (sl := 1) (Cn := RX0) (Tf := TX0) (N := 9) rfl (by decide) kiX0 kw_5_5 <|
  s_iload_n dX0_putInOrder_53 rfl <|
  s_iald dX0_putInOrder_54 <|
  s_aload_n dX0_putInOrder_55 rfl <|
  s_get dX0_putInOrder_56 (ci := 0) (sl := 4) (Cn := RX0) (Tf := TX0) (N := 9) rfl (by decide) kiX0 kw_5_8 <|
  s_iload_n dX0_putInOrder_59 rfl <|
  s_push1 dX0_putInOrder_60 (by decide) (by decide) <|
  s_imul dX0_putInOrder_61 <|
  s_callV0 dX0_putInOrder_62 kw_13_6 kw_13_7 kw_13_8 (ci := 0) rfl ok_X0_spell (by decide) (by decide) h_X0_spell (by decide) <|
  s_iinc dX0_putInOrder_65 (by decide) (by decide) <|
  s_X0_putInOrder_68 h_X0_spell hJ
noncomputable def b_X0_putInOrder_19 (F_X0_spell : KF) (J : List KC) : KC := o_aload 0 <| o_get 0 6 <| o_iload 2 <| o_iald <| o_push 4294967295 <| o_c2 Nat.beq (b_X0_putInOrder_68 F_X0_spell J) (b_X0_putInOrder_29 F_X0_spell J)
set_option maxRecDepth 100000 in
theorem s_X0_putInOrder_19 {l : Launch} {D : va_G} {cI cS cM : ClassId} {F_X0_spell : KF} (h_X0_spell : k_snd l D cI cS cM yX0_spell cX0_spell 6 none 1 4 F_X0_spell) {J : List KC} (hJ : ∀ (i pc d : Nat), ([(4, 0)] : List (Nat × Nat))[i]? = some (pc, d) → KS l D cI cS cM yX0_putInOrder.cls yX0_putInOrder.name cX0_putInOrder 3 none (k_rm 2 0 0) false pc d (k_jmp J i)) : KS l D cI cS cM yX0_putInOrder.cls yX0_putInOrder.name cX0_putInOrder 3 none (k_rm 2 0 0) false 19 0 (b_X0_putInOrder_19 F_X0_spell J) :=
  s_aload_n dX0_putInOrder_19 rfl <|
  s_get dX0_putInOrder_20 (ci := 0) (sl := 6) (Cn := RX0) (Tf := TX0) (N := 9) rfl (by decide) kiX0 kw_5_10 <|
  s_iload_n dX0_putInOrder_23 rfl <|
  s_iald dX0_putInOrder_24 <|
  s_push1 dX0_putInOrder_25 (by decide) (by decide) <|
  s_icmp_eq dX0_putInOrder_26 (by decide) (s_X0_putInOrder_68 h_X0_spell hJ) (s_X0_putInOrder_29 h_X0_spell hJ)
noncomputable def b_X0_putInOrder_11 (F_X0_spell : KF) (J : List KC) : KC := o_iload 1 <| o_aload 0 <| o_get 0 0 <| o_c2 s_lt (b_X0_putInOrder_19 F_X0_spell J) (b_X0_putInOrder_74 F_X0_spell J)
set_option maxRecDepth 100000 in
theorem s_X0_putInOrder_11 {l : Launch} {D : va_G} {cI cS cM : ClassId} {F_X0_spell : KF} (h_X0_spell : k_snd l D cI cS cM yX0_spell cX0_spell 6 none 1 4 F_X0_spell) {J : List KC} (hJ : ∀ (i pc d : Nat), ([(4, 0)] : List (Nat × Nat))[i]? = some (pc, d) → KS l D cI cS cM yX0_putInOrder.cls yX0_putInOrder.name cX0_putInOrder 3 none (k_rm 2 0 0) false pc d (k_jmp J i)) : KS l D cI cS cM yX0_putInOrder.cls yX0_putInOrder.name cX0_putInOrder 3 none (k_rm 2 0 0) false 11 0 (b_X0_putInOrder_11 F_X0_spell J) :=
  s_iload_n dX0_putInOrder_11 rfl <|
  s_aload_n dX0_putInOrder_12 rfl <|
  s_get dX0_putInOrder_13 (ci := 0) (sl := 0) (Cn := RX0) (Tf := TX0) (N := 9) rfl (by decide) kiX0 kw_5_4 <|
  s_icmp_ge dX0_putInOrder_16 (by decide) (s_X0_putInOrder_74 h_X0_spell hJ) (s_X0_putInOrder_19 h_X0_spell hJ)
noncomputable def b_X0_putInOrder_4 (F_X0_spell : KF) (J : List KC) : KC := o_iload 2 <| o_push 625 <| o_c2 s_lt (b_X0_putInOrder_11 F_X0_spell J) (b_X0_putInOrder_74 F_X0_spell J)
set_option maxRecDepth 100000 in
theorem s_X0_putInOrder_4 {l : Launch} {D : va_G} {cI cS cM : ClassId} {F_X0_spell : KF} (h_X0_spell : k_snd l D cI cS cM yX0_spell cX0_spell 6 none 1 4 F_X0_spell) {J : List KC} (hJ : ∀ (i pc d : Nat), ([(4, 0)] : List (Nat × Nat))[i]? = some (pc, d) → KS l D cI cS cM yX0_putInOrder.cls yX0_putInOrder.name cX0_putInOrder 3 none (k_rm 2 0 0) false pc d (k_jmp J i)) : KS l D cI cS cM yX0_putInOrder.cls yX0_putInOrder.name cX0_putInOrder 3 none (k_rm 2 0 0) false 4 0 (b_X0_putInOrder_4 F_X0_spell J) :=
  s_iload_n dX0_putInOrder_4 rfl <|
  s_push3 dX0_putInOrder_5 (by decide) (by decide) <|
  s_icmp_ge dX0_putInOrder_8 (by decide) (s_X0_putInOrder_74 h_X0_spell hJ) (s_X0_putInOrder_11 h_X0_spell hJ)
noncomputable def b_X0_putInOrder_0 (F_X0_spell : KF) (J : List KC) : KC := o_push 0 <| o_istore 1 <| o_push 0 <| o_istore 2 <| b_X0_putInOrder_4 F_X0_spell J
set_option maxRecDepth 100000 in
theorem s_X0_putInOrder_0 {l : Launch} {D : va_G} {cI cS cM : ClassId} {F_X0_spell : KF} (h_X0_spell : k_snd l D cI cS cM yX0_spell cX0_spell 6 none 1 4 F_X0_spell) {J : List KC} (hJ : ∀ (i pc d : Nat), ([(4, 0)] : List (Nat × Nat))[i]? = some (pc, d) → KS l D cI cS cM yX0_putInOrder.cls yX0_putInOrder.name cX0_putInOrder 3 none (k_rm 2 0 0) false pc d (k_jmp J i)) : KS l D cI cS cM yX0_putInOrder.cls yX0_putInOrder.name cX0_putInOrder 3 none (k_rm 2 0 0) false 0 0 (b_X0_putInOrder_0 F_X0_spell J) :=
  s_push1 dX0_putInOrder_0 (by decide) (by decide) <|
  s_istore_n dX0_putInOrder_1 rfl (by decide) <|
  s_push1 dX0_putInOrder_2 (by decide) (by decide) <|
  s_istore_n dX0_putInOrder_3 rfl (by decide) <|
  s_X0_putInOrder_4 h_X0_spell hJ
noncomputable def j_X0_putInOrder (F_X0_spell : KF) (J : List KC) : List KC := [b_X0_putInOrder_4 F_X0_spell J]
noncomputable def m_X0_putInOrder (F_X0_spell : KF) (n : Nat) : KF := k_fun [k_u, k_u] (b_X0_putInOrder_0 F_X0_spell (k_loop (j_X0_putInOrder F_X0_spell) n))
theorem r_X0_putInOrder {l : Launch} {D : va_G} {cI cS cM : ClassId} {F_X0_spell : KF} (h_X0_spell : k_snd l D cI cS cM yX0_spell cX0_spell 6 none 1 4 F_X0_spell) (n : Nat) : k_snd l D cI cS cM yX0_putInOrder cX0_putInOrder 3 none 2 1 (m_X0_putInOrder F_X0_spell n) :=
  k_method (by decide +kernel) (by simp) rfl (s_X0_putInOrder_0 h_X0_spell (k_loops (hs := [(4, 0)]) (fun J hJ i pc d h => match i, h with | 0, h => by cases h; exact s_X0_putInOrder_4 h_X0_spell hJ | _ + 1, h => by simp at h) n))
noncomputable def b_X0_findInverses_58 (F_X0_placeOfMade : KF) (J : List KC) : KC := o_ret
set_option maxRecDepth 100000 in
theorem s_X0_findInverses_58 {l : Launch} {D : va_G} {cI cS cM : ClassId} {F_X0_placeOfMade : KF} (h_X0_placeOfMade : k_snd l D cI cS cM yX0_placeOfMade cX0_placeOfMade 2 (some .int) 2 1 F_X0_placeOfMade) {J : List KC} (hJ : ∀ (i pc d : Nat), ([(2, 0), (12, 0)] : List (Nat × Nat))[i]? = some (pc, d) → KS l D cI cS cM yX0_findInverses.cls yX0_findInverses.name cX0_findInverses 3 none (k_rm 3 0 0) false pc d (k_jmp J i)) : KS l D cI cS cM yX0_findInverses.cls yX0_findInverses.name cX0_findInverses 3 none (k_rm 3 0 0) false 58 0 (b_X0_findInverses_58 F_X0_placeOfMade J) :=
  s_return dX0_findInverses_58 rfl
noncomputable def b_X0_findInverses_42 (F_X0_placeOfMade : KF) (J : List KC) : KC := o_aload 0 <| o_get 0 2 <| o_iload 1 <| o_aload 0 <| o_cV1 1 0 F_X0_placeOfMade <| o_iast <| o_iinc 1 1 <| k_jmp J 0
set_option maxRecDepth 100000 in
theorem s_X0_findInverses_42 {l : Launch} {D : va_G} {cI cS cM : ClassId} {F_X0_placeOfMade : KF} (h_X0_placeOfMade : k_snd l D cI cS cM yX0_placeOfMade cX0_placeOfMade 2 (some .int) 2 1 F_X0_placeOfMade) {J : List KC} (hJ : ∀ (i pc d : Nat), ([(2, 0), (12, 0)] : List (Nat × Nat))[i]? = some (pc, d) → KS l D cI cS cM yX0_findInverses.cls yX0_findInverses.name cX0_findInverses 3 none (k_rm 3 0 0) false pc d (k_jmp J i)) : KS l D cI cS cM yX0_findInverses.cls yX0_findInverses.name cX0_findInverses 3 none (k_rm 3 0 0) false 42 0 (b_X0_findInverses_42 F_X0_placeOfMade J) :=
  s_aload_n dX0_findInverses_42 rfl <|
  s_get dX0_findInverses_43 (ci := 0) (sl := 2) (Cn := RX0) (Tf := TX0) (N := 9) rfl (by decide) kiX0 kw_5_6 <|
  s_iload_n dX0_findInverses_46 rfl <|
  s_aload_n dX0_findInverses_47 rfl <|
  s_callV1 dX0_findInverses_48 kw_14_10 kw_14_11 kw_14_12 (ci := 0) rfl ok_X0_placeOfMade (by decide) (by decide) h_X0_placeOfMade (by decide) <|
  s_iast dX0_findInverses_51 <|
  s_iinc dX0_findInverses_52 (by decide) (by decide) <|
  s_goto dX0_findInverses_55 (by decide) (hJ 0 _ _ rfl)
noncomputable def b_X0_findInverses_20 (F_X0_placeOfMade : KF) (J : List KC) : KC := o_aload 0 <| o_get 0 8 <| o_aload 0 <| o_get 0 4 <| o_iload 1 <| o_push 5 <| o_bin n_mul <| o_iload 2 <| o_bin n_add <| o_iald <| o_iload 2 <| o_iast <| o_iinc 2 1 <| k_jmp J 1
set_option maxRecDepth 100000 in
theorem s_X0_findInverses_20 {l : Launch} {D : va_G} {cI cS cM : ClassId} {F_X0_placeOfMade : KF} (h_X0_placeOfMade : k_snd l D cI cS cM yX0_placeOfMade cX0_placeOfMade 2 (some .int) 2 1 F_X0_placeOfMade) {J : List KC} (hJ : ∀ (i pc d : Nat), ([(2, 0), (12, 0)] : List (Nat × Nat))[i]? = some (pc, d) → KS l D cI cS cM yX0_findInverses.cls yX0_findInverses.name cX0_findInverses 3 none (k_rm 3 0 0) false pc d (k_jmp J i)) : KS l D cI cS cM yX0_findInverses.cls yX0_findInverses.name cX0_findInverses 3 none (k_rm 3 0 0) false 20 0 (b_X0_findInverses_20 F_X0_placeOfMade J) :=
  s_aload_n dX0_findInverses_20 rfl <|
  s_get dX0_findInverses_21 (ci := 0) (sl := 8) (Cn := RX0) (Tf := TX0) (N := 9) rfl (by decide) kiX0 kw_5_12 <|
  s_aload_n dX0_findInverses_24 rfl <|
  s_get dX0_findInverses_25 (ci := 0) (sl := 4) (Cn := RX0) (Tf := TX0) (N := 9) rfl (by decide) kiX0 kw_5_8 <|
  s_iload_n dX0_findInverses_28 rfl <|
  s_push1 dX0_findInverses_29 (by decide) (by decide) <|
  s_imul dX0_findInverses_30 <|
  s_iload_n dX0_findInverses_31 rfl <|
  s_iadd dX0_findInverses_32 <|
  s_iald dX0_findInverses_33 <|
  s_iload_n dX0_findInverses_34 rfl <|
  s_iast dX0_findInverses_35 <|
  s_iinc dX0_findInverses_36 (by decide) (by decide) <|
  s_goto dX0_findInverses_39 (by decide) (hJ 1 _ _ rfl)
noncomputable def b_X0_findInverses_12 (F_X0_placeOfMade : KF) (J : List KC) : KC := o_iload 2 <| o_aload 0 <| o_get 0 3 <| o_c2 s_lt (b_X0_findInverses_20 F_X0_placeOfMade J) (b_X0_findInverses_42 F_X0_placeOfMade J)
set_option maxRecDepth 100000 in
theorem s_X0_findInverses_12 {l : Launch} {D : va_G} {cI cS cM : ClassId} {F_X0_placeOfMade : KF} (h_X0_placeOfMade : k_snd l D cI cS cM yX0_placeOfMade cX0_placeOfMade 2 (some .int) 2 1 F_X0_placeOfMade) {J : List KC} (hJ : ∀ (i pc d : Nat), ([(2, 0), (12, 0)] : List (Nat × Nat))[i]? = some (pc, d) → KS l D cI cS cM yX0_findInverses.cls yX0_findInverses.name cX0_findInverses 3 none (k_rm 3 0 0) false pc d (k_jmp J i)) : KS l D cI cS cM yX0_findInverses.cls yX0_findInverses.name cX0_findInverses 3 none (k_rm 3 0 0) false 12 0 (b_X0_findInverses_12 F_X0_placeOfMade J) :=
  s_iload_n dX0_findInverses_12 rfl <|
  s_aload_n dX0_findInverses_13 rfl <|
  s_get dX0_findInverses_14 (ci := 0) (sl := 3) (Cn := RX0) (Tf := TX0) (N := 9) rfl (by decide) kiX0 kw_5_7 <|
  s_icmp_ge dX0_findInverses_17 (by decide) (s_X0_findInverses_42 h_X0_placeOfMade hJ) (s_X0_findInverses_20 h_X0_placeOfMade hJ)
noncomputable def b_X0_findInverses_10 (F_X0_placeOfMade : KF) (J : List KC) : KC := o_push 0 <| o_istore 2 <| b_X0_findInverses_12 F_X0_placeOfMade J
set_option maxRecDepth 100000 in
theorem s_X0_findInverses_10 {l : Launch} {D : va_G} {cI cS cM : ClassId} {F_X0_placeOfMade : KF} (h_X0_placeOfMade : k_snd l D cI cS cM yX0_placeOfMade cX0_placeOfMade 2 (some .int) 2 1 F_X0_placeOfMade) {J : List KC} (hJ : ∀ (i pc d : Nat), ([(2, 0), (12, 0)] : List (Nat × Nat))[i]? = some (pc, d) → KS l D cI cS cM yX0_findInverses.cls yX0_findInverses.name cX0_findInverses 3 none (k_rm 3 0 0) false pc d (k_jmp J i)) : KS l D cI cS cM yX0_findInverses.cls yX0_findInverses.name cX0_findInverses 3 none (k_rm 3 0 0) false 10 0 (b_X0_findInverses_10 F_X0_placeOfMade J) :=
  s_push1 dX0_findInverses_10 (by decide) (by decide) <|
  s_istore_n dX0_findInverses_11 rfl (by decide) <|
  s_X0_findInverses_12 h_X0_placeOfMade hJ
noncomputable def b_X0_findInverses_2 (F_X0_placeOfMade : KF) (J : List KC) : KC := o_iload 1 <| o_aload 0 <| o_get 0 0 <| o_c2 s_lt (b_X0_findInverses_10 F_X0_placeOfMade J) (b_X0_findInverses_58 F_X0_placeOfMade J)
set_option maxRecDepth 100000 in
theorem s_X0_findInverses_2 {l : Launch} {D : va_G} {cI cS cM : ClassId} {F_X0_placeOfMade : KF} (h_X0_placeOfMade : k_snd l D cI cS cM yX0_placeOfMade cX0_placeOfMade 2 (some .int) 2 1 F_X0_placeOfMade) {J : List KC} (hJ : ∀ (i pc d : Nat), ([(2, 0), (12, 0)] : List (Nat × Nat))[i]? = some (pc, d) → KS l D cI cS cM yX0_findInverses.cls yX0_findInverses.name cX0_findInverses 3 none (k_rm 3 0 0) false pc d (k_jmp J i)) : KS l D cI cS cM yX0_findInverses.cls yX0_findInverses.name cX0_findInverses 3 none (k_rm 3 0 0) false 2 0 (b_X0_findInverses_2 F_X0_placeOfMade J) :=
  s_iload_n dX0_findInverses_2 rfl <|
  s_aload_n dX0_findInverses_3 rfl <|
  s_get dX0_findInverses_4 (ci := 0) (sl := 0) (Cn := RX0) (Tf := TX0) (N := 9) rfl (by decide) kiX0 kw_5_4 <|
  s_icmp_ge dX0_findInverses_7 (by decide) (s_X0_findInverses_58 h_X0_placeOfMade hJ) (s_X0_findInverses_10 h_X0_placeOfMade hJ)
noncomputable def b_X0_findInverses_0 (F_X0_placeOfMade : KF) (J : List KC) : KC := o_push 0 <| o_istore 1 <| b_X0_findInverses_2 F_X0_placeOfMade J
set_option maxRecDepth 100000 in
theorem s_X0_findInverses_0 {l : Launch} {D : va_G} {cI cS cM : ClassId} {F_X0_placeOfMade : KF} (h_X0_placeOfMade : k_snd l D cI cS cM yX0_placeOfMade cX0_placeOfMade 2 (some .int) 2 1 F_X0_placeOfMade) {J : List KC} (hJ : ∀ (i pc d : Nat), ([(2, 0), (12, 0)] : List (Nat × Nat))[i]? = some (pc, d) → KS l D cI cS cM yX0_findInverses.cls yX0_findInverses.name cX0_findInverses 3 none (k_rm 3 0 0) false pc d (k_jmp J i)) : KS l D cI cS cM yX0_findInverses.cls yX0_findInverses.name cX0_findInverses 3 none (k_rm 3 0 0) false 0 0 (b_X0_findInverses_0 F_X0_placeOfMade J) :=
  s_push1 dX0_findInverses_0 (by decide) (by decide) <|
  s_istore_n dX0_findInverses_1 rfl (by decide) <|
  s_X0_findInverses_2 h_X0_placeOfMade hJ
noncomputable def j_X0_findInverses (F_X0_placeOfMade : KF) (J : List KC) : List KC := [b_X0_findInverses_2 F_X0_placeOfMade J, b_X0_findInverses_12 F_X0_placeOfMade J]
noncomputable def m_X0_findInverses (F_X0_placeOfMade : KF) (n : Nat) : KF := k_fun [k_u, k_u] (b_X0_findInverses_0 F_X0_placeOfMade (k_loop (j_X0_findInverses F_X0_placeOfMade) n))
theorem r_X0_findInverses {l : Launch} {D : va_G} {cI cS cM : ClassId} {F_X0_placeOfMade : KF} (h_X0_placeOfMade : k_snd l D cI cS cM yX0_placeOfMade cX0_placeOfMade 2 (some .int) 2 1 F_X0_placeOfMade) (n : Nat) : k_snd l D cI cS cM yX0_findInverses cX0_findInverses 3 none 3 1 (m_X0_findInverses F_X0_placeOfMade n) :=
  k_method (by decide +kernel) (by simp) rfl (s_X0_findInverses_0 h_X0_placeOfMade (k_loops (hs := [(2, 0), (12, 0)]) (fun J hJ i pc d h => match i, h with | 0, h => by cases h; exact s_X0_findInverses_2 h_X0_placeOfMade hJ | 1, h => by cases h; exact s_X0_findInverses_12 h_X0_placeOfMade hJ | _ + 2, h => by simp at h) n))
noncomputable def b_X0_makeAll_124 (F_J7_fill_53178 F_X0_addMade : KF) (J : List KC) : KC := o_ret
set_option maxRecDepth 100000 in
theorem s_X0_makeAll_124 {l : Launch} {D : va_G} {cI cS cM : ClassId} {F_J7_fill_53178 F_X0_addMade : KF} (h_J7_fill_53178 : k_snd l D cI cS cM yJ7_fill_53178 cJ7_fill_53178 4 none 1 2 F_J7_fill_53178) (h_X0_addMade : k_snd l D cI cS cM yX0_addMade cX0_addMade 4 none 2 1 F_X0_addMade) {J : List KC} (hJ : ∀ (i pc d : Nat), ([(15, 0), (42, 0), (58, 0), (66, 0)] : List (Nat × Nat))[i]? = some (pc, d) → KS l D cI cS cM yX0_makeAll.cls yX0_makeAll.name cX0_makeAll 5 none (k_rm 3 0 0) false pc d (k_jmp J i)) : KS l D cI cS cM yX0_makeAll.cls yX0_makeAll.name cX0_makeAll 5 none (k_rm 3 0 0) false 124 0 (b_X0_makeAll_124 F_J7_fill_53178 F_X0_addMade J) :=
  s_return dX0_makeAll_124 rfl
noncomputable def b_X0_makeAll_118 (F_J7_fill_53178 F_X0_addMade : KF) (J : List KC) : KC := o_iinc 2 1 <| k_jmp J 1
set_option maxRecDepth 100000 in
theorem s_X0_makeAll_118 {l : Launch} {D : va_G} {cI cS cM : ClassId} {F_J7_fill_53178 F_X0_addMade : KF} (h_J7_fill_53178 : k_snd l D cI cS cM yJ7_fill_53178 cJ7_fill_53178 4 none 1 2 F_J7_fill_53178) (h_X0_addMade : k_snd l D cI cS cM yX0_addMade cX0_addMade 4 none 2 1 F_X0_addMade) {J : List KC} (hJ : ∀ (i pc d : Nat), ([(15, 0), (42, 0), (58, 0), (66, 0)] : List (Nat × Nat))[i]? = some (pc, d) → KS l D cI cS cM yX0_makeAll.cls yX0_makeAll.name cX0_makeAll 5 none (k_rm 3 0 0) false pc d (k_jmp J i)) : KS l D cI cS cM yX0_makeAll.cls yX0_makeAll.name cX0_makeAll 5 none (k_rm 3 0 0) false 118 0 (b_X0_makeAll_118 F_J7_fill_53178 F_X0_addMade J) :=
  s_iinc dX0_makeAll_118 (by decide) (by decide) <|
  s_goto dX0_makeAll_121 (by decide) (hJ 1 _ _ rfl)
noncomputable def b_X0_makeAll_108 (F_J7_fill_53178 F_X0_addMade : KF) (J : List KC) : KC := o_aload 0 <| o_cV0 1 0 F_X0_addMade <| o_iinc 3 1 <| k_jmp J 2
set_option maxRecDepth 100000 in
theorem s_X0_makeAll_108 {l : Launch} {D : va_G} {cI cS cM : ClassId} {F_J7_fill_53178 F_X0_addMade : KF} (h_J7_fill_53178 : k_snd l D cI cS cM yJ7_fill_53178 cJ7_fill_53178 4 none 1 2 F_J7_fill_53178) (h_X0_addMade : k_snd l D cI cS cM yX0_addMade cX0_addMade 4 none 2 1 F_X0_addMade) {J : List KC} (hJ : ∀ (i pc d : Nat), ([(15, 0), (42, 0), (58, 0), (66, 0)] : List (Nat × Nat))[i]? = some (pc, d) → KS l D cI cS cM yX0_makeAll.cls yX0_makeAll.name cX0_makeAll 5 none (k_rm 3 0 0) false pc d (k_jmp J i)) : KS l D cI cS cM yX0_makeAll.cls yX0_makeAll.name cX0_makeAll 5 none (k_rm 3 0 0) false 108 0 (b_X0_makeAll_108 F_J7_fill_53178 F_X0_addMade J) :=
  s_aload_n dX0_makeAll_108 rfl <|
  s_callV0 dX0_makeAll_109 kw_13_18 kw_13_19 kw_13_20 (ci := 0) rfl ok_X0_addMade (by decide) (by decide) h_X0_addMade (by decide) <|
  s_iinc dX0_makeAll_112 (by decide) (by decide) <|
  s_goto dX0_makeAll_115 (by decide) (hJ 2 _ _ rfl)
noncomputable def b_X0_makeAll_75 (F_J7_fill_53178 F_X0_addMade : KF) (J : List KC) : KC := o_aload 0 <| o_get 0 8 <| o_iload 4 <| o_aload 0 <| o_get 0 5 <| o_iload 3 <| o_push 5 <| o_bin n_mul <| o_aload 0 <| o_get 0 4 <| o_iload 2 <| o_push 5 <| o_bin n_mul <| o_iload 4 <| o_bin n_add <| o_iald <| o_bin n_add <| o_iald <| o_iast <| o_iinc 4 1 <| k_jmp J 3
set_option maxRecDepth 100000 in
theorem s_X0_makeAll_75 {l : Launch} {D : va_G} {cI cS cM : ClassId} {F_J7_fill_53178 F_X0_addMade : KF} (h_J7_fill_53178 : k_snd l D cI cS cM yJ7_fill_53178 cJ7_fill_53178 4 none 1 2 F_J7_fill_53178) (h_X0_addMade : k_snd l D cI cS cM yX0_addMade cX0_addMade 4 none 2 1 F_X0_addMade) {J : List KC} (hJ : ∀ (i pc d : Nat), ([(15, 0), (42, 0), (58, 0), (66, 0)] : List (Nat × Nat))[i]? = some (pc, d) → KS l D cI cS cM yX0_makeAll.cls yX0_makeAll.name cX0_makeAll 5 none (k_rm 3 0 0) false pc d (k_jmp J i)) : KS l D cI cS cM yX0_makeAll.cls yX0_makeAll.name cX0_makeAll 5 none (k_rm 3 0 0) false 75 0 (b_X0_makeAll_75 F_J7_fill_53178 F_X0_addMade J) :=
  s_aload_n dX0_makeAll_75 rfl <|
  s_get dX0_makeAll_76 (ci := 0) (sl := 8) (Cn := RX0) (Tf := TX0) (N := 9) rfl (by decide) kiX0 kw_5_12 <|
  s_iload dX0_makeAll_79 <|
  s_aload_n dX0_makeAll_81 rfl <|
  s_get dX0_makeAll_82 (ci := 0) (sl := 5) (Cn := RX0) (Tf := TX0) (N := 9) rfl (by decide) kiX0 kw_5_9 <|
  s_iload_n dX0_makeAll_85 rfl <|
  s_push1 dX0_makeAll_86 (by decide) (by decide) <|
  s_imul dX0_makeAll_87 <|
  s_aload_n dX0_makeAll_88 rfl <|
  s_get dX0_makeAll_89 (ci := 0) (sl := 4) (Cn := RX0) (Tf := TX0) (N := 9) rfl (by decide) kiX0 kw_5_8 <|
  s_iload_n dX0_makeAll_92 rfl <|
  s_push1 dX0_makeAll_93 (by decide) (by decide) <|
  s_imul dX0_makeAll_94 <|
  s_iload dX0_makeAll_95 <|
  s_iadd dX0_makeAll_97 <|
  s_iald dX0_makeAll_98 <|
  s_iadd dX0_makeAll_99 <|
  s_iald dX0_makeAll_100 <|
  s_iast dX0_makeAll_101 <|
  s_iinc dX0_makeAll_102 (by decide) (by decide) <|
  s_goto dX0_makeAll_105 (by decide) (hJ 3 _ _ rfl)
noncomputable def b_X0_makeAll_66 (F_J7_fill_53178 F_X0_addMade : KF) (J : List KC) : KC := o_iload 4 <| o_aload 0 <| o_get 0 3 <| o_c2 s_lt (b_X0_makeAll_75 F_J7_fill_53178 F_X0_addMade J) (b_X0_makeAll_108 F_J7_fill_53178 F_X0_addMade J)
set_option maxRecDepth 100000 in
theorem s_X0_makeAll_66 {l : Launch} {D : va_G} {cI cS cM : ClassId} {F_J7_fill_53178 F_X0_addMade : KF} (h_J7_fill_53178 : k_snd l D cI cS cM yJ7_fill_53178 cJ7_fill_53178 4 none 1 2 F_J7_fill_53178) (h_X0_addMade : k_snd l D cI cS cM yX0_addMade cX0_addMade 4 none 2 1 F_X0_addMade) {J : List KC} (hJ : ∀ (i pc d : Nat), ([(15, 0), (42, 0), (58, 0), (66, 0)] : List (Nat × Nat))[i]? = some (pc, d) → KS l D cI cS cM yX0_makeAll.cls yX0_makeAll.name cX0_makeAll 5 none (k_rm 3 0 0) false pc d (k_jmp J i)) : KS l D cI cS cM yX0_makeAll.cls yX0_makeAll.name cX0_makeAll 5 none (k_rm 3 0 0) false 66 0 (b_X0_makeAll_66 F_J7_fill_53178 F_X0_addMade J) :=
  s_iload dX0_makeAll_66 <|
  s_aload_n dX0_makeAll_68 rfl <|
  s_get dX0_makeAll_69 (ci := 0) (sl := 3) (Cn := RX0) (Tf := TX0) (N := 9) rfl (by decide) kiX0 kw_5_7 <|
  s_icmp_ge dX0_makeAll_72 (by decide) (s_X0_makeAll_108 h_J7_fill_53178 h_X0_addMade hJ) (s_X0_makeAll_75 h_J7_fill_53178 h_X0_addMade hJ)
noncomputable def b_X0_makeAll_63 (F_J7_fill_53178 F_X0_addMade : KF) (J : List KC) : KC := o_push 0 <| o_istore 4 <| b_X0_makeAll_66 F_J7_fill_53178 F_X0_addMade J
set_option maxRecDepth 100000 in
theorem s_X0_makeAll_63 {l : Launch} {D : va_G} {cI cS cM : ClassId} {F_J7_fill_53178 F_X0_addMade : KF} (h_J7_fill_53178 : k_snd l D cI cS cM yJ7_fill_53178 cJ7_fill_53178 4 none 1 2 F_J7_fill_53178) (h_X0_addMade : k_snd l D cI cS cM yX0_addMade cX0_addMade 4 none 2 1 F_X0_addMade) {J : List KC} (hJ : ∀ (i pc d : Nat), ([(15, 0), (42, 0), (58, 0), (66, 0)] : List (Nat × Nat))[i]? = some (pc, d) → KS l D cI cS cM yX0_makeAll.cls yX0_makeAll.name cX0_makeAll 5 none (k_rm 3 0 0) false pc d (k_jmp J i)) : KS l D cI cS cM yX0_makeAll.cls yX0_makeAll.name cX0_makeAll 5 none (k_rm 3 0 0) false 63 0 (b_X0_makeAll_63 F_J7_fill_53178 F_X0_addMade J) :=
  s_push1 dX0_makeAll_63 (by decide) (by decide) <|
  s_istore dX0_makeAll_64 (by decide) <|
  s_X0_makeAll_66 h_J7_fill_53178 h_X0_addMade hJ
noncomputable def b_X0_makeAll_58 (F_J7_fill_53178 F_X0_addMade : KF) (J : List KC) : KC := o_iload 3 <| o_iload 1 <| o_c2 s_lt (b_X0_makeAll_63 F_J7_fill_53178 F_X0_addMade J) (b_X0_makeAll_118 F_J7_fill_53178 F_X0_addMade J)
set_option maxRecDepth 100000 in
theorem s_X0_makeAll_58 {l : Launch} {D : va_G} {cI cS cM : ClassId} {F_J7_fill_53178 F_X0_addMade : KF} (h_J7_fill_53178 : k_snd l D cI cS cM yJ7_fill_53178 cJ7_fill_53178 4 none 1 2 F_J7_fill_53178) (h_X0_addMade : k_snd l D cI cS cM yX0_addMade cX0_addMade 4 none 2 1 F_X0_addMade) {J : List KC} (hJ : ∀ (i pc d : Nat), ([(15, 0), (42, 0), (58, 0), (66, 0)] : List (Nat × Nat))[i]? = some (pc, d) → KS l D cI cS cM yX0_makeAll.cls yX0_makeAll.name cX0_makeAll 5 none (k_rm 3 0 0) false pc d (k_jmp J i)) : KS l D cI cS cM yX0_makeAll.cls yX0_makeAll.name cX0_makeAll 5 none (k_rm 3 0 0) false 58 0 (b_X0_makeAll_58 F_J7_fill_53178 F_X0_addMade J) :=
  s_iload_n dX0_makeAll_58 rfl <|
  s_iload_n dX0_makeAll_59 rfl <|
  s_icmp_ge dX0_makeAll_60 (by decide) (s_X0_makeAll_118 h_J7_fill_53178 h_X0_addMade hJ) (s_X0_makeAll_63 h_J7_fill_53178 h_X0_addMade hJ)
noncomputable def b_X0_makeAll_56 (F_J7_fill_53178 F_X0_addMade : KF) (J : List KC) : KC := o_push 0 <| o_istore 3 <| b_X0_makeAll_58 F_J7_fill_53178 F_X0_addMade J
set_option maxRecDepth 100000 in
theorem s_X0_makeAll_56 {l : Launch} {D : va_G} {cI cS cM : ClassId} {F_J7_fill_53178 F_X0_addMade : KF} (h_J7_fill_53178 : k_snd l D cI cS cM yJ7_fill_53178 cJ7_fill_53178 4 none 1 2 F_J7_fill_53178) (h_X0_addMade : k_snd l D cI cS cM yX0_addMade cX0_addMade 4 none 2 1 F_X0_addMade) {J : List KC} (hJ : ∀ (i pc d : Nat), ([(15, 0), (42, 0), (58, 0), (66, 0)] : List (Nat × Nat))[i]? = some (pc, d) → KS l D cI cS cM yX0_makeAll.cls yX0_makeAll.name cX0_makeAll 5 none (k_rm 3 0 0) false pc d (k_jmp J i)) : KS l D cI cS cM yX0_makeAll.cls yX0_makeAll.name cX0_makeAll 5 none (k_rm 3 0 0) false 56 0 (b_X0_makeAll_56 F_J7_fill_53178 F_X0_addMade J) :=
  s_push1 dX0_makeAll_56 (by decide) (by decide) <|
  s_istore_n dX0_makeAll_57 rfl (by decide) <|
  s_X0_makeAll_58 h_J7_fill_53178 h_X0_addMade hJ
noncomputable def b_X0_makeAll_50 (F_J7_fill_53178 F_X0_addMade : KF) (J : List KC) : KC := o_iload 2 <| o_push 120 <| o_c2 s_lt (b_X0_makeAll_56 F_J7_fill_53178 F_X0_addMade J) (b_X0_makeAll_124 F_J7_fill_53178 F_X0_addMade J)
set_option maxRecDepth 100000 in
theorem s_X0_makeAll_50 {l : Launch} {D : va_G} {cI cS cM : ClassId} {F_J7_fill_53178 F_X0_addMade : KF} (h_J7_fill_53178 : k_snd l D cI cS cM yJ7_fill_53178 cJ7_fill_53178 4 none 1 2 F_J7_fill_53178) (h_X0_addMade : k_snd l D cI cS cM yX0_addMade cX0_addMade 4 none 2 1 F_X0_addMade) {J : List KC} (hJ : ∀ (i pc d : Nat), ([(15, 0), (42, 0), (58, 0), (66, 0)] : List (Nat × Nat))[i]? = some (pc, d) → KS l D cI cS cM yX0_makeAll.cls yX0_makeAll.name cX0_makeAll 5 none (k_rm 3 0 0) false pc d (k_jmp J i)) : KS l D cI cS cM yX0_makeAll.cls yX0_makeAll.name cX0_makeAll 5 none (k_rm 3 0 0) false 50 0 (b_X0_makeAll_50 F_J7_fill_53178 F_X0_addMade J) :=
  s_iload_n dX0_makeAll_50 rfl <|
  s_push2 dX0_makeAll_51 (by decide) (by decide) <|
  s_icmp_ge dX0_makeAll_53 (by decide) (s_X0_makeAll_124 h_J7_fill_53178 h_X0_addMade hJ) (s_X0_makeAll_56 h_J7_fill_53178 h_X0_addMade hJ)
noncomputable def b_X0_makeAll_42 (F_J7_fill_53178 F_X0_addMade : KF) (J : List KC) : KC := o_iload 2 <| o_aload 0 <| o_get 0 0 <| o_c2 s_lt (b_X0_makeAll_50 F_J7_fill_53178 F_X0_addMade J) (b_X0_makeAll_124 F_J7_fill_53178 F_X0_addMade J)
set_option maxRecDepth 100000 in
theorem s_X0_makeAll_42 {l : Launch} {D : va_G} {cI cS cM : ClassId} {F_J7_fill_53178 F_X0_addMade : KF} (h_J7_fill_53178 : k_snd l D cI cS cM yJ7_fill_53178 cJ7_fill_53178 4 none 1 2 F_J7_fill_53178) (h_X0_addMade : k_snd l D cI cS cM yX0_addMade cX0_addMade 4 none 2 1 F_X0_addMade) {J : List KC} (hJ : ∀ (i pc d : Nat), ([(15, 0), (42, 0), (58, 0), (66, 0)] : List (Nat × Nat))[i]? = some (pc, d) → KS l D cI cS cM yX0_makeAll.cls yX0_makeAll.name cX0_makeAll 5 none (k_rm 3 0 0) false pc d (k_jmp J i)) : KS l D cI cS cM yX0_makeAll.cls yX0_makeAll.name cX0_makeAll 5 none (k_rm 3 0 0) false 42 0 (b_X0_makeAll_42 F_J7_fill_53178 F_X0_addMade J) :=
  s_iload_n dX0_makeAll_42 rfl <|
  s_aload_n dX0_makeAll_43 rfl <|
  s_get dX0_makeAll_44 (ci := 0) (sl := 0) (Cn := RX0) (Tf := TX0) (N := 9) rfl (by decide) kiX0 kw_5_4 <|
  s_icmp_ge dX0_makeAll_47 (by decide) (s_X0_makeAll_124 h_J7_fill_53178 h_X0_addMade hJ) (s_X0_makeAll_50 h_J7_fill_53178 h_X0_addMade hJ)
noncomputable def b_X0_makeAll_36 (F_J7_fill_53178 F_X0_addMade : KF) (J : List KC) : KC := o_aload 0 <| o_cV0 1 0 F_X0_addMade <| o_push 0 <| o_istore 2 <| b_X0_makeAll_42 F_J7_fill_53178 F_X0_addMade J
set_option maxRecDepth 100000 in
theorem s_X0_makeAll_36 {l : Launch} {D : va_G} {cI cS cM : ClassId} {F_J7_fill_53178 F_X0_addMade : KF} (h_J7_fill_53178 : k_snd l D cI cS cM yJ7_fill_53178 cJ7_fill_53178 4 none 1 2 F_J7_fill_53178) (h_X0_addMade : k_snd l D cI cS cM yX0_addMade cX0_addMade 4 none 2 1 F_X0_addMade) {J : List KC} (hJ : ∀ (i pc d : Nat), ([(15, 0), (42, 0), (58, 0), (66, 0)] : List (Nat × Nat))[i]? = some (pc, d) → KS l D cI cS cM yX0_makeAll.cls yX0_makeAll.name cX0_makeAll 5 none (k_rm 3 0 0) false pc d (k_jmp J i)) : KS l D cI cS cM yX0_makeAll.cls yX0_makeAll.name cX0_makeAll 5 none (k_rm 3 0 0) false 36 0 (b_X0_makeAll_36 F_J7_fill_53178 F_X0_addMade J) :=
  s_aload_n dX0_makeAll_36 rfl <|
  s_callV0 dX0_makeAll_37 kw_13_18 kw_13_19 kw_13_20 (ci := 0) rfl ok_X0_addMade (by decide) (by decide) h_X0_addMade (by decide) <|
  s_push1 dX0_makeAll_40 (by decide) (by decide) <|
  s_istore_n dX0_makeAll_41 rfl (by decide) <|
  s_X0_makeAll_42 h_J7_fill_53178 h_X0_addMade hJ
noncomputable def b_X0_makeAll_23 (F_J7_fill_53178 F_X0_addMade : KF) (J : List KC) : KC := o_aload 0 <| o_get 0 8 <| o_iload 2 <| o_iload 2 <| o_iast <| o_iinc 2 1 <| k_jmp J 0
set_option maxRecDepth 100000 in
theorem s_X0_makeAll_23 {l : Launch} {D : va_G} {cI cS cM : ClassId} {F_J7_fill_53178 F_X0_addMade : KF} (h_J7_fill_53178 : k_snd l D cI cS cM yJ7_fill_53178 cJ7_fill_53178 4 none 1 2 F_J7_fill_53178) (h_X0_addMade : k_snd l D cI cS cM yX0_addMade cX0_addMade 4 none 2 1 F_X0_addMade) {J : List KC} (hJ : ∀ (i pc d : Nat), ([(15, 0), (42, 0), (58, 0), (66, 0)] : List (Nat × Nat))[i]? = some (pc, d) → KS l D cI cS cM yX0_makeAll.cls yX0_makeAll.name cX0_makeAll 5 none (k_rm 3 0 0) false pc d (k_jmp J i)) : KS l D cI cS cM yX0_makeAll.cls yX0_makeAll.name cX0_makeAll 5 none (k_rm 3 0 0) false 23 0 (b_X0_makeAll_23 F_J7_fill_53178 F_X0_addMade J) :=
  s_aload_n dX0_makeAll_23 rfl <|
  s_get dX0_makeAll_24 (ci := 0) (sl := 8) (Cn := RX0) (Tf := TX0) (N := 9) rfl (by decide) kiX0 kw_5_12 <|
  s_iload_n dX0_makeAll_27 rfl <|
  s_iload_n dX0_makeAll_28 rfl <|
  s_iast dX0_makeAll_29 <|
  s_iinc dX0_makeAll_30 (by decide) (by decide) <|
  s_goto dX0_makeAll_33 (by decide) (hJ 0 _ _ rfl)
noncomputable def b_X0_makeAll_15 (F_J7_fill_53178 F_X0_addMade : KF) (J : List KC) : KC := o_iload 2 <| o_aload 0 <| o_get 0 3 <| o_c2 s_lt (b_X0_makeAll_23 F_J7_fill_53178 F_X0_addMade J) (b_X0_makeAll_36 F_J7_fill_53178 F_X0_addMade J)
set_option maxRecDepth 100000 in
theorem s_X0_makeAll_15 {l : Launch} {D : va_G} {cI cS cM : ClassId} {F_J7_fill_53178 F_X0_addMade : KF} (h_J7_fill_53178 : k_snd l D cI cS cM yJ7_fill_53178 cJ7_fill_53178 4 none 1 2 F_J7_fill_53178) (h_X0_addMade : k_snd l D cI cS cM yX0_addMade cX0_addMade 4 none 2 1 F_X0_addMade) {J : List KC} (hJ : ∀ (i pc d : Nat), ([(15, 0), (42, 0), (58, 0), (66, 0)] : List (Nat × Nat))[i]? = some (pc, d) → KS l D cI cS cM yX0_makeAll.cls yX0_makeAll.name cX0_makeAll 5 none (k_rm 3 0 0) false pc d (k_jmp J i)) : KS l D cI cS cM yX0_makeAll.cls yX0_makeAll.name cX0_makeAll 5 none (k_rm 3 0 0) false 15 0 (b_X0_makeAll_15 F_J7_fill_53178 F_X0_addMade J) :=
  s_iload_n dX0_makeAll_15 rfl <|
  s_aload_n dX0_makeAll_16 rfl <|
  s_get dX0_makeAll_17 (ci := 0) (sl := 3) (Cn := RX0) (Tf := TX0) (N := 9) rfl (by decide) kiX0 kw_5_7 <|
  s_icmp_ge dX0_makeAll_20 (by decide) (s_X0_makeAll_36 h_J7_fill_53178 h_X0_addMade hJ) (s_X0_makeAll_23 h_J7_fill_53178 h_X0_addMade hJ)
noncomputable def b_X0_makeAll_0 (F_J7_fill_53178 F_X0_addMade : KF) (J : List KC) : KC := o_aload 0 <| o_get 0 6 <| o_push 4294967295 <| o_cS0 2 F_J7_fill_53178 <| o_aload 0 <| o_push 0 <| o_puti 0 0 <| o_push 0 <| o_istore 2 <| b_X0_makeAll_15 F_J7_fill_53178 F_X0_addMade J
set_option maxRecDepth 100000 in
theorem s_X0_makeAll_0 {l : Launch} {D : va_G} {cI cS cM : ClassId} {F_J7_fill_53178 F_X0_addMade : KF} (h_J7_fill_53178 : k_snd l D cI cS cM yJ7_fill_53178 cJ7_fill_53178 4 none 1 2 F_J7_fill_53178) (h_X0_addMade : k_snd l D cI cS cM yX0_addMade cX0_addMade 4 none 2 1 F_X0_addMade) {J : List KC} (hJ : ∀ (i pc d : Nat), ([(15, 0), (42, 0), (58, 0), (66, 0)] : List (Nat × Nat))[i]? = some (pc, d) → KS l D cI cS cM yX0_makeAll.cls yX0_makeAll.name cX0_makeAll 5 none (k_rm 3 0 0) false pc d (k_jmp J i)) : KS l D cI cS cM yX0_makeAll.cls yX0_makeAll.name cX0_makeAll 5 none (k_rm 3 0 0) false 0 0 (b_X0_makeAll_0 F_J7_fill_53178 F_X0_addMade J) :=
  s_aload_n dX0_makeAll_0 rfl <|
  s_get dX0_makeAll_1 (ci := 0) (sl := 6) (Cn := RX0) (Tf := TX0) (N := 9) rfl (by decide) kiX0 kw_5_10 <|
  s_push1 dX0_makeAll_4 (by decide) (by decide) <|
  s_callS0 dX0_makeAll_5 kw_13_14 kw_13_15 ok_J7_fill_53178 (by decide) (by decide) h_J7_fill_53178 (by decide) <|
  s_aload_n dX0_makeAll_8 rfl <|
  s_push1 dX0_makeAll_9 (by decide) (by decide) <|
  s_puti dX0_makeAll_10 (ci := 0) (sl := 0) (Cn := RX0) (Tf := TX0) (N := 9) (tyf := tyX0) rfl (by decide) kiX0 tyX0_ok nmX0 kw_5_4 rfl rfl <|
  s_push1 dX0_makeAll_13 (by decide) (by decide) <|
  s_istore_n dX0_makeAll_14 rfl (by decide) <|
  s_X0_makeAll_15 h_J7_fill_53178 h_X0_addMade hJ
noncomputable def j_X0_makeAll (F_J7_fill_53178 F_X0_addMade : KF) (J : List KC) : List KC := [b_X0_makeAll_15 F_J7_fill_53178 F_X0_addMade J, b_X0_makeAll_42 F_J7_fill_53178 F_X0_addMade J, b_X0_makeAll_58 F_J7_fill_53178 F_X0_addMade J, b_X0_makeAll_66 F_J7_fill_53178 F_X0_addMade J]
noncomputable def m_X0_makeAll (F_J7_fill_53178 F_X0_addMade : KF) (n : Nat) : KF := k_fun [k_u, k_u, k_u] (b_X0_makeAll_0 F_J7_fill_53178 F_X0_addMade (k_loop (j_X0_makeAll F_J7_fill_53178 F_X0_addMade) n))
theorem r_X0_makeAll {l : Launch} {D : va_G} {cI cS cM : ClassId} {F_J7_fill_53178 F_X0_addMade : KF} (h_J7_fill_53178 : k_snd l D cI cS cM yJ7_fill_53178 cJ7_fill_53178 4 none 1 2 F_J7_fill_53178) (h_X0_addMade : k_snd l D cI cS cM yX0_addMade cX0_addMade 4 none 2 1 F_X0_addMade) (n : Nat) : k_snd l D cI cS cM yX0_makeAll cX0_makeAll 5 none 3 2 (m_X0_makeAll F_J7_fill_53178 F_X0_addMade n) :=
  k_method (by decide +kernel) (by simp) rfl (s_X0_makeAll_0 h_J7_fill_53178 h_X0_addMade (k_loops (hs := [(15, 0), (42, 0), (58, 0), (66, 0)]) (fun J hJ i pc d h => match i, h with | 0, h => by cases h; exact s_X0_makeAll_15 h_J7_fill_53178 h_X0_addMade hJ | 1, h => by cases h; exact s_X0_makeAll_42 h_J7_fill_53178 h_X0_addMade hJ | 2, h => by cases h; exact s_X0_makeAll_58 h_J7_fill_53178 h_X0_addMade hJ | 3, h => by cases h; exact s_X0_makeAll_66 h_J7_fill_53178 h_X0_addMade hJ | _ + 4, h => by simp at h) n))
noncomputable def b_X0_movedBy_65 (F_X0_placeOfMade : KF) (J : List KC) : KC := o_aload 0 <| o_cV1 1 0 F_X0_placeOfMade <| o_iret
set_option maxRecDepth 100000 in
theorem s_X0_movedBy_65 {l : Launch} {D : va_G} {cI cS cM : ClassId} {F_X0_placeOfMade : KF} (h_X0_placeOfMade : k_snd l D cI cS cM yX0_placeOfMade cX0_placeOfMade 2 (some .int) 2 1 F_X0_placeOfMade) {J : List KC} (hJ : ∀ (i pc d : Nat), ([(10, 0)] : List (Nat × Nat))[i]? = some (pc, d) → KS l D cI cS cM yX0_movedBy.cls yX0_movedBy.name cX0_movedBy 6 (some .int) (k_rm 3 0 0) false pc d (k_jmp J i)) : KS l D cI cS cM yX0_movedBy.cls yX0_movedBy.name cX0_movedBy 6 (some .int) (k_rm 3 0 0) false 65 0 (b_X0_movedBy_65 F_X0_placeOfMade J) :=
  s_aload_n dX0_movedBy_65 rfl <|
  s_callV1 dX0_movedBy_66 kw_14_10 kw_14_11 kw_14_12 (ci := 0) rfl ok_X0_placeOfMade (by decide) (by decide) h_X0_placeOfMade (by decide) <|
  s_ireturn dX0_movedBy_69 rfl
noncomputable def b_X0_movedBy_19 (F_X0_placeOfMade : KF) (J : List KC) : KC := o_aload 0 <| o_get 0 4 <| o_iload 2 <| o_push 5 <| o_bin n_mul <| o_aload 0 <| o_get 0 4 <| o_iload 1 <| o_push 5 <| o_bin n_mul <| o_iload 4 <| o_bin n_add <| o_iald <| o_bin n_add <| o_iald <| o_istore 5 <| o_aload 0 <| o_get 0 8 <| o_iload 4 <| o_aload 0 <| o_get 0 4 <| o_iload 3 <| o_push 5 <| o_bin n_mul <| o_iload 5 <| o_bin n_add <| o_iald <| o_iast <| o_iinc 4 1 <| k_jmp J 0
set_option maxRecDepth 100000 in
theorem s_X0_movedBy_19 {l : Launch} {D : va_G} {cI cS cM : ClassId} {F_X0_placeOfMade : KF} (h_X0_placeOfMade : k_snd l D cI cS cM yX0_placeOfMade cX0_placeOfMade 2 (some .int) 2 1 F_X0_placeOfMade) {J : List KC} (hJ : ∀ (i pc d : Nat), ([(10, 0)] : List (Nat × Nat))[i]? = some (pc, d) → KS l D cI cS cM yX0_movedBy.cls yX0_movedBy.name cX0_movedBy 6 (some .int) (k_rm 3 0 0) false pc d (k_jmp J i)) : KS l D cI cS cM yX0_movedBy.cls yX0_movedBy.name cX0_movedBy 6 (some .int) (k_rm 3 0 0) false 19 0 (b_X0_movedBy_19 F_X0_placeOfMade J) :=
  s_aload_n dX0_movedBy_19 rfl <|
  s_get dX0_movedBy_20 (ci := 0) (sl := 4) (Cn := RX0) (Tf := TX0) (N := 9) rfl (by decide) kiX0 kw_5_8 <|
  s_iload_n dX0_movedBy_23 rfl <|
  s_push1 dX0_movedBy_24 (by decide) (by decide) <|
  s_imul dX0_movedBy_25 <|
  s_aload_n dX0_movedBy_26 rfl <|
  s_get dX0_movedBy_27 (ci := 0) (sl := 4) (Cn := RX0) (Tf := TX0) (N := 9) rfl (by decide) kiX0 kw_5_8 <|
  s_iload_n dX0_movedBy_30 rfl <|
  s_push1 dX0_movedBy_31 (by decide) (by decide) <|
  s_imul dX0_movedBy_32 <|
  s_iload dX0_movedBy_33 <|
  s_iadd dX0_movedBy_35 <|
  s_iald dX0_movedBy_36 <|
  s_iadd dX0_movedBy_37 <|
  s_iald dX0_movedBy_38 <|
  s_istore dX0_movedBy_39 (by decide) <|
  s_aload_n dX0_movedBy_41 rfl <|
  s_get dX0_movedBy_42 (ci := 0) (sl := 8) (Cn := RX0) (Tf := TX0) (N := 9) rfl (by decide) kiX0 kw_5_12 <|
  s_iload dX0_movedBy_45 <|
  s_aload_n dX0_movedBy_47 rfl <|
  s_get dX0_movedBy_48 (ci := 0) (sl := 4) (Cn := RX0) (Tf := TX0) (N := 9) rfl (by decide) kiX0 kw_5_8 <|
  s_iload_n dX0_movedBy_51 rfl <|
  s_push1 dX0_movedBy_52 (by decide) (by decide) <|
  s_imul dX0_movedBy_53 <|
  s_iload dX0_movedBy_54 <|
  s_iadd dX0_movedBy_56 <|
  s_iald dX0_movedBy_57 <|
  s_iast dX0_movedBy_58 <|
  s_iinc dX0_movedBy_59 (by decide) (by decide) <|
  s_goto dX0_movedBy_62 (by decide) (hJ 0 _ _ rfl)
noncomputable def b_X0_movedBy_10 (F_X0_placeOfMade : KF) (J : List KC) : KC := o_iload 4 <| o_aload 0 <| o_get 0 3 <| o_c2 s_lt (b_X0_movedBy_19 F_X0_placeOfMade J) (b_X0_movedBy_65 F_X0_placeOfMade J)
set_option maxRecDepth 100000 in
theorem s_X0_movedBy_10 {l : Launch} {D : va_G} {cI cS cM : ClassId} {F_X0_placeOfMade : KF} (h_X0_placeOfMade : k_snd l D cI cS cM yX0_placeOfMade cX0_placeOfMade 2 (some .int) 2 1 F_X0_placeOfMade) {J : List KC} (hJ : ∀ (i pc d : Nat), ([(10, 0)] : List (Nat × Nat))[i]? = some (pc, d) → KS l D cI cS cM yX0_movedBy.cls yX0_movedBy.name cX0_movedBy 6 (some .int) (k_rm 3 0 0) false pc d (k_jmp J i)) : KS l D cI cS cM yX0_movedBy.cls yX0_movedBy.name cX0_movedBy 6 (some .int) (k_rm 3 0 0) false 10 0 (b_X0_movedBy_10 F_X0_placeOfMade J) :=
  s_iload dX0_movedBy_10 <|
  s_aload_n dX0_movedBy_12 rfl <|
  s_get dX0_movedBy_13 (ci := 0) (sl := 3) (Cn := RX0) (Tf := TX0) (N := 9) rfl (by decide) kiX0 kw_5_7 <|
  s_icmp_ge dX0_movedBy_16 (by decide) (s_X0_movedBy_65 h_X0_placeOfMade hJ) (s_X0_movedBy_19 h_X0_placeOfMade hJ)
noncomputable def b_X0_movedBy_0 (F_X0_placeOfMade : KF) (J : List KC) : KC := o_aload 0 <| o_get 0 2 <| o_iload 1 <| o_iald <| o_istore 3 <| o_push 0 <| o_istore 4 <| b_X0_movedBy_10 F_X0_placeOfMade J
set_option maxRecDepth 100000 in
theorem s_X0_movedBy_0 {l : Launch} {D : va_G} {cI cS cM : ClassId} {F_X0_placeOfMade : KF} (h_X0_placeOfMade : k_snd l D cI cS cM yX0_placeOfMade cX0_placeOfMade 2 (some .int) 2 1 F_X0_placeOfMade) {J : List KC} (hJ : ∀ (i pc d : Nat), ([(10, 0)] : List (Nat × Nat))[i]? = some (pc, d) → KS l D cI cS cM yX0_movedBy.cls yX0_movedBy.name cX0_movedBy 6 (some .int) (k_rm 3 0 0) false pc d (k_jmp J i)) : KS l D cI cS cM yX0_movedBy.cls yX0_movedBy.name cX0_movedBy 6 (some .int) (k_rm 3 0 0) false 0 0 (b_X0_movedBy_0 F_X0_placeOfMade J) :=
  s_aload_n dX0_movedBy_0 rfl <|
  s_get dX0_movedBy_1 (ci := 0) (sl := 2) (Cn := RX0) (Tf := TX0) (N := 9) rfl (by decide) kiX0 kw_5_6 <|
  s_iload_n dX0_movedBy_4 rfl <|
  s_iald dX0_movedBy_5 <|
  s_istore_n dX0_movedBy_6 rfl (by decide) <|
  s_push1 dX0_movedBy_7 (by decide) (by decide) <|
  s_istore dX0_movedBy_8 (by decide) <|
  s_X0_movedBy_10 h_X0_placeOfMade hJ
noncomputable def j_X0_movedBy (F_X0_placeOfMade : KF) (J : List KC) : List KC := [b_X0_movedBy_10 F_X0_placeOfMade J]
noncomputable def m_X0_movedBy (F_X0_placeOfMade : KF) (n : Nat) : KF := k_fun [k_u, k_u, k_u] (b_X0_movedBy_0 F_X0_placeOfMade (k_loop (j_X0_movedBy F_X0_placeOfMade) n))
theorem r_X0_movedBy {l : Launch} {D : va_G} {cI cS cM : ClassId} {F_X0_placeOfMade : KF} (h_X0_placeOfMade : k_snd l D cI cS cM yX0_placeOfMade cX0_placeOfMade 2 (some .int) 2 1 F_X0_placeOfMade) (n : Nat) : k_snd l D cI cS cM yX0_movedBy cX0_movedBy 6 (some .int) 3 3 (m_X0_movedBy F_X0_placeOfMade n) :=
  k_method (by decide +kernel) (by simp) rfl (s_X0_movedBy_0 h_X0_placeOfMade (k_loops (hs := [(10, 0)]) (fun J hJ i pc d h => match i, h with | 0, h => by cases h; exact s_X0_movedBy_10 h_X0_placeOfMade hJ | _ + 1, h => by simp at h) n))
noncomputable def b_X0_multiplied_41 (F_X0_placeOfMade : KF) (J : List KC) : KC := o_aload 0 <| o_cV1 1 0 F_X0_placeOfMade <| o_iret
set_option maxRecDepth 100000 in
theorem s_X0_multiplied_41 {l : Launch} {D : va_G} {cI cS cM : ClassId} {F_X0_placeOfMade : KF} (h_X0_placeOfMade : k_snd l D cI cS cM yX0_placeOfMade cX0_placeOfMade 2 (some .int) 2 1 F_X0_placeOfMade) {J : List KC} (hJ : ∀ (i pc d : Nat), ([(2, 0)] : List (Nat × Nat))[i]? = some (pc, d) → KS l D cI cS cM yX0_multiplied.cls yX0_multiplied.name cX0_multiplied 4 (some .int) (k_rm 3 0 0) false pc d (k_jmp J i)) : KS l D cI cS cM yX0_multiplied.cls yX0_multiplied.name cX0_multiplied 4 (some .int) (k_rm 3 0 0) false 41 0 (b_X0_multiplied_41 F_X0_placeOfMade J) :=
  s_aload_n dX0_multiplied_41 rfl <|
  s_callV1 dX0_multiplied_42 kw_14_10 kw_14_11 kw_14_12 (ci := 0) rfl ok_X0_placeOfMade (by decide) (by decide) h_X0_placeOfMade (by decide) <|
  s_ireturn dX0_multiplied_45 rfl
noncomputable def b_X0_multiplied_10 (F_X0_placeOfMade : KF) (J : List KC) : KC := o_aload 0 <| o_get 0 8 <| o_iload 3 <| o_aload 0 <| o_get 0 4 <| o_iload 2 <| o_push 5 <| o_bin n_mul <| o_aload 0 <| o_get 0 4 <| o_iload 1 <| o_push 5 <| o_bin n_mul <| o_iload 3 <| o_bin n_add <| o_iald <| o_bin n_add <| o_iald <| o_iast <| o_iinc 3 1 <| k_jmp J 0
set_option maxRecDepth 100000 in
theorem s_X0_multiplied_10 {l : Launch} {D : va_G} {cI cS cM : ClassId} {F_X0_placeOfMade : KF} (h_X0_placeOfMade : k_snd l D cI cS cM yX0_placeOfMade cX0_placeOfMade 2 (some .int) 2 1 F_X0_placeOfMade) {J : List KC} (hJ : ∀ (i pc d : Nat), ([(2, 0)] : List (Nat × Nat))[i]? = some (pc, d) → KS l D cI cS cM yX0_multiplied.cls yX0_multiplied.name cX0_multiplied 4 (some .int) (k_rm 3 0 0) false pc d (k_jmp J i)) : KS l D cI cS cM yX0_multiplied.cls yX0_multiplied.name cX0_multiplied 4 (some .int) (k_rm 3 0 0) false 10 0 (b_X0_multiplied_10 F_X0_placeOfMade J) :=
  s_aload_n dX0_multiplied_10 rfl <|
  s_get dX0_multiplied_11 (ci := 0) (sl := 8) (Cn := RX0) (Tf := TX0) (N := 9) rfl (by decide) kiX0 kw_5_12 <|
  s_iload_n dX0_multiplied_14 rfl <|
  s_aload_n dX0_multiplied_15 rfl <|
  s_get dX0_multiplied_16 (ci := 0) (sl := 4) (Cn := RX0) (Tf := TX0) (N := 9) rfl (by decide) kiX0 kw_5_8 <|
  s_iload_n dX0_multiplied_19 rfl <|
  s_push1 dX0_multiplied_20 (by decide) (by decide) <|
  s_imul dX0_multiplied_21 <|
  s_aload_n dX0_multiplied_22 rfl <|
  s_get dX0_multiplied_23 (ci := 0) (sl := 4) (Cn := RX0) (Tf := TX0) (N := 9) rfl (by decide) kiX0 kw_5_8 <|
  s_iload_n dX0_multiplied_26 rfl <|
  s_push1 dX0_multiplied_27 (by decide) (by decide) <|
  s_imul dX0_multiplied_28 <|
  s_iload_n dX0_multiplied_29 rfl <|
  s_iadd dX0_multiplied_30 <|
  s_iald dX0_multiplied_31 <|
  s_iadd dX0_multiplied_32 <|
  s_iald dX0_multiplied_33 <|
  s_iast dX0_multiplied_34 <|
  s_iinc dX0_multiplied_35 (by decide) (by decide) <|
  s_goto dX0_multiplied_38 (by decide) (hJ 0 _ _ rfl)
noncomputable def b_X0_multiplied_2 (F_X0_placeOfMade : KF) (J : List KC) : KC := o_iload 3 <| o_aload 0 <| o_get 0 3 <| o_c2 s_lt (b_X0_multiplied_10 F_X0_placeOfMade J) (b_X0_multiplied_41 F_X0_placeOfMade J)
set_option maxRecDepth 100000 in
theorem s_X0_multiplied_2 {l : Launch} {D : va_G} {cI cS cM : ClassId} {F_X0_placeOfMade : KF} (h_X0_placeOfMade : k_snd l D cI cS cM yX0_placeOfMade cX0_placeOfMade 2 (some .int) 2 1 F_X0_placeOfMade) {J : List KC} (hJ : ∀ (i pc d : Nat), ([(2, 0)] : List (Nat × Nat))[i]? = some (pc, d) → KS l D cI cS cM yX0_multiplied.cls yX0_multiplied.name cX0_multiplied 4 (some .int) (k_rm 3 0 0) false pc d (k_jmp J i)) : KS l D cI cS cM yX0_multiplied.cls yX0_multiplied.name cX0_multiplied 4 (some .int) (k_rm 3 0 0) false 2 0 (b_X0_multiplied_2 F_X0_placeOfMade J) :=
  s_iload_n dX0_multiplied_2 rfl <|
  s_aload_n dX0_multiplied_3 rfl <|
  s_get dX0_multiplied_4 (ci := 0) (sl := 3) (Cn := RX0) (Tf := TX0) (N := 9) rfl (by decide) kiX0 kw_5_7 <|
  s_icmp_ge dX0_multiplied_7 (by decide) (s_X0_multiplied_41 h_X0_placeOfMade hJ) (s_X0_multiplied_10 h_X0_placeOfMade hJ)
noncomputable def b_X0_multiplied_0 (F_X0_placeOfMade : KF) (J : List KC) : KC := o_push 0 <| o_istore 3 <| b_X0_multiplied_2 F_X0_placeOfMade J
set_option maxRecDepth 100000 in
theorem s_X0_multiplied_0 {l : Launch} {D : va_G} {cI cS cM : ClassId} {F_X0_placeOfMade : KF} (h_X0_placeOfMade : k_snd l D cI cS cM yX0_placeOfMade cX0_placeOfMade 2 (some .int) 2 1 F_X0_placeOfMade) {J : List KC} (hJ : ∀ (i pc d : Nat), ([(2, 0)] : List (Nat × Nat))[i]? = some (pc, d) → KS l D cI cS cM yX0_multiplied.cls yX0_multiplied.name cX0_multiplied 4 (some .int) (k_rm 3 0 0) false pc d (k_jmp J i)) : KS l D cI cS cM yX0_multiplied.cls yX0_multiplied.name cX0_multiplied 4 (some .int) (k_rm 3 0 0) false 0 0 (b_X0_multiplied_0 F_X0_placeOfMade J) :=
  s_push1 dX0_multiplied_0 (by decide) (by decide) <|
  s_istore_n dX0_multiplied_1 rfl (by decide) <|
  s_X0_multiplied_2 h_X0_placeOfMade hJ
noncomputable def j_X0_multiplied (F_X0_placeOfMade : KF) (J : List KC) : List KC := [b_X0_multiplied_2 F_X0_placeOfMade J]
noncomputable def m_X0_multiplied (F_X0_placeOfMade : KF) (n : Nat) : KF := k_fun [k_u] (b_X0_multiplied_0 F_X0_placeOfMade (k_loop (j_X0_multiplied F_X0_placeOfMade) n))
theorem r_X0_multiplied {l : Launch} {D : va_G} {cI cS cM : ClassId} {F_X0_placeOfMade : KF} (h_X0_placeOfMade : k_snd l D cI cS cM yX0_placeOfMade cX0_placeOfMade 2 (some .int) 2 1 F_X0_placeOfMade) (n : Nat) : k_snd l D cI cS cM yX0_multiplied cX0_multiplied 4 (some .int) 3 3 (m_X0_multiplied F_X0_placeOfMade n) :=
  k_method (by decide +kernel) (by simp) rfl (s_X0_multiplied_0 h_X0_placeOfMade (k_loops (hs := [(2, 0)]) (fun J hJ i pc d h => match i, h with | 0, h => by cases h; exact s_X0_multiplied_2 h_X0_placeOfMade hJ | _ + 1, h => by simp at h) n))
noncomputable def b_X0_build_41 (F_X0_spell F_X0_makeAll F_X0_putInOrder F_X0_findInverses : KF) (J : List KC) : KC := o_aload 0 <| o_aload 1 <| o_get 5 1 <| o_cV0 2 0 F_X0_makeAll <| o_aload 0 <| o_cV0 1 0 F_X0_putInOrder <| o_aload 0 <| o_cV0 1 0 F_X0_findInverses <| o_ret
set_option maxRecDepth 100000 in
theorem s_X0_build_41 {l : Launch} {D : va_G} {cI cS cM : ClassId} {F_X0_spell F_X0_makeAll F_X0_putInOrder F_X0_findInverses : KF} (h_X0_spell : k_snd l D cI cS cM yX0_spell cX0_spell 6 none 1 4 F_X0_spell) (h_X0_makeAll : k_snd l D cI cS cM yX0_makeAll cX0_makeAll 5 none 3 2 F_X0_makeAll) (h_X0_putInOrder : k_snd l D cI cS cM yX0_putInOrder cX0_putInOrder 3 none 2 1 F_X0_putInOrder) (h_X0_findInverses : k_snd l D cI cS cM yX0_findInverses cX0_findInverses 3 none 3 1 F_X0_findInverses) {J : List KC} (hJ : ∀ (i pc d : Nat), ([(10, 0)] : List (Nat × Nat))[i]? = some (pc, d) → KS l D cI cS cM yX0_build.cls yX0_build.name cX0_build 3 none (k_rm 4 0 0) false pc d (k_jmp J i)) : KS l D cI cS cM yX0_build.cls yX0_build.name cX0_build 3 none (k_rm 4 0 0) false 41 0 (b_X0_build_41 F_X0_spell F_X0_makeAll F_X0_putInOrder F_X0_findInverses J) :=
  s_aload_n dX0_build_41 rfl <|
  s_aload_n dX0_build_42 rfl <|
  s_get dX0_build_43 (ci := 5) (sl := 1) (Cn := RX5) (Tf := TX5) (N := 3) rfl (by decide) kiX5 kw_13_4 <|
  s_callV0 dX0_build_46 kw_13_10 kw_13_11 kw_13_12 (ci := 0) rfl ok_X0_makeAll (by decide) (by decide) h_X0_makeAll (by decide) <|
  s_aload_n dX0_build_49 rfl <|
  s_callV0 dX0_build_50 kw_14_2 kw_14_3 kw_14_4 (ci := 0) rfl ok_X0_putInOrder (by decide) (by decide) h_X0_putInOrder (by decide) <|
  s_aload_n dX0_build_53 rfl <|
  s_callV0 dX0_build_54 kw_14_6 kw_14_7 kw_14_8 (ci := 0) rfl ok_X0_findInverses (by decide) (by decide) h_X0_findInverses (by decide) <|
  s_return dX0_build_57 rfl
noncomputable def b_X0_build_18 (F_X0_spell F_X0_makeAll F_X0_putInOrder F_X0_findInverses : KF) (J : List KC) : KC := o_aload 0 <| o_aload 1 <| o_get 5 2 <| o_iload 2 <| o_iald <| o_aload 0 <| o_get 0 5 <| o_iload 2 <| o_push 5 <| o_bin n_mul <| o_cV0 4 0 F_X0_spell <| o_iinc 2 1 <| k_jmp J 0
set_option maxRecDepth 100000 in
theorem s_X0_build_18 {l : Launch} {D : va_G} {cI cS cM : ClassId} {F_X0_spell F_X0_makeAll F_X0_putInOrder F_X0_findInverses : KF} (h_X0_spell : k_snd l D cI cS cM yX0_spell cX0_spell 6 none 1 4 F_X0_spell) (h_X0_makeAll : k_snd l D cI cS cM yX0_makeAll cX0_makeAll 5 none 3 2 F_X0_makeAll) (h_X0_putInOrder : k_snd l D cI cS cM yX0_putInOrder cX0_putInOrder 3 none 2 1 F_X0_putInOrder) (h_X0_findInverses : k_snd l D cI cS cM yX0_findInverses cX0_findInverses 3 none 3 1 F_X0_findInverses) {J : List KC} (hJ : ∀ (i pc d : Nat), ([(10, 0)] : List (Nat × Nat))[i]? = some (pc, d) → KS l D cI cS cM yX0_build.cls yX0_build.name cX0_build 3 none (k_rm 4 0 0) false pc d (k_jmp J i)) : KS l D cI cS cM yX0_build.cls yX0_build.name cX0_build 3 none (k_rm 4 0 0) false 18 0 (b_X0_build_18 F_X0_spell F_X0_makeAll F_X0_putInOrder F_X0_findInverses J) :=
  s_aload_n dX0_build_18 rfl <|
  s_aload_n dX0_build_19 rfl <|
  s_get dX0_build_20 (ci := 5) (sl := 2) (Cn := RX5) (Tf := TX5) (N := 3) rfl (by decide) kiX5 kw_13_5 <|
  s_iload_n dX0_build_23 rfl <|
  s_iald dX0_build_24 <|
  s_aload_n dX0_build_25 rfl <|
  s_get dX0_build_26 (ci := 0) (sl := 5) (Cn := RX0) (Tf := TX0) (N := 9) rfl (by decide) kiX0 kw_5_9 <|
  s_iload_n dX0_build_29 rfl <|
  s_push1 dX0_build_30 (by decide) (by decide) <|
  s_imul dX0_build_31 <|
  s_callV0 dX0_build_32 kw_13_6 kw_13_7 kw_13_8 (ci := 0) rfl ok_X0_spell (by decide) (by decide) h_X0_spell (by decide) <|
  s_iinc dX0_build_35 (by decide) (by decide) <|
  s_goto dX0_build_38 (by decide) (hJ 0 _ _ rfl)
noncomputable def b_X0_build_10 (F_X0_spell F_X0_makeAll F_X0_putInOrder F_X0_findInverses : KF) (J : List KC) : KC := o_iload 2 <| o_aload 1 <| o_get 5 1 <| o_c2 s_lt (b_X0_build_18 F_X0_spell F_X0_makeAll F_X0_putInOrder F_X0_findInverses J) (b_X0_build_41 F_X0_spell F_X0_makeAll F_X0_putInOrder F_X0_findInverses J)
set_option maxRecDepth 100000 in
theorem s_X0_build_10 {l : Launch} {D : va_G} {cI cS cM : ClassId} {F_X0_spell F_X0_makeAll F_X0_putInOrder F_X0_findInverses : KF} (h_X0_spell : k_snd l D cI cS cM yX0_spell cX0_spell 6 none 1 4 F_X0_spell) (h_X0_makeAll : k_snd l D cI cS cM yX0_makeAll cX0_makeAll 5 none 3 2 F_X0_makeAll) (h_X0_putInOrder : k_snd l D cI cS cM yX0_putInOrder cX0_putInOrder 3 none 2 1 F_X0_putInOrder) (h_X0_findInverses : k_snd l D cI cS cM yX0_findInverses cX0_findInverses 3 none 3 1 F_X0_findInverses) {J : List KC} (hJ : ∀ (i pc d : Nat), ([(10, 0)] : List (Nat × Nat))[i]? = some (pc, d) → KS l D cI cS cM yX0_build.cls yX0_build.name cX0_build 3 none (k_rm 4 0 0) false pc d (k_jmp J i)) : KS l D cI cS cM yX0_build.cls yX0_build.name cX0_build 3 none (k_rm 4 0 0) false 10 0 (b_X0_build_10 F_X0_spell F_X0_makeAll F_X0_putInOrder F_X0_findInverses J) :=
  s_iload_n dX0_build_10 rfl <|
  s_aload_n dX0_build_11 rfl <|
  s_get dX0_build_12 (ci := 5) (sl := 1) (Cn := RX5) (Tf := TX5) (N := 3) rfl (by decide) kiX5 kw_13_4 <|
  s_icmp_ge dX0_build_15 (by decide) (s_X0_build_41 h_X0_spell h_X0_makeAll h_X0_putInOrder h_X0_findInverses hJ) (s_X0_build_18 h_X0_spell h_X0_makeAll h_X0_putInOrder h_X0_findInverses hJ)
noncomputable def b_X0_build_0 (F_X0_spell F_X0_makeAll F_X0_putInOrder F_X0_findInverses : KF) (J : List KC) : KC := o_aload 0 <| o_aload 1 <| o_get 5 0 <| o_puti 0 3 <| o_push 0 <| o_istore 2 <| b_X0_build_10 F_X0_spell F_X0_makeAll F_X0_putInOrder F_X0_findInverses J
set_option maxRecDepth 100000 in
theorem s_X0_build_0 {l : Launch} {D : va_G} {cI cS cM : ClassId} {F_X0_spell F_X0_makeAll F_X0_putInOrder F_X0_findInverses : KF} (h_X0_spell : k_snd l D cI cS cM yX0_spell cX0_spell 6 none 1 4 F_X0_spell) (h_X0_makeAll : k_snd l D cI cS cM yX0_makeAll cX0_makeAll 5 none 3 2 F_X0_makeAll) (h_X0_putInOrder : k_snd l D cI cS cM yX0_putInOrder cX0_putInOrder 3 none 2 1 F_X0_putInOrder) (h_X0_findInverses : k_snd l D cI cS cM yX0_findInverses cX0_findInverses 3 none 3 1 F_X0_findInverses) {J : List KC} (hJ : ∀ (i pc d : Nat), ([(10, 0)] : List (Nat × Nat))[i]? = some (pc, d) → KS l D cI cS cM yX0_build.cls yX0_build.name cX0_build 3 none (k_rm 4 0 0) false pc d (k_jmp J i)) : KS l D cI cS cM yX0_build.cls yX0_build.name cX0_build 3 none (k_rm 4 0 0) false 0 0 (b_X0_build_0 F_X0_spell F_X0_makeAll F_X0_putInOrder F_X0_findInverses J) :=
  s_aload_n dX0_build_0 rfl <|
  s_aload_n dX0_build_1 rfl <|
  s_get dX0_build_2 (ci := 5) (sl := 0) (Cn := RX5) (Tf := TX5) (N := 3) rfl (by decide) kiX5 kw_13_3 <|
  s_puti dX0_build_5 (ci := 0) (sl := 3) (Cn := RX0) (Tf := TX0) (N := 9) (tyf := tyX0) rfl (by decide) kiX0 tyX0_ok nmX0 kw_5_7 rfl rfl <|
  s_push1 dX0_build_8 (by decide) (by decide) <|
  s_istore_n dX0_build_9 rfl (by decide) <|
  s_X0_build_10 h_X0_spell h_X0_makeAll h_X0_putInOrder h_X0_findInverses hJ
noncomputable def j_X0_build (F_X0_spell F_X0_makeAll F_X0_putInOrder F_X0_findInverses : KF) (J : List KC) : List KC := [b_X0_build_10 F_X0_spell F_X0_makeAll F_X0_putInOrder F_X0_findInverses J]
noncomputable def m_X0_build (F_X0_spell F_X0_makeAll F_X0_putInOrder F_X0_findInverses : KF) (n : Nat) : KF := k_fun [k_u] (b_X0_build_0 F_X0_spell F_X0_makeAll F_X0_putInOrder F_X0_findInverses (k_loop (j_X0_build F_X0_spell F_X0_makeAll F_X0_putInOrder F_X0_findInverses) n))
theorem r_X0_build {l : Launch} {D : va_G} {cI cS cM : ClassId} {F_X0_spell F_X0_makeAll F_X0_putInOrder F_X0_findInverses : KF} (h_X0_spell : k_snd l D cI cS cM yX0_spell cX0_spell 6 none 1 4 F_X0_spell) (h_X0_makeAll : k_snd l D cI cS cM yX0_makeAll cX0_makeAll 5 none 3 2 F_X0_makeAll) (h_X0_putInOrder : k_snd l D cI cS cM yX0_putInOrder cX0_putInOrder 3 none 2 1 F_X0_putInOrder) (h_X0_findInverses : k_snd l D cI cS cM yX0_findInverses cX0_findInverses 3 none 3 1 F_X0_findInverses) (n : Nat) : k_snd l D cI cS cM yX0_build cX0_build 3 none 4 2 (m_X0_build F_X0_spell F_X0_makeAll F_X0_putInOrder F_X0_findInverses n) :=
  k_method (by decide +kernel) (by simp) rfl (s_X0_build_0 h_X0_spell h_X0_makeAll h_X0_putInOrder h_X0_findInverses (k_loops (hs := [(10, 0)]) (fun J hJ i pc d h => match i, h with | 0, h => by cases h; exact s_X0_build_10 h_X0_spell h_X0_makeAll h_X0_putInOrder h_X0_findInverses hJ | _ + 1, h => by simp at h) n))
noncomputable def b_X6_countAlone_31 (J : List KC) : KC := o_iload 1 <| o_iret
set_option maxRecDepth 100000 in
theorem s_X6_countAlone_31 {l : Launch} {D : va_G} {cI cS cM : ClassId} {J : List KC} (hJ : ∀ (i pc d : Nat), ([(4, 0)] : List (Nat × Nat))[i]? = some (pc, d) → KS l D cI cS cM yX6_countAlone.cls yX6_countAlone.name cX6_countAlone 3 (some .int) (k_rm 1 0 0) false pc d (k_jmp J i)) : KS l D cI cS cM yX6_countAlone.cls yX6_countAlone.name cX6_countAlone 3 (some .int) (k_rm 1 0 0) false 31 0 (b_X6_countAlone_31 J) :=
  s_iload_n dX6_countAlone_31 rfl <|
  s_ireturn dX6_countAlone_32 rfl
noncomputable def b_X6_countAlone_25 (J : List KC) : KC := o_iinc 2 1 <| k_jmp J 0
set_option maxRecDepth 100000 in
theorem s_X6_countAlone_25 {l : Launch} {D : va_G} {cI cS cM : ClassId} {J : List KC} (hJ : ∀ (i pc d : Nat), ([(4, 0)] : List (Nat × Nat))[i]? = some (pc, d) → KS l D cI cS cM yX6_countAlone.cls yX6_countAlone.name cX6_countAlone 3 (some .int) (k_rm 1 0 0) false pc d (k_jmp J i)) : KS l D cI cS cM yX6_countAlone.cls yX6_countAlone.name cX6_countAlone 3 (some .int) (k_rm 1 0 0) false 25 0 (b_X6_countAlone_25 J) :=
  s_iinc dX6_countAlone_25 (by decide) (by decide) <|
  s_goto dX6_countAlone_28 (by decide) (hJ 0 _ _ rfl)
noncomputable def b_X6_countAlone_22 (J : List KC) : KC := o_iinc 1 1 <| b_X6_countAlone_25 J
set_option maxRecDepth 100000 in
theorem s_X6_countAlone_22 {l : Launch} {D : va_G} {cI cS cM : ClassId} {J : List KC} (hJ : ∀ (i pc d : Nat), ([(4, 0)] : List (Nat × Nat))[i]? = some (pc, d) → KS l D cI cS cM yX6_countAlone.cls yX6_countAlone.name cX6_countAlone 3 (some .int) (k_rm 1 0 0) false pc d (k_jmp J i)) : KS l D cI cS cM yX6_countAlone.cls yX6_countAlone.name cX6_countAlone 3 (some .int) (k_rm 1 0 0) false 22 0 (b_X6_countAlone_22 J) :=
  s_iinc dX6_countAlone_22 (by decide) (by decide) <|
  s_X6_countAlone_25 hJ
noncomputable def b_X6_countAlone_12 (J : List KC) : KC := o_aload 0 <| o_get 6 4 <| o_iload 2 <| o_iald <| o_push 1 <| o_c2 Nat.beq (b_X6_countAlone_22 J) (b_X6_countAlone_25 J)
set_option maxRecDepth 100000 in
theorem s_X6_countAlone_12 {l : Launch} {D : va_G} {cI cS cM : ClassId} {J : List KC} (hJ : ∀ (i pc d : Nat), ([(4, 0)] : List (Nat × Nat))[i]? = some (pc, d) → KS l D cI cS cM yX6_countAlone.cls yX6_countAlone.name cX6_countAlone 3 (some .int) (k_rm 1 0 0) false pc d (k_jmp J i)) : KS l D cI cS cM yX6_countAlone.cls yX6_countAlone.name cX6_countAlone 3 (some .int) (k_rm 1 0 0) false 12 0 (b_X6_countAlone_12 J) :=
  s_aload_n dX6_countAlone_12 rfl <|
  s_get dX6_countAlone_13 (ci := 6) (sl := 4) (Cn := RX6) (Tf := TX6) (N := 11) rfl (by decide) kiX6 kw_4_18 <|
  s_iload_n dX6_countAlone_16 rfl <|
  s_iald dX6_countAlone_17 <|
  s_push1 dX6_countAlone_18 (by decide) (by decide) <|
  s_icmp_ne dX6_countAlone_19 (by decide) (s_X6_countAlone_25 hJ) (s_X6_countAlone_22 hJ)
noncomputable def b_X6_countAlone_4 (J : List KC) : KC := o_iload 2 <| o_aload 0 <| o_get 6 1 <| o_c2 s_lt (b_X6_countAlone_12 J) (b_X6_countAlone_31 J)
set_option maxRecDepth 100000 in
theorem s_X6_countAlone_4 {l : Launch} {D : va_G} {cI cS cM : ClassId} {J : List KC} (hJ : ∀ (i pc d : Nat), ([(4, 0)] : List (Nat × Nat))[i]? = some (pc, d) → KS l D cI cS cM yX6_countAlone.cls yX6_countAlone.name cX6_countAlone 3 (some .int) (k_rm 1 0 0) false pc d (k_jmp J i)) : KS l D cI cS cM yX6_countAlone.cls yX6_countAlone.name cX6_countAlone 3 (some .int) (k_rm 1 0 0) false 4 0 (b_X6_countAlone_4 J) :=
  s_iload_n dX6_countAlone_4 rfl <|
  s_aload_n dX6_countAlone_5 rfl <|
  s_get dX6_countAlone_6 (ci := 6) (sl := 1) (Cn := RX6) (Tf := TX6) (N := 11) rfl (by decide) kiX6 kw_4_15 <|
  s_icmp_ge dX6_countAlone_9 (by decide) (s_X6_countAlone_31 hJ) (s_X6_countAlone_12 hJ)
noncomputable def b_X6_countAlone_0 (J : List KC) : KC := o_push 0 <| o_istore 1 <| o_push 0 <| o_istore 2 <| b_X6_countAlone_4 J
set_option maxRecDepth 100000 in
theorem s_X6_countAlone_0 {l : Launch} {D : va_G} {cI cS cM : ClassId} {J : List KC} (hJ : ∀ (i pc d : Nat), ([(4, 0)] : List (Nat × Nat))[i]? = some (pc, d) → KS l D cI cS cM yX6_countAlone.cls yX6_countAlone.name cX6_countAlone 3 (some .int) (k_rm 1 0 0) false pc d (k_jmp J i)) : KS l D cI cS cM yX6_countAlone.cls yX6_countAlone.name cX6_countAlone 3 (some .int) (k_rm 1 0 0) false 0 0 (b_X6_countAlone_0 J) :=
  s_push1 dX6_countAlone_0 (by decide) (by decide) <|
  s_istore_n dX6_countAlone_1 rfl (by decide) <|
  s_push1 dX6_countAlone_2 (by decide) (by decide) <|
  s_istore_n dX6_countAlone_3 rfl (by decide) <|
  s_X6_countAlone_4 hJ
noncomputable def j_X6_countAlone (J : List KC) : List KC := [b_X6_countAlone_4 J]
noncomputable def m_X6_countAlone (n : Nat) : KF := k_fun [k_u, k_u] (b_X6_countAlone_0 (k_loop (j_X6_countAlone) n))
theorem r_X6_countAlone {l : Launch} {D : va_G} {cI cS cM : ClassId} (n : Nat) : k_snd l D cI cS cM yX6_countAlone cX6_countAlone 3 (some .int) 1 1 (m_X6_countAlone n) :=
  k_method (by decide +kernel) (by simp) rfl (s_X6_countAlone_0 (k_loops (hs := [(4, 0)]) (fun J hJ i pc d h => match i, h with | 0, h => by cases h; exact s_X6_countAlone_4 hJ | _ + 1, h => by simp at h) n))
noncomputable def b_X6_leastShared_29 (J : List KC) : KC := o_iload 2 <| o_iret
set_option maxRecDepth 100000 in
theorem s_X6_leastShared_29 {l : Launch} {D : va_G} {cI cS cM : ClassId} {J : List KC} (hJ : ∀ (i pc d : Nat), ([(4, 0)] : List (Nat × Nat))[i]? = some (pc, d) → KS l D cI cS cM yX6_leastShared.cls yX6_leastShared.name cX6_leastShared 4 (some .int) (k_rm 1 0 0) false pc d (k_jmp J i)) : KS l D cI cS cM yX6_leastShared.cls yX6_leastShared.name cX6_leastShared 4 (some .int) (k_rm 1 0 0) false 29 0 (b_X6_leastShared_29 J) :=
  s_iload_n dX6_leastShared_29 rfl <|
  s_ireturn dX6_leastShared_30 rfl
noncomputable def b_X6_leastShared_19 (J : List KC) : KC := o_iload 2 <| o_iload 0 <| o_bin n_add <| o_istore 2 <| o_iinc 3 1 <| k_jmp J 0
set_option maxRecDepth 100000 in
theorem s_X6_leastShared_19 {l : Launch} {D : va_G} {cI cS cM : ClassId} {J : List KC} (hJ : ∀ (i pc d : Nat), ([(4, 0)] : List (Nat × Nat))[i]? = some (pc, d) → KS l D cI cS cM yX6_leastShared.cls yX6_leastShared.name cX6_leastShared 4 (some .int) (k_rm 1 0 0) false pc d (k_jmp J i)) : KS l D cI cS cM yX6_leastShared.cls yX6_leastShared.name cX6_leastShared 4 (some .int) (k_rm 1 0 0) false 19 0 (b_X6_leastShared_19 J) :=
  s_iload_n dX6_leastShared_19 rfl <|
  s_iload_n dX6_leastShared_20 rfl <|
  s_iadd dX6_leastShared_21 <|
  s_istore_n dX6_leastShared_22 rfl (by decide) <|
  s_iinc dX6_leastShared_23 (by decide) (by decide) <|
  s_goto dX6_leastShared_26 (by decide) (hJ 0 _ _ rfl)
noncomputable def b_X6_leastShared_13 (J : List KC) : KC := o_iload 2 <| o_iload 1 <| o_div n_rem <| o_c1 g_eq (b_X6_leastShared_29 J) (b_X6_leastShared_19 J)
set_option maxRecDepth 100000 in
theorem s_X6_leastShared_13 {l : Launch} {D : va_G} {cI cS cM : ClassId} {J : List KC} (hJ : ∀ (i pc d : Nat), ([(4, 0)] : List (Nat × Nat))[i]? = some (pc, d) → KS l D cI cS cM yX6_leastShared.cls yX6_leastShared.name cX6_leastShared 4 (some .int) (k_rm 1 0 0) false pc d (k_jmp J i)) : KS l D cI cS cM yX6_leastShared.cls yX6_leastShared.name cX6_leastShared 4 (some .int) (k_rm 1 0 0) false 13 0 (b_X6_leastShared_13 J) :=
  s_iload_n dX6_leastShared_13 rfl <|
  s_iload_n dX6_leastShared_14 rfl <|
  s_irem dX6_leastShared_15 <|
  s_if_eq dX6_leastShared_16 (by decide) (s_X6_leastShared_29 hJ) (s_X6_leastShared_19 hJ)
noncomputable def b_X6_leastShared_9 (J : List KC) : KC := o_iload 1 <| o_c1 g_gt (b_X6_leastShared_13 J) (b_X6_leastShared_29 J)
set_option maxRecDepth 100000 in
theorem s_X6_leastShared_9 {l : Launch} {D : va_G} {cI cS cM : ClassId} {J : List KC} (hJ : ∀ (i pc d : Nat), ([(4, 0)] : List (Nat × Nat))[i]? = some (pc, d) → KS l D cI cS cM yX6_leastShared.cls yX6_leastShared.name cX6_leastShared 4 (some .int) (k_rm 1 0 0) false pc d (k_jmp J i)) : KS l D cI cS cM yX6_leastShared.cls yX6_leastShared.name cX6_leastShared 4 (some .int) (k_rm 1 0 0) false 9 0 (b_X6_leastShared_9 J) :=
  s_iload_n dX6_leastShared_9 rfl <|
  s_if_le dX6_leastShared_10 (by decide) (s_X6_leastShared_29 hJ) (s_X6_leastShared_13 hJ)
noncomputable def b_X6_leastShared_4 (J : List KC) : KC := o_iload 3 <| o_iload 1 <| o_c2 s_lt (b_X6_leastShared_9 J) (b_X6_leastShared_29 J)
set_option maxRecDepth 100000 in
theorem s_X6_leastShared_4 {l : Launch} {D : va_G} {cI cS cM : ClassId} {J : List KC} (hJ : ∀ (i pc d : Nat), ([(4, 0)] : List (Nat × Nat))[i]? = some (pc, d) → KS l D cI cS cM yX6_leastShared.cls yX6_leastShared.name cX6_leastShared 4 (some .int) (k_rm 1 0 0) false pc d (k_jmp J i)) : KS l D cI cS cM yX6_leastShared.cls yX6_leastShared.name cX6_leastShared 4 (some .int) (k_rm 1 0 0) false 4 0 (b_X6_leastShared_4 J) :=
  s_iload_n dX6_leastShared_4 rfl <|
  s_iload_n dX6_leastShared_5 rfl <|
  s_icmp_ge dX6_leastShared_6 (by decide) (s_X6_leastShared_29 hJ) (s_X6_leastShared_9 hJ)
noncomputable def b_X6_leastShared_0 (J : List KC) : KC := o_iload 0 <| o_istore 2 <| o_push 1 <| o_istore 3 <| b_X6_leastShared_4 J
set_option maxRecDepth 100000 in
theorem s_X6_leastShared_0 {l : Launch} {D : va_G} {cI cS cM : ClassId} {J : List KC} (hJ : ∀ (i pc d : Nat), ([(4, 0)] : List (Nat × Nat))[i]? = some (pc, d) → KS l D cI cS cM yX6_leastShared.cls yX6_leastShared.name cX6_leastShared 4 (some .int) (k_rm 1 0 0) false pc d (k_jmp J i)) : KS l D cI cS cM yX6_leastShared.cls yX6_leastShared.name cX6_leastShared 4 (some .int) (k_rm 1 0 0) false 0 0 (b_X6_leastShared_0 J) :=
  s_iload_n dX6_leastShared_0 rfl <|
  s_istore_n dX6_leastShared_1 rfl (by decide) <|
  s_push1 dX6_leastShared_2 (by decide) (by decide) <|
  s_istore_n dX6_leastShared_3 rfl (by decide) <|
  s_X6_leastShared_4 hJ
noncomputable def j_X6_leastShared (J : List KC) : List KC := [b_X6_leastShared_4 J]
noncomputable def m_X6_leastShared (n : Nat) : KF := k_fun [k_u, k_u] (b_X6_leastShared_0 (k_loop (j_X6_leastShared) n))
theorem r_X6_leastShared {l : Launch} {D : va_G} {cI cS cM : ClassId} (n : Nat) : k_snd l D cI cS cM yX6_leastShared cX6_leastShared 4 (some .int) 1 2 (m_X6_leastShared n) :=
  k_method (by decide +kernel) (by simp) rfl (s_X6_leastShared_0 (k_loops (hs := [(4, 0)]) (fun J hJ i pc d h => match i, h with | 0, h => by cases h; exact s_X6_leastShared_4 hJ | _ + 1, h => by simp at h) n))
noncomputable def b_X6_pairPlace_0 : KC := o_iload 0 <| o_push 7 <| o_bin n_mul <| o_iload 1 <| o_bin n_add <| o_push 7 <| o_bin n_mul <| o_iload 2 <| o_bin n_add <| o_iret
set_option maxRecDepth 100000 in
theorem s_X6_pairPlace_0 {l : Launch} {D : va_G} {cI cS cM : ClassId} : KS l D cI cS cM yX6_pairPlace.cls yX6_pairPlace.name cX6_pairPlace 3 (some .int) (k_rm 1 0 0) false 0 0 (b_X6_pairPlace_0) :=
  s_iload_n dX6_pairPlace_0 rfl <|
  s_push2 dX6_pairPlace_1 (by decide) (by decide) <|
  s_imul dX6_pairPlace_3 <|
  s_iload_n dX6_pairPlace_4 rfl <|
  s_iadd dX6_pairPlace_5 <|
  s_push2 dX6_pairPlace_6 (by decide) (by decide) <|
  s_imul dX6_pairPlace_8 <|
  s_iload_n dX6_pairPlace_9 rfl <|
  s_iadd dX6_pairPlace_10 <|
  s_ireturn dX6_pairPlace_11 rfl
noncomputable def m_X6_pairPlace : KF := k_fun [] (b_X6_pairPlace_0)
theorem r_X6_pairPlace {l : Launch} {D : va_G} {cI cS cM : ClassId} : k_snd l D cI cS cM yX6_pairPlace cX6_pairPlace 3 (some .int) 1 3 (m_X6_pairPlace) :=
  k_method (by decide +kernel) (by simp) rfl (s_X6_pairPlace_0)
noncomputable def b_X6_powerSort_31 : KC := o_iret
set_option maxRecDepth 100000 in
theorem s_X6_powerSort_31 {l : Launch} {D : va_G} {cI cS cM : ClassId} : KS l D cI cS cM yX6_powerSort.cls yX6_powerSort.name cX6_powerSort 3 (some .int) (k_rm 1 0 0) false 31 1 (b_X6_powerSort_31) :=
  s_ireturn dX6_powerSort_31 rfl
noncomputable def b_X6_powerSort_30 : KC := o_push 0 <| b_X6_powerSort_31
set_option maxRecDepth 100000 in
theorem s_X6_powerSort_30 {l : Launch} {D : va_G} {cI cS cM : ClassId} : KS l D cI cS cM yX6_powerSort.cls yX6_powerSort.name cX6_powerSort 3 (some .int) (k_rm 1 0 0) false 30 0 (b_X6_powerSort_30) :=
  s_push1 dX6_powerSort_30 (by decide) (by decide) <|
  s_X6_powerSort_31
noncomputable def b_X6_powerSort_9 : KC := o_aload 0 <| o_get 6 10 <| o_iload 1 <| o_push 6 <| o_bin n_mul <| o_iload 2 <| o_aload 0 <| o_get 6 5 <| o_iload 1 <| o_iald <| o_div n_rem <| o_bin n_add <| o_iald <| b_X6_powerSort_31
set_option maxRecDepth 100000 in
theorem s_X6_powerSort_9 {l : Launch} {D : va_G} {cI cS cM : ClassId} : KS l D cI cS cM yX6_powerSort.cls yX6_powerSort.name cX6_powerSort 3 (some .int) (k_rm 1 0 0) false 9 0 (b_X6_powerSort_9) :=
  s_aload_n dX6_powerSort_9 rfl <|
  s_get dX6_powerSort_10 (ci := 6) (sl := 10) (Cn := RX6) (Tf := TX6) (N := 11) rfl (by decide) kiX6 kw_5_0 <|
  s_iload_n dX6_powerSort_13 rfl <|
  s_push2 dX6_powerSort_14 (by decide) (by decide) <|
  s_imul dX6_powerSort_16 <|
  s_iload_n dX6_powerSort_17 rfl <|
  s_aload_n dX6_powerSort_18 rfl <|
  s_get dX6_powerSort_19 (ci := 6) (sl := 5) (Cn := RX6) (Tf := TX6) (N := 11) rfl (by decide) kiX6 kw_4_19 <|
  s_iload_n dX6_powerSort_22 rfl <|
  s_iald dX6_powerSort_23 <|
  s_irem dX6_powerSort_24 <|
  s_iadd dX6_powerSort_25 <|
  s_iald dX6_powerSort_26 <|
  s_goto dX6_powerSort_27 (by decide) (s_X6_powerSort_31)
noncomputable def b_X6_powerSort_0 : KC := o_aload 0 <| o_get 6 5 <| o_iload 1 <| o_iald <| o_c1 g_gt (b_X6_powerSort_9) (b_X6_powerSort_30)
set_option maxRecDepth 100000 in
theorem s_X6_powerSort_0 {l : Launch} {D : va_G} {cI cS cM : ClassId} : KS l D cI cS cM yX6_powerSort.cls yX6_powerSort.name cX6_powerSort 3 (some .int) (k_rm 1 0 0) false 0 0 (b_X6_powerSort_0) :=
  s_aload_n dX6_powerSort_0 rfl <|
  s_get dX6_powerSort_1 (ci := 6) (sl := 5) (Cn := RX6) (Tf := TX6) (N := 11) rfl (by decide) kiX6 kw_4_19 <|
  s_iload_n dX6_powerSort_4 rfl <|
  s_iald dX6_powerSort_5 <|
  s_if_le dX6_powerSort_6 (by decide) (s_X6_powerSort_30) (s_X6_powerSort_9)
noncomputable def m_X6_powerSort : KF := k_fun [] (b_X6_powerSort_0)
theorem r_X6_powerSort {l : Launch} {D : va_G} {cI cS cM : ClassId} : k_snd l D cI cS cM yX6_powerSort cX6_powerSort 3 (some .int) 1 3 (m_X6_powerSort) :=
  k_method (by decide +kernel) (by simp) rfl (s_X6_powerSort_0)
noncomputable def b_X6_countPairs_91 (F_J7_fill_53178 F_X0_multiplied F_X6_pairPlace : KF) (J : List KC) : KC := o_ret
set_option maxRecDepth 100000 in
theorem s_X6_countPairs_91 {l : Launch} {D : va_G} {cI cS cM : ClassId} {F_J7_fill_53178 F_X0_multiplied F_X6_pairPlace : KF} (h_J7_fill_53178 : k_snd l D cI cS cM yJ7_fill_53178 cJ7_fill_53178 4 none 1 2 F_J7_fill_53178) (h_X0_multiplied : k_snd l D cI cS cM yX0_multiplied cX0_multiplied 4 (some .int) 3 3 F_X0_multiplied) (h_X6_pairPlace : k_snd l D cI cS cM yX6_pairPlace cX6_pairPlace 3 (some .int) 1 3 F_X6_pairPlace) {J : List KC} (hJ : ∀ (i pc d : Nat), ([(10, 0), (20, 0)] : List (Nat × Nat))[i]? = some (pc, d) → KS l D cI cS cM yX6_countPairs.cls yX6_countPairs.name cX6_countPairs 4 none (k_rm 4 0 0) false pc d (k_jmp J i)) : KS l D cI cS cM yX6_countPairs.cls yX6_countPairs.name cX6_countPairs 4 none (k_rm 4 0 0) false 91 0 (b_X6_countPairs_91 F_J7_fill_53178 F_X0_multiplied F_X6_pairPlace J) :=
  s_return dX6_countPairs_91 rfl
noncomputable def b_X6_countPairs_85 (F_J7_fill_53178 F_X0_multiplied F_X6_pairPlace : KF) (J : List KC) : KC := o_iinc 1 1 <| k_jmp J 0
set_option maxRecDepth 100000 in
theorem s_X6_countPairs_85 {l : Launch} {D : va_G} {cI cS cM : ClassId} {F_J7_fill_53178 F_X0_multiplied F_X6_pairPlace : KF} (h_J7_fill_53178 : k_snd l D cI cS cM yJ7_fill_53178 cJ7_fill_53178 4 none 1 2 F_J7_fill_53178) (h_X0_multiplied : k_snd l D cI cS cM yX0_multiplied cX0_multiplied 4 (some .int) 3 3 F_X0_multiplied) (h_X6_pairPlace : k_snd l D cI cS cM yX6_pairPlace cX6_pairPlace 3 (some .int) 1 3 F_X6_pairPlace) {J : List KC} (hJ : ∀ (i pc d : Nat), ([(10, 0), (20, 0)] : List (Nat × Nat))[i]? = some (pc, d) → KS l D cI cS cM yX6_countPairs.cls yX6_countPairs.name cX6_countPairs 4 none (k_rm 4 0 0) false pc d (k_jmp J i)) : KS l D cI cS cM yX6_countPairs.cls yX6_countPairs.name cX6_countPairs 4 none (k_rm 4 0 0) false 85 0 (b_X6_countPairs_85 F_J7_fill_53178 F_X0_multiplied F_X6_pairPlace J) :=
  s_iinc dX6_countPairs_85 (by decide) (by decide) <|
  s_goto dX6_countPairs_88 (by decide) (hJ 0 _ _ rfl)
noncomputable def b_X6_countPairs_31 (F_J7_fill_53178 F_X0_multiplied F_X6_pairPlace : KF) (J : List KC) : KC := o_aload 0 <| o_get 6 0 <| o_aload 0 <| o_get 6 0 <| o_get 0 2 <| o_iload 2 <| o_iald <| o_aload 0 <| o_get 6 6 <| o_iload 1 <| o_iald <| o_cV1 3 0 F_X0_multiplied <| o_istore 3 <| o_aload 0 <| o_get 6 9 <| o_aload 0 <| o_get 6 3 <| o_iload 2 <| o_iald <| o_aload 0 <| o_get 6 3 <| o_iload 3 <| o_iald <| o_iload 1 <| o_cS1 3 F_X6_pairPlace <| o_dup2 <| o_iald <| o_push 1 <| o_bin n_add <| o_iast <| o_iinc 2 1 <| k_jmp J 1
set_option maxRecDepth 100000 in
theorem s_X6_countPairs_31 {l : Launch} {D : va_G} {cI cS cM : ClassId} {F_J7_fill_53178 F_X0_multiplied F_X6_pairPlace : KF} (h_J7_fill_53178 : k_snd l D cI cS cM yJ7_fill_53178 cJ7_fill_53178 4 none 1 2 F_J7_fill_53178) (h_X0_multiplied : k_snd l D cI cS cM yX0_multiplied cX0_multiplied 4 (some .int) 3 3 F_X0_multiplied) (h_X6_pairPlace : k_snd l D cI cS cM yX6_pairPlace cX6_pairPlace 3 (some .int) 1 3 F_X6_pairPlace) {J : List KC} (hJ : ∀ (i pc d : Nat), ([(10, 0), (20, 0)] : List (Nat × Nat))[i]? = some (pc, d) → KS l D cI cS cM yX6_countPairs.cls yX6_countPairs.name cX6_countPairs 4 none (k_rm 4 0 0) false pc d (k_jmp J i)) : KS l D cI cS cM yX6_countPairs.cls yX6_countPairs.name cX6_countPairs 4 none (k_rm 4 0 0) false 31 0 (b_X6_countPairs_31 F_J7_fill_53178 F_X0_multiplied F_X6_pairPlace J) :=
  s_aload_n dX6_countPairs_31 rfl <|
  s_get dX6_countPairs_32 (ci := 6) (sl := 0) (Cn := RX6) (Tf := TX6) (N := 11) rfl (by decide) kiX6 kw_4_14 <|
  s_aload_n dX6_countPairs_35 rfl <|
  s_get dX6_countPairs_36 (ci := 6) (sl := 0) (Cn := RX6) (Tf := TX6) (N := 11) rfl (by decide) kiX6 kw_4_14 <|
  s_get dX6_countPairs_39 (ci := 0) (sl := 2) (Cn := RX0) (Tf := TX0) (N := 9) rfl (by decide) kiX0 kw_15_8 <|
  s_iload_n dX6_countPairs_42 rfl <|
  s_iald dX6_countPairs_43 <|
  s_aload_n dX6_countPairs_44 rfl <|
  s_get dX6_countPairs_45 (ci := 6) (sl := 6) (Cn := RX6) (Tf := TX6) (N := 11) rfl (by decide) kiX6 kw_4_20 <|
  s_iload_n dX6_countPairs_48 rfl <|
  s_iald dX6_countPairs_49 <|
  s_callV1 dX6_countPairs_50 kw_15_17 kw_15_18 kw_15_19 (ci := 0) rfl ok_X0_multiplied (by decide) (by decide) h_X0_multiplied (by decide) <|
  s_istore_n dX6_countPairs_53 rfl (by decide) <|
  s_aload_n dX6_countPairs_54 rfl <|
  s_get dX6_countPairs_55 (ci := 6) (sl := 9) (Cn := RX6) (Tf := TX6) (N := 11) rfl (by decide) kiX6 kw_4_23 <|
  s_aload_n dX6_countPairs_58 rfl <|
  s_get dX6_countPairs_59 (ci := 6) (sl := 3) (Cn := RX6) (Tf := TX6) (N := 11) rfl (by decide) kiX6 kw_4_17 <|
  s_iload_n dX6_countPairs_62 rfl <|
  s_iald dX6_countPairs_63 <|
  s_aload_n dX6_countPairs_64 rfl <|
  s_get dX6_countPairs_65 (ci := 6) (sl := 3) (Cn := RX6) (Tf := TX6) (N := 11) rfl (by decide) kiX6 kw_4_17 <|
  s_iload_n dX6_countPairs_68 rfl <|
  s_iald dX6_countPairs_69 <|
  s_iload_n dX6_countPairs_70 rfl <|
  s_callS1 dX6_countPairs_71 kw_16_4 kw_16_5 ok_X6_pairPlace (by decide) (by decide) h_X6_pairPlace (by decide) <|
  s_dup2 dX6_countPairs_74 <|
  s_iald dX6_countPairs_75 <|
  s_push1 dX6_countPairs_76 (by decide) (by decide) <|
  s_iadd dX6_countPairs_77 <|
  s_iast dX6_countPairs_78 <|
  s_iinc dX6_countPairs_79 (by decide) (by decide) <|
  s_goto dX6_countPairs_82 (by decide) (hJ 1 _ _ rfl)
noncomputable def b_X6_countPairs_20 (F_J7_fill_53178 F_X0_multiplied F_X6_pairPlace : KF) (J : List KC) : KC := o_iload 2 <| o_aload 0 <| o_get 6 0 <| o_get 0 0 <| o_c2 s_lt (b_X6_countPairs_31 F_J7_fill_53178 F_X0_multiplied F_X6_pairPlace J) (b_X6_countPairs_85 F_J7_fill_53178 F_X0_multiplied F_X6_pairPlace J)
set_option maxRecDepth 100000 in
theorem s_X6_countPairs_20 {l : Launch} {D : va_G} {cI cS cM : ClassId} {F_J7_fill_53178 F_X0_multiplied F_X6_pairPlace : KF} (h_J7_fill_53178 : k_snd l D cI cS cM yJ7_fill_53178 cJ7_fill_53178 4 none 1 2 F_J7_fill_53178) (h_X0_multiplied : k_snd l D cI cS cM yX0_multiplied cX0_multiplied 4 (some .int) 3 3 F_X0_multiplied) (h_X6_pairPlace : k_snd l D cI cS cM yX6_pairPlace cX6_pairPlace 3 (some .int) 1 3 F_X6_pairPlace) {J : List KC} (hJ : ∀ (i pc d : Nat), ([(10, 0), (20, 0)] : List (Nat × Nat))[i]? = some (pc, d) → KS l D cI cS cM yX6_countPairs.cls yX6_countPairs.name cX6_countPairs 4 none (k_rm 4 0 0) false pc d (k_jmp J i)) : KS l D cI cS cM yX6_countPairs.cls yX6_countPairs.name cX6_countPairs 4 none (k_rm 4 0 0) false 20 0 (b_X6_countPairs_20 F_J7_fill_53178 F_X0_multiplied F_X6_pairPlace J) :=
  s_iload_n dX6_countPairs_20 rfl <|
  s_aload_n dX6_countPairs_21 rfl <|
  s_get dX6_countPairs_22 (ci := 6) (sl := 0) (Cn := RX6) (Tf := TX6) (N := 11) rfl (by decide) kiX6 kw_4_14 <|
  s_get dX6_countPairs_25 (ci := 0) (sl := 0) (Cn := RX0) (Tf := TX0) (N := 9) rfl (by decide) kiX0 kw_14_18 <|
  s_icmp_ge dX6_countPairs_28 (by decide) (s_X6_countPairs_85 h_J7_fill_53178 h_X0_multiplied h_X6_pairPlace hJ) (s_X6_countPairs_31 h_J7_fill_53178 h_X0_multiplied h_X6_pairPlace hJ)
noncomputable def b_X6_countPairs_18 (F_J7_fill_53178 F_X0_multiplied F_X6_pairPlace : KF) (J : List KC) : KC := o_push 0 <| o_istore 2 <| b_X6_countPairs_20 F_J7_fill_53178 F_X0_multiplied F_X6_pairPlace J
set_option maxRecDepth 100000 in
theorem s_X6_countPairs_18 {l : Launch} {D : va_G} {cI cS cM : ClassId} {F_J7_fill_53178 F_X0_multiplied F_X6_pairPlace : KF} (h_J7_fill_53178 : k_snd l D cI cS cM yJ7_fill_53178 cJ7_fill_53178 4 none 1 2 F_J7_fill_53178) (h_X0_multiplied : k_snd l D cI cS cM yX0_multiplied cX0_multiplied 4 (some .int) 3 3 F_X0_multiplied) (h_X6_pairPlace : k_snd l D cI cS cM yX6_pairPlace cX6_pairPlace 3 (some .int) 1 3 F_X6_pairPlace) {J : List KC} (hJ : ∀ (i pc d : Nat), ([(10, 0), (20, 0)] : List (Nat × Nat))[i]? = some (pc, d) → KS l D cI cS cM yX6_countPairs.cls yX6_countPairs.name cX6_countPairs 4 none (k_rm 4 0 0) false pc d (k_jmp J i)) : KS l D cI cS cM yX6_countPairs.cls yX6_countPairs.name cX6_countPairs 4 none (k_rm 4 0 0) false 18 0 (b_X6_countPairs_18 F_J7_fill_53178 F_X0_multiplied F_X6_pairPlace J) :=
  s_push1 dX6_countPairs_18 (by decide) (by decide) <|
  s_istore_n dX6_countPairs_19 rfl (by decide) <|
  s_X6_countPairs_20 h_J7_fill_53178 h_X0_multiplied h_X6_pairPlace hJ
noncomputable def b_X6_countPairs_10 (F_J7_fill_53178 F_X0_multiplied F_X6_pairPlace : KF) (J : List KC) : KC := o_iload 1 <| o_aload 0 <| o_get 6 1 <| o_c2 s_lt (b_X6_countPairs_18 F_J7_fill_53178 F_X0_multiplied F_X6_pairPlace J) (b_X6_countPairs_91 F_J7_fill_53178 F_X0_multiplied F_X6_pairPlace J)
set_option maxRecDepth 100000 in
theorem s_X6_countPairs_10 {l : Launch} {D : va_G} {cI cS cM : ClassId} {F_J7_fill_53178 F_X0_multiplied F_X6_pairPlace : KF} (h_J7_fill_53178 : k_snd l D cI cS cM yJ7_fill_53178 cJ7_fill_53178 4 none 1 2 F_J7_fill_53178) (h_X0_multiplied : k_snd l D cI cS cM yX0_multiplied cX0_multiplied 4 (some .int) 3 3 F_X0_multiplied) (h_X6_pairPlace : k_snd l D cI cS cM yX6_pairPlace cX6_pairPlace 3 (some .int) 1 3 F_X6_pairPlace) {J : List KC} (hJ : ∀ (i pc d : Nat), ([(10, 0), (20, 0)] : List (Nat × Nat))[i]? = some (pc, d) → KS l D cI cS cM yX6_countPairs.cls yX6_countPairs.name cX6_countPairs 4 none (k_rm 4 0 0) false pc d (k_jmp J i)) : KS l D cI cS cM yX6_countPairs.cls yX6_countPairs.name cX6_countPairs 4 none (k_rm 4 0 0) false 10 0 (b_X6_countPairs_10 F_J7_fill_53178 F_X0_multiplied F_X6_pairPlace J) :=
  s_iload_n dX6_countPairs_10 rfl <|
  s_aload_n dX6_countPairs_11 rfl <|
  s_get dX6_countPairs_12 (ci := 6) (sl := 1) (Cn := RX6) (Tf := TX6) (N := 11) rfl (by decide) kiX6 kw_4_15 <|
  s_icmp_ge dX6_countPairs_15 (by decide) (s_X6_countPairs_91 h_J7_fill_53178 h_X0_multiplied h_X6_pairPlace hJ) (s_X6_countPairs_18 h_J7_fill_53178 h_X0_multiplied h_X6_pairPlace hJ)
noncomputable def b_X6_countPairs_0 (F_J7_fill_53178 F_X0_multiplied F_X6_pairPlace : KF) (J : List KC) : KC := o_aload 0 <| o_get 6 9 <| o_push 0 <| o_cS0 2 F_J7_fill_53178 <| o_push 0 <| o_istore 1 <| b_X6_countPairs_10 F_J7_fill_53178 F_X0_multiplied F_X6_pairPlace J
set_option maxRecDepth 100000 in
theorem s_X6_countPairs_0 {l : Launch} {D : va_G} {cI cS cM : ClassId} {F_J7_fill_53178 F_X0_multiplied F_X6_pairPlace : KF} (h_J7_fill_53178 : k_snd l D cI cS cM yJ7_fill_53178 cJ7_fill_53178 4 none 1 2 F_J7_fill_53178) (h_X0_multiplied : k_snd l D cI cS cM yX0_multiplied cX0_multiplied 4 (some .int) 3 3 F_X0_multiplied) (h_X6_pairPlace : k_snd l D cI cS cM yX6_pairPlace cX6_pairPlace 3 (some .int) 1 3 F_X6_pairPlace) {J : List KC} (hJ : ∀ (i pc d : Nat), ([(10, 0), (20, 0)] : List (Nat × Nat))[i]? = some (pc, d) → KS l D cI cS cM yX6_countPairs.cls yX6_countPairs.name cX6_countPairs 4 none (k_rm 4 0 0) false pc d (k_jmp J i)) : KS l D cI cS cM yX6_countPairs.cls yX6_countPairs.name cX6_countPairs 4 none (k_rm 4 0 0) false 0 0 (b_X6_countPairs_0 F_J7_fill_53178 F_X0_multiplied F_X6_pairPlace J) :=
  s_aload_n dX6_countPairs_0 rfl <|
  s_get dX6_countPairs_1 (ci := 6) (sl := 9) (Cn := RX6) (Tf := TX6) (N := 11) rfl (by decide) kiX6 kw_4_23 <|
  s_push1 dX6_countPairs_4 (by decide) (by decide) <|
  s_callS0 dX6_countPairs_5 kw_14_19 kw_13_15 ok_J7_fill_53178 (by decide) (by decide) h_J7_fill_53178 (by decide) <|
  s_push1 dX6_countPairs_8 (by decide) (by decide) <|
  s_istore_n dX6_countPairs_9 rfl (by decide) <|
  s_X6_countPairs_10 h_J7_fill_53178 h_X0_multiplied h_X6_pairPlace hJ
noncomputable def j_X6_countPairs (F_J7_fill_53178 F_X0_multiplied F_X6_pairPlace : KF) (J : List KC) : List KC := [b_X6_countPairs_10 F_J7_fill_53178 F_X0_multiplied F_X6_pairPlace J, b_X6_countPairs_20 F_J7_fill_53178 F_X0_multiplied F_X6_pairPlace J]
noncomputable def m_X6_countPairs (F_J7_fill_53178 F_X0_multiplied F_X6_pairPlace : KF) (n : Nat) : KF := k_fun [k_u, k_u, k_u] (b_X6_countPairs_0 F_J7_fill_53178 F_X0_multiplied F_X6_pairPlace (k_loop (j_X6_countPairs F_J7_fill_53178 F_X0_multiplied F_X6_pairPlace) n))
theorem r_X6_countPairs {l : Launch} {D : va_G} {cI cS cM : ClassId} {F_J7_fill_53178 F_X0_multiplied F_X6_pairPlace : KF} (h_J7_fill_53178 : k_snd l D cI cS cM yJ7_fill_53178 cJ7_fill_53178 4 none 1 2 F_J7_fill_53178) (h_X0_multiplied : k_snd l D cI cS cM yX0_multiplied cX0_multiplied 4 (some .int) 3 3 F_X0_multiplied) (h_X6_pairPlace : k_snd l D cI cS cM yX6_pairPlace cX6_pairPlace 3 (some .int) 1 3 F_X6_pairPlace) (n : Nat) : k_snd l D cI cS cM yX6_countPairs cX6_countPairs 4 none 4 1 (m_X6_countPairs F_J7_fill_53178 F_X0_multiplied F_X6_pairPlace n) :=
  k_method (by decide +kernel) (by simp) rfl (s_X6_countPairs_0 h_J7_fill_53178 h_X0_multiplied h_X6_pairPlace (k_loops (hs := [(10, 0), (20, 0)]) (fun J hJ i pc d h => match i, h with | 0, h => by cases h; exact s_X6_countPairs_10 h_J7_fill_53178 h_X0_multiplied h_X6_pairPlace hJ | 1, h => by cases h; exact s_X6_countPairs_20 h_J7_fill_53178 h_X0_multiplied h_X6_pairPlace hJ | _ + 2, h => by simp at h) n))
noncomputable def b_X6_findPowers_72 (F_X0_multiplied : KF) (J : List KC) : KC := o_ret
set_option maxRecDepth 100000 in
theorem s_X6_findPowers_72 {l : Launch} {D : va_G} {cI cS cM : ClassId} {F_X0_multiplied : KF} (h_X0_multiplied : k_snd l D cI cS cM yX0_multiplied cX0_multiplied 4 (some .int) 3 3 F_X0_multiplied) {J : List KC} (hJ : ∀ (i pc d : Nat), ([(11, 0)] : List (Nat × Nat))[i]? = some (pc, d) → KS l D cI cS cM yX6_findPowers.cls yX6_findPowers.name cX6_findPowers 4 none (k_rm 4 0 0) false pc d (k_jmp J i)) : KS l D cI cS cM yX6_findPowers.cls yX6_findPowers.name cX6_findPowers 4 none (k_rm 4 0 0) false 72 0 (b_X6_findPowers_72 F_X0_multiplied J) :=
  s_return dX6_findPowers_72 rfl
noncomputable def b_X6_findPowers_25 (F_X0_multiplied : KF) (J : List KC) : KC := o_aload 0 <| o_get 6 10 <| o_iload 1 <| o_push 6 <| o_bin n_mul <| o_iload 3 <| o_bin n_add <| o_aload 0 <| o_get 6 3 <| o_iload 2 <| o_iald <| o_iast <| o_aload 0 <| o_get 6 0 <| o_iload 2 <| o_aload 0 <| o_get 6 6 <| o_iload 1 <| o_iald <| o_cV1 3 0 F_X0_multiplied <| o_istore 2 <| o_aload 0 <| o_get 6 5 <| o_iload 1 <| o_iload 3 <| o_push 1 <| o_bin n_add <| o_iast <| o_iinc 3 1 <| k_jmp J 0
set_option maxRecDepth 100000 in
theorem s_X6_findPowers_25 {l : Launch} {D : va_G} {cI cS cM : ClassId} {F_X0_multiplied : KF} (h_X0_multiplied : k_snd l D cI cS cM yX0_multiplied cX0_multiplied 4 (some .int) 3 3 F_X0_multiplied) {J : List KC} (hJ : ∀ (i pc d : Nat), ([(11, 0)] : List (Nat × Nat))[i]? = some (pc, d) → KS l D cI cS cM yX6_findPowers.cls yX6_findPowers.name cX6_findPowers 4 none (k_rm 4 0 0) false pc d (k_jmp J i)) : KS l D cI cS cM yX6_findPowers.cls yX6_findPowers.name cX6_findPowers 4 none (k_rm 4 0 0) false 25 0 (b_X6_findPowers_25 F_X0_multiplied J) :=
  s_aload_n dX6_findPowers_25 rfl <|
  s_get dX6_findPowers_26 (ci := 6) (sl := 10) (Cn := RX6) (Tf := TX6) (N := 11) rfl (by decide) kiX6 kw_5_0 <|
  s_iload_n dX6_findPowers_29 rfl <|
  s_push2 dX6_findPowers_30 (by decide) (by decide) <|
  s_imul dX6_findPowers_32 <|
  s_iload_n dX6_findPowers_33 rfl <|
  s_iadd dX6_findPowers_34 <|
  s_aload_n dX6_findPowers_35 rfl <|
  s_get dX6_findPowers_36 (ci := 6) (sl := 3) (Cn := RX6) (Tf := TX6) (N := 11) rfl (by decide) kiX6 kw_4_17 <|
  s_iload_n dX6_findPowers_39 rfl <|
  s_iald dX6_findPowers_40 <|
  s_iast dX6_findPowers_41 <|
  s_aload_n dX6_findPowers_42 rfl <|
  s_get dX6_findPowers_43 (ci := 6) (sl := 0) (Cn := RX6) (Tf := TX6) (N := 11) rfl (by decide) kiX6 kw_4_14 <|
  s_iload_n dX6_findPowers_46 rfl <|
  s_aload_n dX6_findPowers_47 rfl <|
  s_get dX6_findPowers_48 (ci := 6) (sl := 6) (Cn := RX6) (Tf := TX6) (N := 11) rfl (by decide) kiX6 kw_4_20 <|
  s_iload_n dX6_findPowers_51 rfl <|
  s_iald dX6_findPowers_52 <|
  s_callV1 dX6_findPowers_53 kw_15_17 kw_15_18 kw_15_19 (ci := 0) rfl ok_X0_multiplied (by decide) (by decide) h_X0_multiplied (by decide) <|
  s_istore_n dX6_findPowers_56 rfl (by decide) <|
  s_aload_n dX6_findPowers_57 rfl <|
  s_get dX6_findPowers_58 (ci := 6) (sl := 5) (Cn := RX6) (Tf := TX6) (N := 11) rfl (by decide) kiX6 kw_4_19 <|
  s_iload_n dX6_findPowers_61 rfl <|
  s_iload_n dX6_findPowers_62 rfl <|
  s_push1 dX6_findPowers_63 (by decide) (by decide) <|
  s_iadd dX6_findPowers_64 <|
  s_iast dX6_findPowers_65 <|
  s_iinc dX6_findPowers_66 (by decide) (by decide) <|
  s_goto dX6_findPowers_69 (by decide) (hJ 0 _ _ rfl)
noncomputable def b_X6_findPowers_21 (F_X0_multiplied : KF) (J : List KC) : KC := o_iload 2 <| o_c1 g_eq (b_X6_findPowers_72 F_X0_multiplied J) (b_X6_findPowers_25 F_X0_multiplied J)
set_option maxRecDepth 100000 in
theorem s_X6_findPowers_21 {l : Launch} {D : va_G} {cI cS cM : ClassId} {F_X0_multiplied : KF} (h_X0_multiplied : k_snd l D cI cS cM yX0_multiplied cX0_multiplied 4 (some .int) 3 3 F_X0_multiplied) {J : List KC} (hJ : ∀ (i pc d : Nat), ([(11, 0)] : List (Nat × Nat))[i]? = some (pc, d) → KS l D cI cS cM yX6_findPowers.cls yX6_findPowers.name cX6_findPowers 4 none (k_rm 4 0 0) false pc d (k_jmp J i)) : KS l D cI cS cM yX6_findPowers.cls yX6_findPowers.name cX6_findPowers 4 none (k_rm 4 0 0) false 21 0 (b_X6_findPowers_21 F_X0_multiplied J) :=
  s_iload_n dX6_findPowers_21 rfl <|
  s_if_eq dX6_findPowers_22 (by decide) (s_X6_findPowers_72 h_X0_multiplied hJ) (s_X6_findPowers_25 h_X0_multiplied hJ)
noncomputable def b_X6_findPowers_17 (F_X0_multiplied : KF) (J : List KC) : KC := o_iload 3 <| o_c1 g_eq (b_X6_findPowers_25 F_X0_multiplied J) (b_X6_findPowers_21 F_X0_multiplied J)
set_option maxRecDepth 100000 in
theorem s_X6_findPowers_17 {l : Launch} {D : va_G} {cI cS cM : ClassId} {F_X0_multiplied : KF} (h_X0_multiplied : k_snd l D cI cS cM yX0_multiplied cX0_multiplied 4 (some .int) 3 3 F_X0_multiplied) {J : List KC} (hJ : ∀ (i pc d : Nat), ([(11, 0)] : List (Nat × Nat))[i]? = some (pc, d) → KS l D cI cS cM yX6_findPowers.cls yX6_findPowers.name cX6_findPowers 4 none (k_rm 4 0 0) false pc d (k_jmp J i)) : KS l D cI cS cM yX6_findPowers.cls yX6_findPowers.name cX6_findPowers 4 none (k_rm 4 0 0) false 17 0 (b_X6_findPowers_17 F_X0_multiplied J) :=
  s_iload_n dX6_findPowers_17 rfl <|
  s_if_eq dX6_findPowers_18 (by decide) (s_X6_findPowers_25 h_X0_multiplied hJ) (s_X6_findPowers_21 h_X0_multiplied hJ)
noncomputable def b_X6_findPowers_11 (F_X0_multiplied : KF) (J : List KC) : KC := o_iload 3 <| o_push 6 <| o_c2 s_lt (b_X6_findPowers_17 F_X0_multiplied J) (b_X6_findPowers_72 F_X0_multiplied J)
set_option maxRecDepth 100000 in
theorem s_X6_findPowers_11 {l : Launch} {D : va_G} {cI cS cM : ClassId} {F_X0_multiplied : KF} (h_X0_multiplied : k_snd l D cI cS cM yX0_multiplied cX0_multiplied 4 (some .int) 3 3 F_X0_multiplied) {J : List KC} (hJ : ∀ (i pc d : Nat), ([(11, 0)] : List (Nat × Nat))[i]? = some (pc, d) → KS l D cI cS cM yX6_findPowers.cls yX6_findPowers.name cX6_findPowers 4 none (k_rm 4 0 0) false pc d (k_jmp J i)) : KS l D cI cS cM yX6_findPowers.cls yX6_findPowers.name cX6_findPowers 4 none (k_rm 4 0 0) false 11 0 (b_X6_findPowers_11 F_X0_multiplied J) :=
  s_iload_n dX6_findPowers_11 rfl <|
  s_push2 dX6_findPowers_12 (by decide) (by decide) <|
  s_icmp_ge dX6_findPowers_14 (by decide) (s_X6_findPowers_72 h_X0_multiplied hJ) (s_X6_findPowers_17 h_X0_multiplied hJ)
noncomputable def b_X6_findPowers_0 (F_X0_multiplied : KF) (J : List KC) : KC := o_push 0 <| o_istore 2 <| o_aload 0 <| o_get 6 5 <| o_iload 1 <| o_push 0 <| o_iast <| o_push 0 <| o_istore 3 <| b_X6_findPowers_11 F_X0_multiplied J
set_option maxRecDepth 100000 in
theorem s_X6_findPowers_0 {l : Launch} {D : va_G} {cI cS cM : ClassId} {F_X0_multiplied : KF} (h_X0_multiplied : k_snd l D cI cS cM yX0_multiplied cX0_multiplied 4 (some .int) 3 3 F_X0_multiplied) {J : List KC} (hJ : ∀ (i pc d : Nat), ([(11, 0)] : List (Nat × Nat))[i]? = some (pc, d) → KS l D cI cS cM yX6_findPowers.cls yX6_findPowers.name cX6_findPowers 4 none (k_rm 4 0 0) false pc d (k_jmp J i)) : KS l D cI cS cM yX6_findPowers.cls yX6_findPowers.name cX6_findPowers 4 none (k_rm 4 0 0) false 0 0 (b_X6_findPowers_0 F_X0_multiplied J) :=
  s_push1 dX6_findPowers_0 (by decide) (by decide) <|
  s_istore_n dX6_findPowers_1 rfl (by decide) <|
  s_aload_n dX6_findPowers_2 rfl <|
  s_get dX6_findPowers_3 (ci := 6) (sl := 5) (Cn := RX6) (Tf := TX6) (N := 11) rfl (by decide) kiX6 kw_4_19 <|
  s_iload_n dX6_findPowers_6 rfl <|
  s_push1 dX6_findPowers_7 (by decide) (by decide) <|
  s_iast dX6_findPowers_8 <|
  s_push1 dX6_findPowers_9 (by decide) (by decide) <|
  s_istore_n dX6_findPowers_10 rfl (by decide) <|
  s_X6_findPowers_11 h_X0_multiplied hJ
noncomputable def j_X6_findPowers (F_X0_multiplied : KF) (J : List KC) : List KC := [b_X6_findPowers_11 F_X0_multiplied J]
noncomputable def m_X6_findPowers (F_X0_multiplied : KF) (n : Nat) : KF := k_fun [k_u, k_u] (b_X6_findPowers_0 F_X0_multiplied (k_loop (j_X6_findPowers F_X0_multiplied) n))
theorem r_X6_findPowers {l : Launch} {D : va_G} {cI cS cM : ClassId} {F_X0_multiplied : KF} (h_X0_multiplied : k_snd l D cI cS cM yX0_multiplied cX0_multiplied 4 (some .int) 3 3 F_X0_multiplied) (n : Nat) : k_snd l D cI cS cM yX6_findPowers cX6_findPowers 4 none 4 2 (m_X6_findPowers F_X0_multiplied n) :=
  k_method (by decide +kernel) (by simp) rfl (s_X6_findPowers_0 h_X0_multiplied (k_loops (hs := [(11, 0)]) (fun J hJ i pc d h => match i, h with | 0, h => by cases h; exact s_X6_findPowers_11 h_X0_multiplied hJ | _ + 1, h => by simp at h) n))
noncomputable def b_X6_gather_57 (F_X0_movedBy : KF) (J : List KC) : KC := o_iload 3 <| o_iret
set_option maxRecDepth 100000 in
theorem s_X6_gather_57 {l : Launch} {D : va_G} {cI cS cM : ClassId} {F_X0_movedBy : KF} (h_X0_movedBy : k_snd l D cI cS cM yX0_movedBy cX0_movedBy 6 (some .int) 3 3 F_X0_movedBy) {J : List KC} (hJ : ∀ (i pc d : Nat), ([(5, 0)] : List (Nat × Nat))[i]? = some (pc, d) → KS l D cI cS cM yX6_gather.cls yX6_gather.name cX6_gather 6 (some .int) (k_rm 4 0 0) false pc d (k_jmp J i)) : KS l D cI cS cM yX6_gather.cls yX6_gather.name cX6_gather 6 (some .int) (k_rm 4 0 0) false 57 0 (b_X6_gather_57 F_X0_movedBy J) :=
  s_iload_n dX6_gather_57 rfl <|
  s_ireturn dX6_gather_58 rfl
noncomputable def b_X6_gather_51 (F_X0_movedBy : KF) (J : List KC) : KC := o_iinc 4 1 <| k_jmp J 0
set_option maxRecDepth 100000 in
theorem s_X6_gather_51 {l : Launch} {D : va_G} {cI cS cM : ClassId} {F_X0_movedBy : KF} (h_X0_movedBy : k_snd l D cI cS cM yX0_movedBy cX0_movedBy 6 (some .int) 3 3 F_X0_movedBy) {J : List KC} (hJ : ∀ (i pc d : Nat), ([(5, 0)] : List (Nat × Nat))[i]? = some (pc, d) → KS l D cI cS cM yX6_gather.cls yX6_gather.name cX6_gather 6 (some .int) (k_rm 4 0 0) false pc d (k_jmp J i)) : KS l D cI cS cM yX6_gather.cls yX6_gather.name cX6_gather 6 (some .int) (k_rm 4 0 0) false 51 0 (b_X6_gather_51 F_X0_movedBy J) :=
  s_iinc dX6_gather_51 (by decide) (by decide) <|
  s_goto dX6_gather_54 (by decide) (hJ 0 _ _ rfl)
noncomputable def b_X6_gather_40 (F_X0_movedBy : KF) (J : List KC) : KC := o_aload 0 <| o_get 6 3 <| o_iload 5 <| o_iload 2 <| o_iast <| o_iinc 3 1 <| b_X6_gather_51 F_X0_movedBy J
set_option maxRecDepth 100000 in
theorem s_X6_gather_40 {l : Launch} {D : va_G} {cI cS cM : ClassId} {F_X0_movedBy : KF} (h_X0_movedBy : k_snd l D cI cS cM yX0_movedBy cX0_movedBy 6 (some .int) 3 3 F_X0_movedBy) {J : List KC} (hJ : ∀ (i pc d : Nat), ([(5, 0)] : List (Nat × Nat))[i]? = some (pc, d) → KS l D cI cS cM yX6_gather.cls yX6_gather.name cX6_gather 6 (some .int) (k_rm 4 0 0) false pc d (k_jmp J i)) : KS l D cI cS cM yX6_gather.cls yX6_gather.name cX6_gather 6 (some .int) (k_rm 4 0 0) false 40 0 (b_X6_gather_40 F_X0_movedBy J) :=
  s_aload_n dX6_gather_40 rfl <|
  s_get dX6_gather_41 (ci := 6) (sl := 3) (Cn := RX6) (Tf := TX6) (N := 11) rfl (by decide) kiX6 kw_4_17 <|
  s_iload dX6_gather_44 <|
  s_iload_n dX6_gather_46 rfl <|
  s_iast dX6_gather_47 <|
  s_iinc dX6_gather_48 (by decide) (by decide) <|
  s_X6_gather_51 h_X0_movedBy hJ
noncomputable def b_X6_gather_17 (F_X0_movedBy : KF) (J : List KC) : KC := o_aload 0 <| o_get 6 0 <| o_iload 4 <| o_iload 1 <| o_cV1 3 0 F_X0_movedBy <| o_istore 5 <| o_aload 0 <| o_get 6 3 <| o_iload 5 <| o_iald <| o_push 4294967295 <| o_c2 Nat.beq (b_X6_gather_40 F_X0_movedBy J) (b_X6_gather_51 F_X0_movedBy J)
set_option maxRecDepth 100000 in
theorem s_X6_gather_17 {l : Launch} {D : va_G} {cI cS cM : ClassId} {F_X0_movedBy : KF} (h_X0_movedBy : k_snd l D cI cS cM yX0_movedBy cX0_movedBy 6 (some .int) 3 3 F_X0_movedBy) {J : List KC} (hJ : ∀ (i pc d : Nat), ([(5, 0)] : List (Nat × Nat))[i]? = some (pc, d) → KS l D cI cS cM yX6_gather.cls yX6_gather.name cX6_gather 6 (some .int) (k_rm 4 0 0) false pc d (k_jmp J i)) : KS l D cI cS cM yX6_gather.cls yX6_gather.name cX6_gather 6 (some .int) (k_rm 4 0 0) false 17 0 (b_X6_gather_17 F_X0_movedBy J) :=
  s_aload_n dX6_gather_17 rfl <|
  s_get dX6_gather_18 (ci := 6) (sl := 0) (Cn := RX6) (Tf := TX6) (N := 11) rfl (by decide) kiX6 kw_4_14 <|
  s_iload dX6_gather_21 <|
  s_iload_n dX6_gather_23 rfl <|
  s_callV1 dX6_gather_24 kw_15_0 kw_15_1 kw_15_2 (ci := 0) rfl ok_X0_movedBy (by decide) (by decide) h_X0_movedBy (by decide) <|
  s_istore dX6_gather_27 (by decide) <|
  s_aload_n dX6_gather_29 rfl <|
  s_get dX6_gather_30 (ci := 6) (sl := 3) (Cn := RX6) (Tf := TX6) (N := 11) rfl (by decide) kiX6 kw_4_17 <|
  s_iload dX6_gather_33 <|
  s_iald dX6_gather_35 <|
  s_push1 dX6_gather_36 (by decide) (by decide) <|
  s_icmp_ne dX6_gather_37 (by decide) (s_X6_gather_51 h_X0_movedBy hJ) (s_X6_gather_40 h_X0_movedBy hJ)
noncomputable def b_X6_gather_5 (F_X0_movedBy : KF) (J : List KC) : KC := o_iload 4 <| o_aload 0 <| o_get 6 0 <| o_get 0 0 <| o_c2 s_lt (b_X6_gather_17 F_X0_movedBy J) (b_X6_gather_57 F_X0_movedBy J)
set_option maxRecDepth 100000 in
theorem s_X6_gather_5 {l : Launch} {D : va_G} {cI cS cM : ClassId} {F_X0_movedBy : KF} (h_X0_movedBy : k_snd l D cI cS cM yX0_movedBy cX0_movedBy 6 (some .int) 3 3 F_X0_movedBy) {J : List KC} (hJ : ∀ (i pc d : Nat), ([(5, 0)] : List (Nat × Nat))[i]? = some (pc, d) → KS l D cI cS cM yX6_gather.cls yX6_gather.name cX6_gather 6 (some .int) (k_rm 4 0 0) false pc d (k_jmp J i)) : KS l D cI cS cM yX6_gather.cls yX6_gather.name cX6_gather 6 (some .int) (k_rm 4 0 0) false 5 0 (b_X6_gather_5 F_X0_movedBy J) :=
  s_iload dX6_gather_5 <|
  s_aload_n dX6_gather_7 rfl <|
  s_get dX6_gather_8 (ci := 6) (sl := 0) (Cn := RX6) (Tf := TX6) (N := 11) rfl (by decide) kiX6 kw_4_14 <|
  s_get dX6_gather_11 (ci := 0) (sl := 0) (Cn := RX0) (Tf := TX0) (N := 9) rfl (by decide) kiX0 kw_14_18 <|
  s_icmp_ge dX6_gather_14 (by decide) (s_X6_gather_57 h_X0_movedBy hJ) (s_X6_gather_17 h_X0_movedBy hJ)
noncomputable def b_X6_gather_0 (F_X0_movedBy : KF) (J : List KC) : KC := o_push 0 <| o_istore 3 <| o_push 0 <| o_istore 4 <| b_X6_gather_5 F_X0_movedBy J
set_option maxRecDepth 100000 in
theorem s_X6_gather_0 {l : Launch} {D : va_G} {cI cS cM : ClassId} {F_X0_movedBy : KF} (h_X0_movedBy : k_snd l D cI cS cM yX0_movedBy cX0_movedBy 6 (some .int) 3 3 F_X0_movedBy) {J : List KC} (hJ : ∀ (i pc d : Nat), ([(5, 0)] : List (Nat × Nat))[i]? = some (pc, d) → KS l D cI cS cM yX6_gather.cls yX6_gather.name cX6_gather 6 (some .int) (k_rm 4 0 0) false pc d (k_jmp J i)) : KS l D cI cS cM yX6_gather.cls yX6_gather.name cX6_gather 6 (some .int) (k_rm 4 0 0) false 0 0 (b_X6_gather_0 F_X0_movedBy J) :=
  s_push1 dX6_gather_0 (by decide) (by decide) <|
  s_istore_n dX6_gather_1 rfl (by decide) <|
  s_push1 dX6_gather_2 (by decide) (by decide) <|
  s_istore dX6_gather_3 (by decide) <|
  s_X6_gather_5 h_X0_movedBy hJ
noncomputable def j_X6_gather (F_X0_movedBy : KF) (J : List KC) : List KC := [b_X6_gather_5 F_X0_movedBy J]
noncomputable def m_X6_gather (F_X0_movedBy : KF) (n : Nat) : KF := k_fun [k_u, k_u, k_u] (b_X6_gather_0 F_X0_movedBy (k_loop (j_X6_gather F_X0_movedBy) n))
theorem r_X6_gather {l : Launch} {D : va_G} {cI cS cM : ClassId} {F_X0_movedBy : KF} (h_X0_movedBy : k_snd l D cI cS cM yX0_movedBy cX0_movedBy 6 (some .int) 3 3 F_X0_movedBy) (n : Nat) : k_snd l D cI cS cM yX6_gather cX6_gather 6 (some .int) 4 3 (m_X6_gather F_X0_movedBy n) :=
  k_method (by decide +kernel) (by simp) rfl (s_X6_gather_0 h_X0_movedBy (k_loops (hs := [(5, 0)]) (fun J hJ i pc d h => match i, h with | 0, h => by cases h; exact s_X6_gather_5 h_X0_movedBy hJ | _ + 1, h => by simp at h) n))
noncomputable def b_X6_describe_87 (F_X0_pointsLeft F_X6_findPowers F_X6_leastShared F_X6_countPairs : KF) (J : List KC) : KC := o_aload 0 <| o_cV0 1 6 F_X6_countPairs <| o_ret
set_option maxRecDepth 100000 in
theorem s_X6_describe_87 {l : Launch} {D : va_G} {cI cS cM : ClassId} {F_X0_pointsLeft F_X6_findPowers F_X6_leastShared F_X6_countPairs : KF} (h_X0_pointsLeft : k_snd l D cI cS cM yX0_pointsLeft cX0_pointsLeft 4 (some .int) 1 2 F_X0_pointsLeft) (h_X6_findPowers : k_snd l D cI cS cM yX6_findPowers cX6_findPowers 4 none 4 2 F_X6_findPowers) (h_X6_leastShared : k_snd l D cI cS cM yX6_leastShared cX6_leastShared 4 (some .int) 1 2 F_X6_leastShared) (h_X6_countPairs : k_snd l D cI cS cM yX6_countPairs cX6_countPairs 4 none 4 1 F_X6_countPairs) {J : List KC} (hJ : ∀ (i pc d : Nat), ([(7, 0)] : List (Nat × Nat))[i]? = some (pc, d) → KS l D cI cS cM yX6_describe.cls yX6_describe.name cX6_describe 2 none (k_rm 5 0 0) false pc d (k_jmp J i)) : KS l D cI cS cM yX6_describe.cls yX6_describe.name cX6_describe 2 none (k_rm 5 0 0) false 87 0 (b_X6_describe_87 F_X0_pointsLeft F_X6_findPowers F_X6_leastShared F_X6_countPairs J) :=
  s_aload_n dX6_describe_87 rfl <|
  s_callV0 dX6_describe_88 kw_16_0 kw_16_1 kw_16_2 (ci := 6) rfl ok_X6_countPairs (by decide) (by decide) h_X6_countPairs (by decide) <|
  s_return dX6_describe_91 rfl
noncomputable def b_X6_describe_15 (F_X0_pointsLeft F_X6_findPowers F_X6_leastShared F_X6_countPairs : KF) (J : List KC) : KC := o_aload 0 <| o_get 6 7 <| o_iload 1 <| o_aload 0 <| o_get 6 3 <| o_aload 0 <| o_get 6 0 <| o_get 0 2 <| o_aload 0 <| o_get 6 6 <| o_iload 1 <| o_iald <| o_iald <| o_iald <| o_iast <| o_aload 0 <| o_get 6 8 <| o_iload 1 <| o_aload 0 <| o_get 6 0 <| o_aload 0 <| o_get 6 6 <| o_iload 1 <| o_iald <| o_cV1 2 0 F_X0_pointsLeft <| o_iast <| o_aload 0 <| o_iload 1 <| o_cV0 2 6 F_X6_findPowers <| o_aload 0 <| o_aload 0 <| o_get 6 2 <| o_aload 0 <| o_get 6 5 <| o_iload 1 <| o_iald <| o_cS1 2 F_X6_leastShared <| o_puti 6 2 <| o_iinc 1 1 <| k_jmp J 0
set_option maxRecDepth 100000 in
theorem s_X6_describe_15 {l : Launch} {D : va_G} {cI cS cM : ClassId} {F_X0_pointsLeft F_X6_findPowers F_X6_leastShared F_X6_countPairs : KF} (h_X0_pointsLeft : k_snd l D cI cS cM yX0_pointsLeft cX0_pointsLeft 4 (some .int) 1 2 F_X0_pointsLeft) (h_X6_findPowers : k_snd l D cI cS cM yX6_findPowers cX6_findPowers 4 none 4 2 F_X6_findPowers) (h_X6_leastShared : k_snd l D cI cS cM yX6_leastShared cX6_leastShared 4 (some .int) 1 2 F_X6_leastShared) (h_X6_countPairs : k_snd l D cI cS cM yX6_countPairs cX6_countPairs 4 none 4 1 F_X6_countPairs) {J : List KC} (hJ : ∀ (i pc d : Nat), ([(7, 0)] : List (Nat × Nat))[i]? = some (pc, d) → KS l D cI cS cM yX6_describe.cls yX6_describe.name cX6_describe 2 none (k_rm 5 0 0) false pc d (k_jmp J i)) : KS l D cI cS cM yX6_describe.cls yX6_describe.name cX6_describe 2 none (k_rm 5 0 0) false 15 0 (b_X6_describe_15 F_X0_pointsLeft F_X6_findPowers F_X6_leastShared F_X6_countPairs J) :=
  s_aload_n dX6_describe_15 rfl <|
  s_get dX6_describe_16 (ci := 6) (sl := 7) (Cn := RX6) (Tf := TX6) (N := 11) rfl (by decide) kiX6 kw_4_21 <|
  s_iload_n dX6_describe_19 rfl <|
  s_aload_n dX6_describe_20 rfl <|
  s_get dX6_describe_21 (ci := 6) (sl := 3) (Cn := RX6) (Tf := TX6) (N := 11) rfl (by decide) kiX6 kw_4_17 <|
  s_aload_n dX6_describe_24 rfl <|
  s_get dX6_describe_25 (ci := 6) (sl := 0) (Cn := RX6) (Tf := TX6) (N := 11) rfl (by decide) kiX6 kw_4_14 <|
  s_get dX6_describe_28 (ci := 0) (sl := 2) (Cn := RX0) (Tf := TX0) (N := 9) rfl (by decide) kiX0 kw_15_8 <|
  s_aload_n dX6_describe_31 rfl <|
  s_get dX6_describe_32 (ci := 6) (sl := 6) (Cn := RX6) (Tf := TX6) (N := 11) rfl (by decide) kiX6 kw_4_20 <|
  s_iload_n dX6_describe_35 rfl <|
  s_iald dX6_describe_36 <|
  s_iald dX6_describe_37 <|
  s_iald dX6_describe_38 <|
  s_iast dX6_describe_39 <|
  s_aload_n dX6_describe_40 rfl <|
  s_get dX6_describe_41 (ci := 6) (sl := 8) (Cn := RX6) (Tf := TX6) (N := 11) rfl (by decide) kiX6 kw_4_22 <|
  s_iload_n dX6_describe_44 rfl <|
  s_aload_n dX6_describe_45 rfl <|
  s_get dX6_describe_46 (ci := 6) (sl := 0) (Cn := RX6) (Tf := TX6) (N := 11) rfl (by decide) kiX6 kw_4_14 <|
  s_aload_n dX6_describe_49 rfl <|
  s_get dX6_describe_50 (ci := 6) (sl := 6) (Cn := RX6) (Tf := TX6) (N := 11) rfl (by decide) kiX6 kw_4_20 <|
  s_iload_n dX6_describe_53 rfl <|
  s_iald dX6_describe_54 <|
  s_callV1 dX6_describe_55 kw_15_9 kw_15_10 kw_15_11 (ci := 0) rfl ok_X0_pointsLeft (by decide) (by decide) h_X0_pointsLeft (by decide) <|
  s_iast dX6_describe_58 <|
  s_aload_n dX6_describe_59 rfl <|
  s_iload_n dX6_describe_60 rfl <|
  s_callV0 dX6_describe_61 kw_15_13 kw_15_14 kw_15_15 (ci := 6) rfl ok_X6_findPowers (by decide) (by decide) h_X6_findPowers (by decide) <|
  s_aload_n dX6_describe_64 rfl <|
  s_aload_n dX6_describe_65 rfl <|
  s_get dX6_describe_66 (ci := 6) (sl := 2) (Cn := RX6) (Tf := TX6) (N := 11) rfl (by decide) kiX6 kw_4_16 <|
  s_aload_n dX6_describe_69 rfl <|
  s_get dX6_describe_70 (ci := 6) (sl := 5) (Cn := RX6) (Tf := TX6) (N := 11) rfl (by decide) kiX6 kw_4_19 <|
  s_iload_n dX6_describe_73 rfl <|
  s_iald dX6_describe_74 <|
  s_callS1 dX6_describe_75 kw_15_21 kw_15_22 ok_X6_leastShared (by decide) (by decide) h_X6_leastShared (by decide) <|
  s_puti dX6_describe_78 (ci := 6) (sl := 2) (Cn := RX6) (Tf := TX6) (N := 11) (tyf := tyX6) rfl (by decide) kiX6 tyX6_ok nmX6 kw_4_16 rfl rfl <|
  s_iinc dX6_describe_81 (by decide) (by decide) <|
  s_goto dX6_describe_84 (by decide) (hJ 0 _ _ rfl)
noncomputable def b_X6_describe_7 (F_X0_pointsLeft F_X6_findPowers F_X6_leastShared F_X6_countPairs : KF) (J : List KC) : KC := o_iload 1 <| o_aload 0 <| o_get 6 1 <| o_c2 s_lt (b_X6_describe_15 F_X0_pointsLeft F_X6_findPowers F_X6_leastShared F_X6_countPairs J) (b_X6_describe_87 F_X0_pointsLeft F_X6_findPowers F_X6_leastShared F_X6_countPairs J)
set_option maxRecDepth 100000 in
theorem s_X6_describe_7 {l : Launch} {D : va_G} {cI cS cM : ClassId} {F_X0_pointsLeft F_X6_findPowers F_X6_leastShared F_X6_countPairs : KF} (h_X0_pointsLeft : k_snd l D cI cS cM yX0_pointsLeft cX0_pointsLeft 4 (some .int) 1 2 F_X0_pointsLeft) (h_X6_findPowers : k_snd l D cI cS cM yX6_findPowers cX6_findPowers 4 none 4 2 F_X6_findPowers) (h_X6_leastShared : k_snd l D cI cS cM yX6_leastShared cX6_leastShared 4 (some .int) 1 2 F_X6_leastShared) (h_X6_countPairs : k_snd l D cI cS cM yX6_countPairs cX6_countPairs 4 none 4 1 F_X6_countPairs) {J : List KC} (hJ : ∀ (i pc d : Nat), ([(7, 0)] : List (Nat × Nat))[i]? = some (pc, d) → KS l D cI cS cM yX6_describe.cls yX6_describe.name cX6_describe 2 none (k_rm 5 0 0) false pc d (k_jmp J i)) : KS l D cI cS cM yX6_describe.cls yX6_describe.name cX6_describe 2 none (k_rm 5 0 0) false 7 0 (b_X6_describe_7 F_X0_pointsLeft F_X6_findPowers F_X6_leastShared F_X6_countPairs J) :=
  s_iload_n dX6_describe_7 rfl <|
  s_aload_n dX6_describe_8 rfl <|
  s_get dX6_describe_9 (ci := 6) (sl := 1) (Cn := RX6) (Tf := TX6) (N := 11) rfl (by decide) kiX6 kw_4_15 <|
  s_icmp_ge dX6_describe_12 (by decide) (s_X6_describe_87 h_X0_pointsLeft h_X6_findPowers h_X6_leastShared h_X6_countPairs hJ) (s_X6_describe_15 h_X0_pointsLeft h_X6_findPowers h_X6_leastShared h_X6_countPairs hJ)
noncomputable def b_X6_describe_0 (F_X0_pointsLeft F_X6_findPowers F_X6_leastShared F_X6_countPairs : KF) (J : List KC) : KC := o_aload 0 <| o_push 1 <| o_puti 6 2 <| o_push 0 <| o_istore 1 <| b_X6_describe_7 F_X0_pointsLeft F_X6_findPowers F_X6_leastShared F_X6_countPairs J
set_option maxRecDepth 100000 in
theorem s_X6_describe_0 {l : Launch} {D : va_G} {cI cS cM : ClassId} {F_X0_pointsLeft F_X6_findPowers F_X6_leastShared F_X6_countPairs : KF} (h_X0_pointsLeft : k_snd l D cI cS cM yX0_pointsLeft cX0_pointsLeft 4 (some .int) 1 2 F_X0_pointsLeft) (h_X6_findPowers : k_snd l D cI cS cM yX6_findPowers cX6_findPowers 4 none 4 2 F_X6_findPowers) (h_X6_leastShared : k_snd l D cI cS cM yX6_leastShared cX6_leastShared 4 (some .int) 1 2 F_X6_leastShared) (h_X6_countPairs : k_snd l D cI cS cM yX6_countPairs cX6_countPairs 4 none 4 1 F_X6_countPairs) {J : List KC} (hJ : ∀ (i pc d : Nat), ([(7, 0)] : List (Nat × Nat))[i]? = some (pc, d) → KS l D cI cS cM yX6_describe.cls yX6_describe.name cX6_describe 2 none (k_rm 5 0 0) false pc d (k_jmp J i)) : KS l D cI cS cM yX6_describe.cls yX6_describe.name cX6_describe 2 none (k_rm 5 0 0) false 0 0 (b_X6_describe_0 F_X0_pointsLeft F_X6_findPowers F_X6_leastShared F_X6_countPairs J) :=
  s_aload_n dX6_describe_0 rfl <|
  s_push1 dX6_describe_1 (by decide) (by decide) <|
  s_puti dX6_describe_2 (ci := 6) (sl := 2) (Cn := RX6) (Tf := TX6) (N := 11) (tyf := tyX6) rfl (by decide) kiX6 tyX6_ok nmX6 kw_4_16 rfl rfl <|
  s_push1 dX6_describe_5 (by decide) (by decide) <|
  s_istore_n dX6_describe_6 rfl (by decide) <|
  s_X6_describe_7 h_X0_pointsLeft h_X6_findPowers h_X6_leastShared h_X6_countPairs hJ
noncomputable def j_X6_describe (F_X0_pointsLeft F_X6_findPowers F_X6_leastShared F_X6_countPairs : KF) (J : List KC) : List KC := [b_X6_describe_7 F_X0_pointsLeft F_X6_findPowers F_X6_leastShared F_X6_countPairs J]
noncomputable def m_X6_describe (F_X0_pointsLeft F_X6_findPowers F_X6_leastShared F_X6_countPairs : KF) (n : Nat) : KF := k_fun [k_u] (b_X6_describe_0 F_X0_pointsLeft F_X6_findPowers F_X6_leastShared F_X6_countPairs (k_loop (j_X6_describe F_X0_pointsLeft F_X6_findPowers F_X6_leastShared F_X6_countPairs) n))
theorem r_X6_describe {l : Launch} {D : va_G} {cI cS cM : ClassId} {F_X0_pointsLeft F_X6_findPowers F_X6_leastShared F_X6_countPairs : KF} (h_X0_pointsLeft : k_snd l D cI cS cM yX0_pointsLeft cX0_pointsLeft 4 (some .int) 1 2 F_X0_pointsLeft) (h_X6_findPowers : k_snd l D cI cS cM yX6_findPowers cX6_findPowers 4 none 4 2 F_X6_findPowers) (h_X6_leastShared : k_snd l D cI cS cM yX6_leastShared cX6_leastShared 4 (some .int) 1 2 F_X6_leastShared) (h_X6_countPairs : k_snd l D cI cS cM yX6_countPairs cX6_countPairs 4 none 4 1 F_X6_countPairs) (n : Nat) : k_snd l D cI cS cM yX6_describe cX6_describe 2 none 5 1 (m_X6_describe F_X0_pointsLeft F_X6_findPowers F_X6_leastShared F_X6_countPairs n) :=
  k_method (by decide +kernel) (by simp) rfl (s_X6_describe_0 h_X0_pointsLeft h_X6_findPowers h_X6_leastShared h_X6_countPairs (k_loops (hs := [(7, 0)]) (fun J hJ i pc d h => match i, h with | 0, h => by cases h; exact s_X6_describe_7 h_X0_pointsLeft h_X6_findPowers h_X6_leastShared h_X6_countPairs hJ | _ + 1, h => by simp at h) n))
noncomputable def b_X6_takeApart_89 (F_J7_fill_53178 F_X6_gather : KF) (J : List KC) : KC := o_ret
set_option maxRecDepth 100000 in
theorem s_X6_takeApart_89 {l : Launch} {D : va_G} {cI cS cM : ClassId} {F_J7_fill_53178 F_X6_gather : KF} (h_J7_fill_53178 : k_snd l D cI cS cM yJ7_fill_53178 cJ7_fill_53178 4 none 1 2 F_J7_fill_53178) (h_X6_gather : k_snd l D cI cS cM yX6_gather cX6_gather 6 (some .int) 4 3 F_X6_gather) {J : List KC} (hJ : ∀ (i pc d : Nat), ([(15, 0)] : List (Nat × Nat))[i]? = some (pc, d) → KS l D cI cS cM yX6_takeApart.cls yX6_takeApart.name cX6_takeApart 2 none (k_rm 5 0 0) false pc d (k_jmp J i)) : KS l D cI cS cM yX6_takeApart.cls yX6_takeApart.name cX6_takeApart 2 none (k_rm 5 0 0) false 89 0 (b_X6_takeApart_89 F_J7_fill_53178 F_X6_gather J) :=
  s_return dX6_takeApart_89 rfl
noncomputable def b_X6_takeApart_83 (F_J7_fill_53178 F_X6_gather : KF) (J : List KC) : KC := o_iinc 1 1 <| k_jmp J 0
set_option maxRecDepth 100000 in
theorem s_X6_takeApart_83 {l : Launch} {D : va_G} {cI cS cM : ClassId} {F_J7_fill_53178 F_X6_gather : KF} (h_J7_fill_53178 : k_snd l D cI cS cM yJ7_fill_53178 cJ7_fill_53178 4 none 1 2 F_J7_fill_53178) (h_X6_gather : k_snd l D cI cS cM yX6_gather cX6_gather 6 (some .int) 4 3 F_X6_gather) {J : List KC} (hJ : ∀ (i pc d : Nat), ([(15, 0)] : List (Nat × Nat))[i]? = some (pc, d) → KS l D cI cS cM yX6_takeApart.cls yX6_takeApart.name cX6_takeApart 2 none (k_rm 5 0 0) false pc d (k_jmp J i)) : KS l D cI cS cM yX6_takeApart.cls yX6_takeApart.name cX6_takeApart 2 none (k_rm 5 0 0) false 83 0 (b_X6_takeApart_83 F_J7_fill_53178 F_X6_gather J) :=
  s_iinc dX6_takeApart_83 (by decide) (by decide) <|
  s_goto dX6_takeApart_86 (by decide) (hJ 0 _ _ rfl)
noncomputable def b_X6_takeApart_45 (F_J7_fill_53178 F_X6_gather : KF) (J : List KC) : KC := o_aload 0 <| o_get 6 6 <| o_aload 0 <| o_get 6 1 <| o_iload 1 <| o_iast <| o_aload 0 <| o_get 6 4 <| o_aload 0 <| o_get 6 1 <| o_aload 0 <| o_iload 1 <| o_aload 0 <| o_get 6 1 <| o_cV1 3 6 F_X6_gather <| o_iast <| o_aload 0 <| o_dup <| o_get 6 1 <| o_push 1 <| o_bin n_add <| o_puti 6 1 <| b_X6_takeApart_83 F_J7_fill_53178 F_X6_gather J
set_option maxRecDepth 100000 in
theorem s_X6_takeApart_45 {l : Launch} {D : va_G} {cI cS cM : ClassId} {F_J7_fill_53178 F_X6_gather : KF} (h_J7_fill_53178 : k_snd l D cI cS cM yJ7_fill_53178 cJ7_fill_53178 4 none 1 2 F_J7_fill_53178) (h_X6_gather : k_snd l D cI cS cM yX6_gather cX6_gather 6 (some .int) 4 3 F_X6_gather) {J : List KC} (hJ : ∀ (i pc d : Nat), ([(15, 0)] : List (Nat × Nat))[i]? = some (pc, d) → KS l D cI cS cM yX6_takeApart.cls yX6_takeApart.name cX6_takeApart 2 none (k_rm 5 0 0) false pc d (k_jmp J i)) : KS l D cI cS cM yX6_takeApart.cls yX6_takeApart.name cX6_takeApart 2 none (k_rm 5 0 0) false 45 0 (b_X6_takeApart_45 F_J7_fill_53178 F_X6_gather J) :=
  s_aload_n dX6_takeApart_45 rfl <|
  s_get dX6_takeApart_46 (ci := 6) (sl := 6) (Cn := RX6) (Tf := TX6) (N := 11) rfl (by decide) kiX6 kw_4_20 <|
  s_aload_n dX6_takeApart_49 rfl <|
  s_get dX6_takeApart_50 (ci := 6) (sl := 1) (Cn := RX6) (Tf := TX6) (N := 11) rfl (by decide) kiX6 kw_4_15 <|
  s_iload_n dX6_takeApart_53 rfl <|
  s_iast dX6_takeApart_54 <|
  s_aload_n dX6_takeApart_55 rfl <|
  s_get dX6_takeApart_56 (ci := 6) (sl := 4) (Cn := RX6) (Tf := TX6) (N := 11) rfl (by decide) kiX6 kw_4_18 <|
  s_aload_n dX6_takeApart_59 rfl <|
  s_get dX6_takeApart_60 (ci := 6) (sl := 1) (Cn := RX6) (Tf := TX6) (N := 11) rfl (by decide) kiX6 kw_4_15 <|
  s_aload_n dX6_takeApart_63 rfl <|
  s_iload_n dX6_takeApart_64 rfl <|
  s_aload_n dX6_takeApart_65 rfl <|
  s_get dX6_takeApart_66 (ci := 6) (sl := 1) (Cn := RX6) (Tf := TX6) (N := 11) rfl (by decide) kiX6 kw_4_15 <|
  s_callV1 dX6_takeApart_69 kw_14_20 kw_14_21 kw_14_22 (ci := 6) rfl ok_X6_gather (by decide) (by decide) h_X6_gather (by decide) <|
  s_iast dX6_takeApart_72 <|
  s_aload_n dX6_takeApart_73 rfl <|
  s_dup dX6_takeApart_74 <|
  s_get dX6_takeApart_75 (ci := 6) (sl := 1) (Cn := RX6) (Tf := TX6) (N := 11) rfl (by decide) kiX6 kw_4_15 <|
  s_push1 dX6_takeApart_78 (by decide) (by decide) <|
  s_iadd dX6_takeApart_79 <|
  s_puti dX6_takeApart_80 (ci := 6) (sl := 1) (Cn := RX6) (Tf := TX6) (N := 11) (tyf := tyX6) rfl (by decide) kiX6 tyX6_ok nmX6 kw_4_15 rfl rfl <|
  s_X6_takeApart_83 h_J7_fill_53178 h_X6_gather hJ
noncomputable def b_X6_takeApart_36 (F_J7_fill_53178 F_X6_gather : KF) (J : List KC) : KC := o_aload 0 <| o_get 6 1 <| o_push 7 <| o_c2 s_lt (b_X6_takeApart_45 F_J7_fill_53178 F_X6_gather J) (b_X6_takeApart_83 F_J7_fill_53178 F_X6_gather J)
set_option maxRecDepth 100000 in
theorem s_X6_takeApart_36 {l : Launch} {D : va_G} {cI cS cM : ClassId} {F_J7_fill_53178 F_X6_gather : KF} (h_J7_fill_53178 : k_snd l D cI cS cM yJ7_fill_53178 cJ7_fill_53178 4 none 1 2 F_J7_fill_53178) (h_X6_gather : k_snd l D cI cS cM yX6_gather cX6_gather 6 (some .int) 4 3 F_X6_gather) {J : List KC} (hJ : ∀ (i pc d : Nat), ([(15, 0)] : List (Nat × Nat))[i]? = some (pc, d) → KS l D cI cS cM yX6_takeApart.cls yX6_takeApart.name cX6_takeApart 2 none (k_rm 5 0 0) false pc d (k_jmp J i)) : KS l D cI cS cM yX6_takeApart.cls yX6_takeApart.name cX6_takeApart 2 none (k_rm 5 0 0) false 36 0 (b_X6_takeApart_36 F_J7_fill_53178 F_X6_gather J) :=
  s_aload_n dX6_takeApart_36 rfl <|
  s_get dX6_takeApart_37 (ci := 6) (sl := 1) (Cn := RX6) (Tf := TX6) (N := 11) rfl (by decide) kiX6 kw_4_15 <|
  s_push2 dX6_takeApart_40 (by decide) (by decide) <|
  s_icmp_ge dX6_takeApart_42 (by decide) (s_X6_takeApart_83 h_J7_fill_53178 h_X6_gather hJ) (s_X6_takeApart_45 h_J7_fill_53178 h_X6_gather hJ)
noncomputable def b_X6_takeApart_26 (F_J7_fill_53178 F_X6_gather : KF) (J : List KC) : KC := o_aload 0 <| o_get 6 3 <| o_iload 1 <| o_iald <| o_push 4294967295 <| o_c2 Nat.beq (b_X6_takeApart_36 F_J7_fill_53178 F_X6_gather J) (b_X6_takeApart_83 F_J7_fill_53178 F_X6_gather J)
set_option maxRecDepth 100000 in
theorem s_X6_takeApart_26 {l : Launch} {D : va_G} {cI cS cM : ClassId} {F_J7_fill_53178 F_X6_gather : KF} (h_J7_fill_53178 : k_snd l D cI cS cM yJ7_fill_53178 cJ7_fill_53178 4 none 1 2 F_J7_fill_53178) (h_X6_gather : k_snd l D cI cS cM yX6_gather cX6_gather 6 (some .int) 4 3 F_X6_gather) {J : List KC} (hJ : ∀ (i pc d : Nat), ([(15, 0)] : List (Nat × Nat))[i]? = some (pc, d) → KS l D cI cS cM yX6_takeApart.cls yX6_takeApart.name cX6_takeApart 2 none (k_rm 5 0 0) false pc d (k_jmp J i)) : KS l D cI cS cM yX6_takeApart.cls yX6_takeApart.name cX6_takeApart 2 none (k_rm 5 0 0) false 26 0 (b_X6_takeApart_26 F_J7_fill_53178 F_X6_gather J) :=
  s_aload_n dX6_takeApart_26 rfl <|
  s_get dX6_takeApart_27 (ci := 6) (sl := 3) (Cn := RX6) (Tf := TX6) (N := 11) rfl (by decide) kiX6 kw_4_17 <|
  s_iload_n dX6_takeApart_30 rfl <|
  s_iald dX6_takeApart_31 <|
  s_push1 dX6_takeApart_32 (by decide) (by decide) <|
  s_icmp_ne dX6_takeApart_33 (by decide) (s_X6_takeApart_83 h_J7_fill_53178 h_X6_gather hJ) (s_X6_takeApart_36 h_J7_fill_53178 h_X6_gather hJ)
noncomputable def b_X6_takeApart_15 (F_J7_fill_53178 F_X6_gather : KF) (J : List KC) : KC := o_iload 1 <| o_aload 0 <| o_get 6 0 <| o_get 0 0 <| o_c2 s_lt (b_X6_takeApart_26 F_J7_fill_53178 F_X6_gather J) (b_X6_takeApart_89 F_J7_fill_53178 F_X6_gather J)
set_option maxRecDepth 100000 in
theorem s_X6_takeApart_15 {l : Launch} {D : va_G} {cI cS cM : ClassId} {F_J7_fill_53178 F_X6_gather : KF} (h_J7_fill_53178 : k_snd l D cI cS cM yJ7_fill_53178 cJ7_fill_53178 4 none 1 2 F_J7_fill_53178) (h_X6_gather : k_snd l D cI cS cM yX6_gather cX6_gather 6 (some .int) 4 3 F_X6_gather) {J : List KC} (hJ : ∀ (i pc d : Nat), ([(15, 0)] : List (Nat × Nat))[i]? = some (pc, d) → KS l D cI cS cM yX6_takeApart.cls yX6_takeApart.name cX6_takeApart 2 none (k_rm 5 0 0) false pc d (k_jmp J i)) : KS l D cI cS cM yX6_takeApart.cls yX6_takeApart.name cX6_takeApart 2 none (k_rm 5 0 0) false 15 0 (b_X6_takeApart_15 F_J7_fill_53178 F_X6_gather J) :=
  s_iload_n dX6_takeApart_15 rfl <|
  s_aload_n dX6_takeApart_16 rfl <|
  s_get dX6_takeApart_17 (ci := 6) (sl := 0) (Cn := RX6) (Tf := TX6) (N := 11) rfl (by decide) kiX6 kw_4_14 <|
  s_get dX6_takeApart_20 (ci := 0) (sl := 0) (Cn := RX0) (Tf := TX0) (N := 9) rfl (by decide) kiX0 kw_14_18 <|
  s_icmp_ge dX6_takeApart_23 (by decide) (s_X6_takeApart_89 h_J7_fill_53178 h_X6_gather hJ) (s_X6_takeApart_26 h_J7_fill_53178 h_X6_gather hJ)
noncomputable def b_X6_takeApart_0 (F_J7_fill_53178 F_X6_gather : KF) (J : List KC) : KC := o_aload 0 <| o_get 6 3 <| o_push 4294967295 <| o_cS0 2 F_J7_fill_53178 <| o_aload 0 <| o_push 0 <| o_puti 6 1 <| o_push 0 <| o_istore 1 <| b_X6_takeApart_15 F_J7_fill_53178 F_X6_gather J
set_option maxRecDepth 100000 in
theorem s_X6_takeApart_0 {l : Launch} {D : va_G} {cI cS cM : ClassId} {F_J7_fill_53178 F_X6_gather : KF} (h_J7_fill_53178 : k_snd l D cI cS cM yJ7_fill_53178 cJ7_fill_53178 4 none 1 2 F_J7_fill_53178) (h_X6_gather : k_snd l D cI cS cM yX6_gather cX6_gather 6 (some .int) 4 3 F_X6_gather) {J : List KC} (hJ : ∀ (i pc d : Nat), ([(15, 0)] : List (Nat × Nat))[i]? = some (pc, d) → KS l D cI cS cM yX6_takeApart.cls yX6_takeApart.name cX6_takeApart 2 none (k_rm 5 0 0) false pc d (k_jmp J i)) : KS l D cI cS cM yX6_takeApart.cls yX6_takeApart.name cX6_takeApart 2 none (k_rm 5 0 0) false 0 0 (b_X6_takeApart_0 F_J7_fill_53178 F_X6_gather J) :=
  s_aload_n dX6_takeApart_0 rfl <|
  s_get dX6_takeApart_1 (ci := 6) (sl := 3) (Cn := RX6) (Tf := TX6) (N := 11) rfl (by decide) kiX6 kw_4_17 <|
  s_push1 dX6_takeApart_4 (by decide) (by decide) <|
  s_callS0 dX6_takeApart_5 kw_14_19 kw_13_15 ok_J7_fill_53178 (by decide) (by decide) h_J7_fill_53178 (by decide) <|
  s_aload_n dX6_takeApart_8 rfl <|
  s_push1 dX6_takeApart_9 (by decide) (by decide) <|
  s_puti dX6_takeApart_10 (ci := 6) (sl := 1) (Cn := RX6) (Tf := TX6) (N := 11) (tyf := tyX6) rfl (by decide) kiX6 tyX6_ok nmX6 kw_4_15 rfl rfl <|
  s_push1 dX6_takeApart_13 (by decide) (by decide) <|
  s_istore_n dX6_takeApart_14 rfl (by decide) <|
  s_X6_takeApart_15 h_J7_fill_53178 h_X6_gather hJ
noncomputable def j_X6_takeApart (F_J7_fill_53178 F_X6_gather : KF) (J : List KC) : List KC := [b_X6_takeApart_15 F_J7_fill_53178 F_X6_gather J]
noncomputable def m_X6_takeApart (F_J7_fill_53178 F_X6_gather : KF) (n : Nat) : KF := k_fun [k_u] (b_X6_takeApart_0 F_J7_fill_53178 F_X6_gather (k_loop (j_X6_takeApart F_J7_fill_53178 F_X6_gather) n))
theorem r_X6_takeApart {l : Launch} {D : va_G} {cI cS cM : ClassId} {F_J7_fill_53178 F_X6_gather : KF} (h_J7_fill_53178 : k_snd l D cI cS cM yJ7_fill_53178 cJ7_fill_53178 4 none 1 2 F_J7_fill_53178) (h_X6_gather : k_snd l D cI cS cM yX6_gather cX6_gather 6 (some .int) 4 3 F_X6_gather) (n : Nat) : k_snd l D cI cS cM yX6_takeApart cX6_takeApart 2 none 5 1 (m_X6_takeApart F_J7_fill_53178 F_X6_gather n) :=
  k_method (by decide +kernel) (by simp) rfl (s_X6_takeApart_0 h_J7_fill_53178 h_X6_gather (k_loops (hs := [(15, 0)]) (fun J hJ i pc d h => match i, h with | 0, h => by cases h; exact s_X6_takeApart_15 h_J7_fill_53178 h_X6_gather hJ | _ + 1, h => by simp at h) n))
