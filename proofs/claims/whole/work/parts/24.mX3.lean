noncomputable def b_X3_blindBits_41 (J : List KC) : KC := o_iload 2 <| o_iret
set_option maxRecDepth 100000 in
theorem s_X3_blindBits_41 {l : Launch} {D : va_G} {cI cS cM : ClassId} {J : List KC} (hJ : ∀ (i pc d : Nat), ([(4, 0)] : List (Nat × Nat))[i]? = some (pc, d) → KS l D cI cS cM yX3_blindBits.cls yX3_blindBits.name cX3_blindBits 4 (some .int) (k_rm 1 0 0) false pc d (k_jmp J i)) : KS l D cI cS cM yX3_blindBits.cls yX3_blindBits.name cX3_blindBits 4 (some .int) (k_rm 1 0 0) false 41 0 (b_X3_blindBits_41 J) :=
  s_iload_n dX3_blindBits_41 rfl <|
  s_ireturn dX3_blindBits_42 rfl
noncomputable def b_X3_blindBits_35 (J : List KC) : KC := o_iinc 3 1 <| k_jmp J 0
set_option maxRecDepth 100000 in
theorem s_X3_blindBits_35 {l : Launch} {D : va_G} {cI cS cM : ClassId} {J : List KC} (hJ : ∀ (i pc d : Nat), ([(4, 0)] : List (Nat × Nat))[i]? = some (pc, d) → KS l D cI cS cM yX3_blindBits.cls yX3_blindBits.name cX3_blindBits 4 (some .int) (k_rm 1 0 0) false pc d (k_jmp J i)) : KS l D cI cS cM yX3_blindBits.cls yX3_blindBits.name cX3_blindBits 4 (some .int) (k_rm 1 0 0) false 35 0 (b_X3_blindBits_35 J) :=
  s_iinc dX3_blindBits_35 (by decide) (by decide) <|
  s_goto dX3_blindBits_38 (by decide) (hJ 0 _ _ rfl)
noncomputable def b_X3_blindBits_29 (J : List KC) : KC := o_iload 2 <| o_push 1 <| o_iload 3 <| o_shl <| o_bin n_or <| o_istore 2 <| b_X3_blindBits_35 J
set_option maxRecDepth 100000 in
theorem s_X3_blindBits_29 {l : Launch} {D : va_G} {cI cS cM : ClassId} {J : List KC} (hJ : ∀ (i pc d : Nat), ([(4, 0)] : List (Nat × Nat))[i]? = some (pc, d) → KS l D cI cS cM yX3_blindBits.cls yX3_blindBits.name cX3_blindBits 4 (some .int) (k_rm 1 0 0) false pc d (k_jmp J i)) : KS l D cI cS cM yX3_blindBits.cls yX3_blindBits.name cX3_blindBits 4 (some .int) (k_rm 1 0 0) false 29 0 (b_X3_blindBits_29 J) :=
  s_iload_n dX3_blindBits_29 rfl <|
  s_push1 dX3_blindBits_30 (by decide) (by decide) <|
  s_iload_n dX3_blindBits_31 rfl <|
  s_ishl dX3_blindBits_32 <|
  s_ior dX3_blindBits_33 <|
  s_istore_n dX3_blindBits_34 rfl (by decide) <|
  s_X3_blindBits_35 hJ
noncomputable def b_X3_blindBits_12 (J : List KC) : KC := o_aload 0 <| o_get 3 5 <| o_iload 1 <| o_aald <| o_iload 3 <| o_iald <| o_aload 0 <| o_get 3 3 <| o_iload 1 <| o_iald <| o_c2 Nat.beq (b_X3_blindBits_29 J) (b_X3_blindBits_35 J)
set_option maxRecDepth 100000 in
theorem s_X3_blindBits_12 {l : Launch} {D : va_G} {cI cS cM : ClassId} {J : List KC} (hJ : ∀ (i pc d : Nat), ([(4, 0)] : List (Nat × Nat))[i]? = some (pc, d) → KS l D cI cS cM yX3_blindBits.cls yX3_blindBits.name cX3_blindBits 4 (some .int) (k_rm 1 0 0) false pc d (k_jmp J i)) : KS l D cI cS cM yX3_blindBits.cls yX3_blindBits.name cX3_blindBits 4 (some .int) (k_rm 1 0 0) false 12 0 (b_X3_blindBits_12 J) :=
  s_aload_n dX3_blindBits_12 rfl <|
  s_get dX3_blindBits_13 (ci := 3) (sl := 5) (Cn := RX3) (Tf := TX3) (N := 8) rfl (by decide) kiX3 kw_4_2 <|
  s_iload_n dX3_blindBits_16 rfl <|
  s_aald dX3_blindBits_17 <|
  s_iload_n dX3_blindBits_18 rfl <|
  s_iald dX3_blindBits_19 <|
  s_aload_n dX3_blindBits_20 rfl <|
  s_get dX3_blindBits_21 (ci := 3) (sl := 3) (Cn := RX3) (Tf := TX3) (N := 8) rfl (by decide) kiX3 kw_3_23 <|
  s_iload_n dX3_blindBits_24 rfl <|
  s_iald dX3_blindBits_25 <|
  s_icmp_ne dX3_blindBits_26 (by decide) (s_X3_blindBits_35 hJ) (s_X3_blindBits_29 hJ)
noncomputable def b_X3_blindBits_4 (J : List KC) : KC := o_iload 3 <| o_aload 0 <| o_get 3 2 <| o_c2 s_lt (b_X3_blindBits_12 J) (b_X3_blindBits_41 J)
set_option maxRecDepth 100000 in
theorem s_X3_blindBits_4 {l : Launch} {D : va_G} {cI cS cM : ClassId} {J : List KC} (hJ : ∀ (i pc d : Nat), ([(4, 0)] : List (Nat × Nat))[i]? = some (pc, d) → KS l D cI cS cM yX3_blindBits.cls yX3_blindBits.name cX3_blindBits 4 (some .int) (k_rm 1 0 0) false pc d (k_jmp J i)) : KS l D cI cS cM yX3_blindBits.cls yX3_blindBits.name cX3_blindBits 4 (some .int) (k_rm 1 0 0) false 4 0 (b_X3_blindBits_4 J) :=
  s_iload_n dX3_blindBits_4 rfl <|
  s_aload_n dX3_blindBits_5 rfl <|
  s_get dX3_blindBits_6 (ci := 3) (sl := 2) (Cn := RX3) (Tf := TX3) (N := 8) rfl (by decide) kiX3 kw_3_22 <|
  s_icmp_ge dX3_blindBits_9 (by decide) (s_X3_blindBits_41 hJ) (s_X3_blindBits_12 hJ)
noncomputable def b_X3_blindBits_0 (J : List KC) : KC := o_push 0 <| o_istore 2 <| o_push 0 <| o_istore 3 <| b_X3_blindBits_4 J
set_option maxRecDepth 100000 in
theorem s_X3_blindBits_0 {l : Launch} {D : va_G} {cI cS cM : ClassId} {J : List KC} (hJ : ∀ (i pc d : Nat), ([(4, 0)] : List (Nat × Nat))[i]? = some (pc, d) → KS l D cI cS cM yX3_blindBits.cls yX3_blindBits.name cX3_blindBits 4 (some .int) (k_rm 1 0 0) false pc d (k_jmp J i)) : KS l D cI cS cM yX3_blindBits.cls yX3_blindBits.name cX3_blindBits 4 (some .int) (k_rm 1 0 0) false 0 0 (b_X3_blindBits_0 J) :=
  s_push1 dX3_blindBits_0 (by decide) (by decide) <|
  s_istore_n dX3_blindBits_1 rfl (by decide) <|
  s_push1 dX3_blindBits_2 (by decide) (by decide) <|
  s_istore_n dX3_blindBits_3 rfl (by decide) <|
  s_X3_blindBits_4 hJ
noncomputable def j_X3_blindBits (J : List KC) : List KC := [b_X3_blindBits_4 J]
noncomputable def m_X3_blindBits (n : Nat) : KF := k_fun [k_u, k_u] (b_X3_blindBits_0 (k_loop (j_X3_blindBits) n))
theorem r_X3_blindBits {l : Launch} {D : va_G} {cI cS cM : ClassId} (n : Nat) : k_snd l D cI cS cM yX3_blindBits cX3_blindBits 4 (some .int) 1 2 (m_X3_blindBits n) :=
  k_method (by decide +kernel) (by simp) rfl (s_X3_blindBits_0 (k_loops (hs := [(4, 0)]) (fun J hJ i pc d h => match i, h with | 0, h => by cases h; exact s_X3_blindBits_4 hJ | _ + 1, h => by simp at h) n))
noncomputable def b_X3_countOfDegreeOne_31 (J : List KC) : KC := o_iload 1 <| o_iret
set_option maxRecDepth 100000 in
theorem s_X3_countOfDegreeOne_31 {l : Launch} {D : va_G} {cI cS cM : ClassId} {J : List KC} (hJ : ∀ (i pc d : Nat), ([(4, 0)] : List (Nat × Nat))[i]? = some (pc, d) → KS l D cI cS cM yX3_countOfDegreeOne.cls yX3_countOfDegreeOne.name cX3_countOfDegreeOne 3 (some .int) (k_rm 1 0 0) false pc d (k_jmp J i)) : KS l D cI cS cM yX3_countOfDegreeOne.cls yX3_countOfDegreeOne.name cX3_countOfDegreeOne 3 (some .int) (k_rm 1 0 0) false 31 0 (b_X3_countOfDegreeOne_31 J) :=
  s_iload_n dX3_countOfDegreeOne_31 rfl <|
  s_ireturn dX3_countOfDegreeOne_32 rfl
noncomputable def b_X3_countOfDegreeOne_25 (J : List KC) : KC := o_iinc 2 1 <| k_jmp J 0
set_option maxRecDepth 100000 in
theorem s_X3_countOfDegreeOne_25 {l : Launch} {D : va_G} {cI cS cM : ClassId} {J : List KC} (hJ : ∀ (i pc d : Nat), ([(4, 0)] : List (Nat × Nat))[i]? = some (pc, d) → KS l D cI cS cM yX3_countOfDegreeOne.cls yX3_countOfDegreeOne.name cX3_countOfDegreeOne 3 (some .int) (k_rm 1 0 0) false pc d (k_jmp J i)) : KS l D cI cS cM yX3_countOfDegreeOne.cls yX3_countOfDegreeOne.name cX3_countOfDegreeOne 3 (some .int) (k_rm 1 0 0) false 25 0 (b_X3_countOfDegreeOne_25 J) :=
  s_iinc dX3_countOfDegreeOne_25 (by decide) (by decide) <|
  s_goto dX3_countOfDegreeOne_28 (by decide) (hJ 0 _ _ rfl)
noncomputable def b_X3_countOfDegreeOne_22 (J : List KC) : KC := o_iinc 1 1 <| b_X3_countOfDegreeOne_25 J
set_option maxRecDepth 100000 in
theorem s_X3_countOfDegreeOne_22 {l : Launch} {D : va_G} {cI cS cM : ClassId} {J : List KC} (hJ : ∀ (i pc d : Nat), ([(4, 0)] : List (Nat × Nat))[i]? = some (pc, d) → KS l D cI cS cM yX3_countOfDegreeOne.cls yX3_countOfDegreeOne.name cX3_countOfDegreeOne 3 (some .int) (k_rm 1 0 0) false pc d (k_jmp J i)) : KS l D cI cS cM yX3_countOfDegreeOne.cls yX3_countOfDegreeOne.name cX3_countOfDegreeOne 3 (some .int) (k_rm 1 0 0) false 22 0 (b_X3_countOfDegreeOne_22 J) :=
  s_iinc dX3_countOfDegreeOne_22 (by decide) (by decide) <|
  s_X3_countOfDegreeOne_25 hJ
noncomputable def b_X3_countOfDegreeOne_12 (J : List KC) : KC := o_aload 0 <| o_get 3 3 <| o_iload 2 <| o_iald <| o_push 1 <| o_c2 Nat.beq (b_X3_countOfDegreeOne_22 J) (b_X3_countOfDegreeOne_25 J)
set_option maxRecDepth 100000 in
theorem s_X3_countOfDegreeOne_12 {l : Launch} {D : va_G} {cI cS cM : ClassId} {J : List KC} (hJ : ∀ (i pc d : Nat), ([(4, 0)] : List (Nat × Nat))[i]? = some (pc, d) → KS l D cI cS cM yX3_countOfDegreeOne.cls yX3_countOfDegreeOne.name cX3_countOfDegreeOne 3 (some .int) (k_rm 1 0 0) false pc d (k_jmp J i)) : KS l D cI cS cM yX3_countOfDegreeOne.cls yX3_countOfDegreeOne.name cX3_countOfDegreeOne 3 (some .int) (k_rm 1 0 0) false 12 0 (b_X3_countOfDegreeOne_12 J) :=
  s_aload_n dX3_countOfDegreeOne_12 rfl <|
  s_get dX3_countOfDegreeOne_13 (ci := 3) (sl := 3) (Cn := RX3) (Tf := TX3) (N := 8) rfl (by decide) kiX3 kw_3_23 <|
  s_iload_n dX3_countOfDegreeOne_16 rfl <|
  s_iald dX3_countOfDegreeOne_17 <|
  s_push1 dX3_countOfDegreeOne_18 (by decide) (by decide) <|
  s_icmp_ne dX3_countOfDegreeOne_19 (by decide) (s_X3_countOfDegreeOne_25 hJ) (s_X3_countOfDegreeOne_22 hJ)
noncomputable def b_X3_countOfDegreeOne_4 (J : List KC) : KC := o_iload 2 <| o_aload 0 <| o_get 3 2 <| o_c2 s_lt (b_X3_countOfDegreeOne_12 J) (b_X3_countOfDegreeOne_31 J)
set_option maxRecDepth 100000 in
theorem s_X3_countOfDegreeOne_4 {l : Launch} {D : va_G} {cI cS cM : ClassId} {J : List KC} (hJ : ∀ (i pc d : Nat), ([(4, 0)] : List (Nat × Nat))[i]? = some (pc, d) → KS l D cI cS cM yX3_countOfDegreeOne.cls yX3_countOfDegreeOne.name cX3_countOfDegreeOne 3 (some .int) (k_rm 1 0 0) false pc d (k_jmp J i)) : KS l D cI cS cM yX3_countOfDegreeOne.cls yX3_countOfDegreeOne.name cX3_countOfDegreeOne 3 (some .int) (k_rm 1 0 0) false 4 0 (b_X3_countOfDegreeOne_4 J) :=
  s_iload_n dX3_countOfDegreeOne_4 rfl <|
  s_aload_n dX3_countOfDegreeOne_5 rfl <|
  s_get dX3_countOfDegreeOne_6 (ci := 3) (sl := 2) (Cn := RX3) (Tf := TX3) (N := 8) rfl (by decide) kiX3 kw_3_22 <|
  s_icmp_ge dX3_countOfDegreeOne_9 (by decide) (s_X3_countOfDegreeOne_31 hJ) (s_X3_countOfDegreeOne_12 hJ)
noncomputable def b_X3_countOfDegreeOne_0 (J : List KC) : KC := o_push 0 <| o_istore 1 <| o_push 0 <| o_istore 2 <| b_X3_countOfDegreeOne_4 J
set_option maxRecDepth 100000 in
theorem s_X3_countOfDegreeOne_0 {l : Launch} {D : va_G} {cI cS cM : ClassId} {J : List KC} (hJ : ∀ (i pc d : Nat), ([(4, 0)] : List (Nat × Nat))[i]? = some (pc, d) → KS l D cI cS cM yX3_countOfDegreeOne.cls yX3_countOfDegreeOne.name cX3_countOfDegreeOne 3 (some .int) (k_rm 1 0 0) false pc d (k_jmp J i)) : KS l D cI cS cM yX3_countOfDegreeOne.cls yX3_countOfDegreeOne.name cX3_countOfDegreeOne 3 (some .int) (k_rm 1 0 0) false 0 0 (b_X3_countOfDegreeOne_0 J) :=
  s_push1 dX3_countOfDegreeOne_0 (by decide) (by decide) <|
  s_istore_n dX3_countOfDegreeOne_1 rfl (by decide) <|
  s_push1 dX3_countOfDegreeOne_2 (by decide) (by decide) <|
  s_istore_n dX3_countOfDegreeOne_3 rfl (by decide) <|
  s_X3_countOfDegreeOne_4 hJ
noncomputable def j_X3_countOfDegreeOne (J : List KC) : List KC := [b_X3_countOfDegreeOne_4 J]
noncomputable def m_X3_countOfDegreeOne (n : Nat) : KF := k_fun [k_u, k_u] (b_X3_countOfDegreeOne_0 (k_loop (j_X3_countOfDegreeOne) n))
theorem r_X3_countOfDegreeOne {l : Launch} {D : va_G} {cI cS cM : ClassId} (n : Nat) : k_snd l D cI cS cM yX3_countOfDegreeOne cX3_countOfDegreeOne 3 (some .int) 1 1 (m_X3_countOfDegreeOne n) :=
  k_method (by decide +kernel) (by simp) rfl (s_X3_countOfDegreeOne_0 (k_loops (hs := [(4, 0)]) (fun J hJ i pc d h => match i, h with | 0, h => by cases h; exact s_X3_countOfDegreeOne_4 hJ | _ + 1, h => by simp at h) n))
noncomputable def b_X3_differAt_25 (J : List KC) : KC := o_iload 3 <| o_iret
set_option maxRecDepth 100000 in
theorem s_X3_differAt_25 {l : Launch} {D : va_G} {cI cS cM : ClassId} {J : List KC} (hJ : ∀ (i pc d : Nat), ([(2, 0)] : List (Nat × Nat))[i]? = some (pc, d) → KS l D cI cS cM yX3_differAt.cls yX3_differAt.name cX3_differAt 4 (some .int) (k_rm 1 0 0) false pc d (k_jmp J i)) : KS l D cI cS cM yX3_differAt.cls yX3_differAt.name cX3_differAt 4 (some .int) (k_rm 1 0 0) false 25 0 (b_X3_differAt_25 J) :=
  s_iload_n dX3_differAt_25 rfl <|
  s_ireturn dX3_differAt_26 rfl
noncomputable def b_X3_differAt_19 (J : List KC) : KC := o_iinc 3 1 <| k_jmp J 0
set_option maxRecDepth 100000 in
theorem s_X3_differAt_19 {l : Launch} {D : va_G} {cI cS cM : ClassId} {J : List KC} (hJ : ∀ (i pc d : Nat), ([(2, 0)] : List (Nat × Nat))[i]? = some (pc, d) → KS l D cI cS cM yX3_differAt.cls yX3_differAt.name cX3_differAt 4 (some .int) (k_rm 1 0 0) false pc d (k_jmp J i)) : KS l D cI cS cM yX3_differAt.cls yX3_differAt.name cX3_differAt 4 (some .int) (k_rm 1 0 0) false 19 0 (b_X3_differAt_19 J) :=
  s_iinc dX3_differAt_19 (by decide) (by decide) <|
  s_goto dX3_differAt_22 (by decide) (hJ 0 _ _ rfl)
noncomputable def b_X3_differAt_10 (J : List KC) : KC := o_aload 1 <| o_iload 3 <| o_iald <| o_aload 2 <| o_iload 3 <| o_iald <| o_c2 Nat.beq (b_X3_differAt_19 J) (b_X3_differAt_25 J)
set_option maxRecDepth 100000 in
theorem s_X3_differAt_10 {l : Launch} {D : va_G} {cI cS cM : ClassId} {J : List KC} (hJ : ∀ (i pc d : Nat), ([(2, 0)] : List (Nat × Nat))[i]? = some (pc, d) → KS l D cI cS cM yX3_differAt.cls yX3_differAt.name cX3_differAt 4 (some .int) (k_rm 1 0 0) false pc d (k_jmp J i)) : KS l D cI cS cM yX3_differAt.cls yX3_differAt.name cX3_differAt 4 (some .int) (k_rm 1 0 0) false 10 0 (b_X3_differAt_10 J) :=
  s_aload_n dX3_differAt_10 rfl <|
  s_iload_n dX3_differAt_11 rfl <|
  s_iald dX3_differAt_12 <|
  s_aload_n dX3_differAt_13 rfl <|
  s_iload_n dX3_differAt_14 rfl <|
  s_iald dX3_differAt_15 <|
  s_icmp_ne dX3_differAt_16 (by decide) (s_X3_differAt_25 hJ) (s_X3_differAt_19 hJ)
noncomputable def b_X3_differAt_2 (J : List KC) : KC := o_iload 3 <| o_aload 0 <| o_get 3 2 <| o_c2 s_lt (b_X3_differAt_10 J) (b_X3_differAt_25 J)
set_option maxRecDepth 100000 in
theorem s_X3_differAt_2 {l : Launch} {D : va_G} {cI cS cM : ClassId} {J : List KC} (hJ : ∀ (i pc d : Nat), ([(2, 0)] : List (Nat × Nat))[i]? = some (pc, d) → KS l D cI cS cM yX3_differAt.cls yX3_differAt.name cX3_differAt 4 (some .int) (k_rm 1 0 0) false pc d (k_jmp J i)) : KS l D cI cS cM yX3_differAt.cls yX3_differAt.name cX3_differAt 4 (some .int) (k_rm 1 0 0) false 2 0 (b_X3_differAt_2 J) :=
  s_iload_n dX3_differAt_2 rfl <|
  s_aload_n dX3_differAt_3 rfl <|
  s_get dX3_differAt_4 (ci := 3) (sl := 2) (Cn := RX3) (Tf := TX3) (N := 8) rfl (by decide) kiX3 kw_3_22 <|
  s_icmp_ge dX3_differAt_7 (by decide) (s_X3_differAt_25 hJ) (s_X3_differAt_10 hJ)
noncomputable def b_X3_differAt_0 (J : List KC) : KC := o_push 0 <| o_istore 3 <| b_X3_differAt_2 J
set_option maxRecDepth 100000 in
theorem s_X3_differAt_0 {l : Launch} {D : va_G} {cI cS cM : ClassId} {J : List KC} (hJ : ∀ (i pc d : Nat), ([(2, 0)] : List (Nat × Nat))[i]? = some (pc, d) → KS l D cI cS cM yX3_differAt.cls yX3_differAt.name cX3_differAt 4 (some .int) (k_rm 1 0 0) false pc d (k_jmp J i)) : KS l D cI cS cM yX3_differAt.cls yX3_differAt.name cX3_differAt 4 (some .int) (k_rm 1 0 0) false 0 0 (b_X3_differAt_0 J) :=
  s_push1 dX3_differAt_0 (by decide) (by decide) <|
  s_istore_n dX3_differAt_1 rfl (by decide) <|
  s_X3_differAt_2 hJ
noncomputable def j_X3_differAt (J : List KC) : List KC := [b_X3_differAt_2 J]
noncomputable def m_X3_differAt (n : Nat) : KF := k_fun [k_u] (b_X3_differAt_0 (k_loop (j_X3_differAt) n))
theorem r_X3_differAt {l : Launch} {D : va_G} {cI cS cM : ClassId} (n : Nat) : k_snd l D cI cS cM yX3_differAt cX3_differAt 4 (some .int) 1 3 (m_X3_differAt n) :=
  k_method (by decide +kernel) (by simp) rfl (s_X3_differAt_0 (k_loops (hs := [(2, 0)]) (fun J hJ i pc d h => match i, h with | 0, h => by cases h; exact s_X3_differAt_2 hJ | _ + 1, h => by simp at h) n))
noncomputable def b_X3_exchange_0 : KC := o_aload 0 <| o_get 3 3 <| o_iload 1 <| o_iald <| o_istore 3 <| o_aload 0 <| o_get 3 3 <| o_iload 1 <| o_aload 0 <| o_get 3 3 <| o_iload 2 <| o_iald <| o_iast <| o_aload 0 <| o_get 3 3 <| o_iload 2 <| o_iload 3 <| o_iast <| o_aload 0 <| o_get 3 5 <| o_iload 1 <| o_aald <| o_astore 4 <| o_aload 0 <| o_get 3 5 <| o_iload 1 <| o_aload 0 <| o_get 3 5 <| o_iload 2 <| o_aald <| o_aast 5 <| o_aload 0 <| o_get 3 5 <| o_iload 2 <| o_aload 4 <| o_aast 5 <| o_aload 0 <| o_get 3 4 <| o_iload 1 <| o_aald <| o_astore 4 <| o_aload 0 <| o_get 3 4 <| o_iload 1 <| o_aload 0 <| o_get 3 4 <| o_iload 2 <| o_aald <| o_aast 5 <| o_aload 0 <| o_get 3 4 <| o_iload 2 <| o_aload 4 <| o_aast 5 <| o_ret
set_option maxRecDepth 100000 in
theorem s_X3_exchange_0 {l : Launch} {D : va_G} {cI cS cM : ClassId} : KS l D cI cS cM yX3_exchange.cls yX3_exchange.name cX3_exchange 5 none (k_rm 1 0 0) false 0 0 (b_X3_exchange_0) :=
  s_aload_n dX3_exchange_0 rfl <|
  s_get dX3_exchange_1 (ci := 3) (sl := 3) (Cn := RX3) (Tf := TX3) (N := 8) rfl (by decide) kiX3 kw_3_23 <|
  s_iload_n dX3_exchange_4 rfl <|
  s_iald dX3_exchange_5 <|
  s_istore_n dX3_exchange_6 rfl (by decide) <|
  s_aload_n dX3_exchange_7 rfl <|
  s_get dX3_exchange_8 (ci := 3) (sl := 3) (Cn := RX3) (Tf := TX3) (N := 8) rfl (by decide) kiX3 kw_3_23 <|
  s_iload_n dX3_exchange_11 rfl <|
  s_aload_n dX3_exchange_12 rfl <|
  s_get dX3_exchange_13 (ci := 3) (sl := 3) (Cn := RX3) (Tf := TX3) (N := 8) rfl (by decide) kiX3 kw_3_23 <|
  s_iload_n dX3_exchange_16 rfl <|
  s_iald dX3_exchange_17 <|
  s_iast dX3_exchange_18 <|
  s_aload_n dX3_exchange_19 rfl <|
  s_get dX3_exchange_20 (ci := 3) (sl := 3) (Cn := RX3) (Tf := TX3) (N := 8) rfl (by decide) kiX3 kw_3_23 <|
  s_iload_n dX3_exchange_23 rfl <|
  s_iload_n dX3_exchange_24 rfl <|
  s_iast dX3_exchange_25 <|
  s_aload_n dX3_exchange_26 rfl <|
  s_get dX3_exchange_27 (ci := 3) (sl := 5) (Cn := RX3) (Tf := TX3) (N := 8) rfl (by decide) kiX3 kw_4_2 <|
  s_iload_n dX3_exchange_30 rfl <|
  s_aald dX3_exchange_31 <|
  s_astore dX3_exchange_32 (by decide) <|
  s_aload_n dX3_exchange_34 rfl <|
  s_get dX3_exchange_35 (ci := 3) (sl := 5) (Cn := RX3) (Tf := TX3) (N := 8) rfl (by decide) kiX3 kw_4_2 <|
  s_iload_n dX3_exchange_38 rfl <|
  s_aload_n dX3_exchange_39 rfl <|
  s_get dX3_exchange_40 (ci := 3) (sl := 5) (Cn := RX3) (Tf := TX3) (N := 8) rfl (by decide) kiX3 kw_4_2 <|
  s_iload_n dX3_exchange_43 rfl <|
  s_aald dX3_exchange_44 <|
  s_aast dX3_exchange_45 <|
  s_aload_n dX3_exchange_46 rfl <|
  s_get dX3_exchange_47 (ci := 3) (sl := 5) (Cn := RX3) (Tf := TX3) (N := 8) rfl (by decide) kiX3 kw_4_2 <|
  s_iload_n dX3_exchange_50 rfl <|
  s_aload dX3_exchange_51 <|
  s_aast dX3_exchange_53 <|
  s_aload_n dX3_exchange_54 rfl <|
  s_get dX3_exchange_55 (ci := 3) (sl := 4) (Cn := RX3) (Tf := TX3) (N := 8) rfl (by decide) kiX3 kw_4_1 <|
  s_iload_n dX3_exchange_58 rfl <|
  s_aald dX3_exchange_59 <|
  s_astore dX3_exchange_60 (by decide) <|
  s_aload_n dX3_exchange_62 rfl <|
  s_get dX3_exchange_63 (ci := 3) (sl := 4) (Cn := RX3) (Tf := TX3) (N := 8) rfl (by decide) kiX3 kw_4_1 <|
  s_iload_n dX3_exchange_66 rfl <|
  s_aload_n dX3_exchange_67 rfl <|
  s_get dX3_exchange_68 (ci := 3) (sl := 4) (Cn := RX3) (Tf := TX3) (N := 8) rfl (by decide) kiX3 kw_4_1 <|
  s_iload_n dX3_exchange_71 rfl <|
  s_aald dX3_exchange_72 <|
  s_aast dX3_exchange_73 <|
  s_aload_n dX3_exchange_74 rfl <|
  s_get dX3_exchange_75 (ci := 3) (sl := 4) (Cn := RX3) (Tf := TX3) (N := 8) rfl (by decide) kiX3 kw_4_1 <|
  s_iload_n dX3_exchange_78 rfl <|
  s_aload dX3_exchange_79 <|
  s_aast dX3_exchange_81 <|
  s_return dX3_exchange_82 rfl
noncomputable def m_X3_exchange : KF := k_fun [k_u, k_u] (b_X3_exchange_0)
theorem r_X3_exchange {l : Launch} {D : va_G} {cI cS cM : ClassId} : k_snd l D cI cS cM yX3_exchange cX3_exchange 5 none 1 3 (m_X3_exchange) :=
  k_method (by decide +kernel) (by simp) rfl (s_X3_exchange_0)
noncomputable def b_X3_comesBefore_85 (F_X3_differAt : KF) : KC := o_zret
set_option maxRecDepth 100000 in
theorem s_X3_comesBefore_85 {l : Launch} {D : va_G} {cI cS cM : ClassId} {F_X3_differAt : KF} (h_X3_differAt : k_snd l D cI cS cM yX3_differAt cX3_differAt 4 (some .int) 1 3 F_X3_differAt) : KS l D cI cS cM yX3_comesBefore.cls yX3_comesBefore.name cX3_comesBefore 4 (some .boolean) (k_rm 2 0 0) false 85 1 (b_X3_comesBefore_85 F_X3_differAt) :=
  s_zreturn dX3_comesBefore_85 rfl
noncomputable def b_X3_comesBefore_84 (F_X3_differAt : KF) : KC := o_push 0 <| b_X3_comesBefore_85 F_X3_differAt
set_option maxRecDepth 100000 in
theorem s_X3_comesBefore_84 {l : Launch} {D : va_G} {cI cS cM : ClassId} {F_X3_differAt : KF} (h_X3_differAt : k_snd l D cI cS cM yX3_differAt cX3_differAt 4 (some .int) 1 3 F_X3_differAt) : KS l D cI cS cM yX3_comesBefore.cls yX3_comesBefore.name cX3_comesBefore 4 (some .boolean) (k_rm 2 0 0) false 84 0 (b_X3_comesBefore_84 F_X3_differAt) :=
  s_push1 dX3_comesBefore_84 (by decide) (by decide) <|
  s_X3_comesBefore_85 h_X3_differAt
noncomputable def b_X3_comesBefore_80 (F_X3_differAt : KF) : KC := o_push 1 <| b_X3_comesBefore_85 F_X3_differAt
set_option maxRecDepth 100000 in
theorem s_X3_comesBefore_80 {l : Launch} {D : va_G} {cI cS cM : ClassId} {F_X3_differAt : KF} (h_X3_differAt : k_snd l D cI cS cM yX3_differAt cX3_differAt 4 (some .int) 1 3 F_X3_differAt) : KS l D cI cS cM yX3_comesBefore.cls yX3_comesBefore.name cX3_comesBefore 4 (some .boolean) (k_rm 2 0 0) false 80 0 (b_X3_comesBefore_80 F_X3_differAt) :=
  s_push1 dX3_comesBefore_80 (by decide) (by decide) <|
  s_goto dX3_comesBefore_81 (by decide) (s_X3_comesBefore_85 h_X3_differAt)
noncomputable def b_X3_comesBefore_61 (F_X3_differAt : KF) : KC := o_aload 0 <| o_get 3 5 <| o_iload 1 <| o_aald <| o_iload 3 <| o_iald <| o_aload 0 <| o_get 3 5 <| o_iload 2 <| o_aald <| o_iload 3 <| o_iald <| o_c2 s_lt (b_X3_comesBefore_80 F_X3_differAt) (b_X3_comesBefore_84 F_X3_differAt)
set_option maxRecDepth 100000 in
theorem s_X3_comesBefore_61 {l : Launch} {D : va_G} {cI cS cM : ClassId} {F_X3_differAt : KF} (h_X3_differAt : k_snd l D cI cS cM yX3_differAt cX3_differAt 4 (some .int) 1 3 F_X3_differAt) : KS l D cI cS cM yX3_comesBefore.cls yX3_comesBefore.name cX3_comesBefore 4 (some .boolean) (k_rm 2 0 0) false 61 0 (b_X3_comesBefore_61 F_X3_differAt) :=
  s_aload_n dX3_comesBefore_61 rfl <|
  s_get dX3_comesBefore_62 (ci := 3) (sl := 5) (Cn := RX3) (Tf := TX3) (N := 8) rfl (by decide) kiX3 kw_4_2 <|
  s_iload_n dX3_comesBefore_65 rfl <|
  s_aald dX3_comesBefore_66 <|
  s_iload_n dX3_comesBefore_67 rfl <|
  s_iald dX3_comesBefore_68 <|
  s_aload_n dX3_comesBefore_69 rfl <|
  s_get dX3_comesBefore_70 (ci := 3) (sl := 5) (Cn := RX3) (Tf := TX3) (N := 8) rfl (by decide) kiX3 kw_4_2 <|
  s_iload_n dX3_comesBefore_73 rfl <|
  s_aald dX3_comesBefore_74 <|
  s_iload_n dX3_comesBefore_75 rfl <|
  s_iald dX3_comesBefore_76 <|
  s_icmp_ge dX3_comesBefore_77 (by decide) (s_X3_comesBefore_84 h_X3_differAt) (s_X3_comesBefore_80 h_X3_differAt)
noncomputable def b_X3_comesBefore_36 (F_X3_differAt : KF) : KC := o_aload 0 <| o_aload 0 <| o_get 3 5 <| o_iload 1 <| o_aald <| o_aload 0 <| o_get 3 5 <| o_iload 2 <| o_aald <| o_cV1 3 3 F_X3_differAt <| o_istore 3 <| o_iload 3 <| o_aload 0 <| o_get 3 2 <| o_c2 s_lt (b_X3_comesBefore_61 F_X3_differAt) (b_X3_comesBefore_84 F_X3_differAt)
set_option maxRecDepth 100000 in
theorem s_X3_comesBefore_36 {l : Launch} {D : va_G} {cI cS cM : ClassId} {F_X3_differAt : KF} (h_X3_differAt : k_snd l D cI cS cM yX3_differAt cX3_differAt 4 (some .int) 1 3 F_X3_differAt) : KS l D cI cS cM yX3_comesBefore.cls yX3_comesBefore.name cX3_comesBefore 4 (some .boolean) (k_rm 2 0 0) false 36 0 (b_X3_comesBefore_36 F_X3_differAt) :=
  s_aload_n dX3_comesBefore_36 rfl <|
  s_aload_n dX3_comesBefore_37 rfl <|
  s_get dX3_comesBefore_38 (ci := 3) (sl := 5) (Cn := RX3) (Tf := TX3) (N := 8) rfl (by decide) kiX3 kw_4_2 <|
  s_iload_n dX3_comesBefore_41 rfl <|
  s_aald dX3_comesBefore_42 <|
  s_aload_n dX3_comesBefore_43 rfl <|
  s_get dX3_comesBefore_44 (ci := 3) (sl := 5) (Cn := RX3) (Tf := TX3) (N := 8) rfl (by decide) kiX3 kw_4_2 <|
  s_iload_n dX3_comesBefore_47 rfl <|
  s_aald dX3_comesBefore_48 <|
  s_callV1 dX3_comesBefore_49 kw_21_5 kw_21_6 kw_21_7 (ci := 3) rfl ok_X3_differAt (by decide) (by decide) h_X3_differAt (by decide) <|
  s_istore_n dX3_comesBefore_52 rfl (by decide) <|
  s_iload_n dX3_comesBefore_53 rfl <|
  s_aload_n dX3_comesBefore_54 rfl <|
  s_get dX3_comesBefore_55 (ci := 3) (sl := 2) (Cn := RX3) (Tf := TX3) (N := 8) rfl (by decide) kiX3 kw_3_22 <|
  s_icmp_ge dX3_comesBefore_58 (by decide) (s_X3_comesBefore_84 h_X3_differAt) (s_X3_comesBefore_61 h_X3_differAt)
noncomputable def b_X3_comesBefore_35 (F_X3_differAt : KF) : KC := o_zret
set_option maxRecDepth 100000 in
theorem s_X3_comesBefore_35 {l : Launch} {D : va_G} {cI cS cM : ClassId} {F_X3_differAt : KF} (h_X3_differAt : k_snd l D cI cS cM yX3_differAt cX3_differAt 4 (some .int) 1 3 F_X3_differAt) : KS l D cI cS cM yX3_comesBefore.cls yX3_comesBefore.name cX3_comesBefore 4 (some .boolean) (k_rm 2 0 0) false 35 1 (b_X3_comesBefore_35 F_X3_differAt) :=
  s_zreturn dX3_comesBefore_35 rfl
noncomputable def b_X3_comesBefore_34 (F_X3_differAt : KF) : KC := o_push 0 <| b_X3_comesBefore_35 F_X3_differAt
set_option maxRecDepth 100000 in
theorem s_X3_comesBefore_34 {l : Launch} {D : va_G} {cI cS cM : ClassId} {F_X3_differAt : KF} (h_X3_differAt : k_snd l D cI cS cM yX3_differAt cX3_differAt 4 (some .int) 1 3 F_X3_differAt) : KS l D cI cS cM yX3_comesBefore.cls yX3_comesBefore.name cX3_comesBefore 4 (some .boolean) (k_rm 2 0 0) false 34 0 (b_X3_comesBefore_34 F_X3_differAt) :=
  s_push1 dX3_comesBefore_34 (by decide) (by decide) <|
  s_X3_comesBefore_35 h_X3_differAt
noncomputable def b_X3_comesBefore_30 (F_X3_differAt : KF) : KC := o_push 1 <| b_X3_comesBefore_35 F_X3_differAt
set_option maxRecDepth 100000 in
theorem s_X3_comesBefore_30 {l : Launch} {D : va_G} {cI cS cM : ClassId} {F_X3_differAt : KF} (h_X3_differAt : k_snd l D cI cS cM yX3_differAt cX3_differAt 4 (some .int) 1 3 F_X3_differAt) : KS l D cI cS cM yX3_comesBefore.cls yX3_comesBefore.name cX3_comesBefore 4 (some .boolean) (k_rm 2 0 0) false 30 0 (b_X3_comesBefore_30 F_X3_differAt) :=
  s_push1 dX3_comesBefore_30 (by decide) (by decide) <|
  s_goto dX3_comesBefore_31 (by decide) (s_X3_comesBefore_35 h_X3_differAt)
noncomputable def b_X3_comesBefore_15 (F_X3_differAt : KF) : KC := o_aload 0 <| o_get 3 3 <| o_iload 1 <| o_iald <| o_aload 0 <| o_get 3 3 <| o_iload 2 <| o_iald <| o_c2 s_lt (b_X3_comesBefore_30 F_X3_differAt) (b_X3_comesBefore_34 F_X3_differAt)
set_option maxRecDepth 100000 in
theorem s_X3_comesBefore_15 {l : Launch} {D : va_G} {cI cS cM : ClassId} {F_X3_differAt : KF} (h_X3_differAt : k_snd l D cI cS cM yX3_differAt cX3_differAt 4 (some .int) 1 3 F_X3_differAt) : KS l D cI cS cM yX3_comesBefore.cls yX3_comesBefore.name cX3_comesBefore 4 (some .boolean) (k_rm 2 0 0) false 15 0 (b_X3_comesBefore_15 F_X3_differAt) :=
  s_aload_n dX3_comesBefore_15 rfl <|
  s_get dX3_comesBefore_16 (ci := 3) (sl := 3) (Cn := RX3) (Tf := TX3) (N := 8) rfl (by decide) kiX3 kw_3_23 <|
  s_iload_n dX3_comesBefore_19 rfl <|
  s_iald dX3_comesBefore_20 <|
  s_aload_n dX3_comesBefore_21 rfl <|
  s_get dX3_comesBefore_22 (ci := 3) (sl := 3) (Cn := RX3) (Tf := TX3) (N := 8) rfl (by decide) kiX3 kw_3_23 <|
  s_iload_n dX3_comesBefore_25 rfl <|
  s_iald dX3_comesBefore_26 <|
  s_icmp_ge dX3_comesBefore_27 (by decide) (s_X3_comesBefore_34 h_X3_differAt) (s_X3_comesBefore_30 h_X3_differAt)
noncomputable def b_X3_comesBefore_0 (F_X3_differAt : KF) : KC := o_aload 0 <| o_get 3 3 <| o_iload 1 <| o_iald <| o_aload 0 <| o_get 3 3 <| o_iload 2 <| o_iald <| o_c2 Nat.beq (b_X3_comesBefore_36 F_X3_differAt) (b_X3_comesBefore_15 F_X3_differAt)
set_option maxRecDepth 100000 in
theorem s_X3_comesBefore_0 {l : Launch} {D : va_G} {cI cS cM : ClassId} {F_X3_differAt : KF} (h_X3_differAt : k_snd l D cI cS cM yX3_differAt cX3_differAt 4 (some .int) 1 3 F_X3_differAt) : KS l D cI cS cM yX3_comesBefore.cls yX3_comesBefore.name cX3_comesBefore 4 (some .boolean) (k_rm 2 0 0) false 0 0 (b_X3_comesBefore_0 F_X3_differAt) :=
  s_aload_n dX3_comesBefore_0 rfl <|
  s_get dX3_comesBefore_1 (ci := 3) (sl := 3) (Cn := RX3) (Tf := TX3) (N := 8) rfl (by decide) kiX3 kw_3_23 <|
  s_iload_n dX3_comesBefore_4 rfl <|
  s_iald dX3_comesBefore_5 <|
  s_aload_n dX3_comesBefore_6 rfl <|
  s_get dX3_comesBefore_7 (ci := 3) (sl := 3) (Cn := RX3) (Tf := TX3) (N := 8) rfl (by decide) kiX3 kw_3_23 <|
  s_iload_n dX3_comesBefore_10 rfl <|
  s_iald dX3_comesBefore_11 <|
  s_icmp_eq dX3_comesBefore_12 (by decide) (s_X3_comesBefore_36 h_X3_differAt) (s_X3_comesBefore_15 h_X3_differAt)
noncomputable def m_X3_comesBefore (F_X3_differAt : KF) : KF := k_fun [k_u] (b_X3_comesBefore_0 F_X3_differAt)
theorem r_X3_comesBefore {l : Launch} {D : va_G} {cI cS cM : ClassId} {F_X3_differAt : KF} (h_X3_differAt : k_snd l D cI cS cM yX3_differAt cX3_differAt 4 (some .int) 1 3 F_X3_differAt) : k_snd l D cI cS cM yX3_comesBefore cX3_comesBefore 4 (some .boolean) 2 3 (m_X3_comesBefore F_X3_differAt) :=
  k_method (by decide +kernel) (by simp) rfl (s_X3_comesBefore_0 h_X3_differAt)
noncomputable def b_X3_multiplyRows_46 (F_X2_left : KF) (J : List KC) : KC := o_ret
set_option maxRecDepth 100000 in
theorem s_X3_multiplyRows_46 {l : Launch} {D : va_G} {cI cS cM : ClassId} {F_X2_left : KF} (h_X2_left : k_snd l D cI cS cM yX2_left cX2_left 3 (some .int) 1 2 F_X2_left) {J : List KC} (hJ : ∀ (i pc d : Nat), ([(2, 0)] : List (Nat × Nat))[i]? = some (pc, d) → KS l D cI cS cM yX3_multiplyRows.cls yX3_multiplyRows.name cX3_multiplyRows 4 none (k_rm 2 0 0) false pc d (k_jmp J i)) : KS l D cI cS cM yX3_multiplyRows.cls yX3_multiplyRows.name cX3_multiplyRows 4 none (k_rm 2 0 0) false 46 0 (b_X3_multiplyRows_46 F_X2_left J) :=
  s_return dX3_multiplyRows_46 rfl
noncomputable def b_X3_multiplyRows_10 (F_X2_left : KF) (J : List KC) : KC := o_aload 0 <| o_get 3 6 <| o_iload 3 <| o_aload 0 <| o_get 3 1 <| o_aload 0 <| o_get 3 5 <| o_iload 1 <| o_aald <| o_iload 3 <| o_iald <| o_aload 0 <| o_get 3 5 <| o_iload 2 <| o_aald <| o_iload 3 <| o_iald <| o_bin n_mul <| o_cV1 2 2 F_X2_left <| o_iast <| o_iinc 3 1 <| k_jmp J 0
set_option maxRecDepth 100000 in
theorem s_X3_multiplyRows_10 {l : Launch} {D : va_G} {cI cS cM : ClassId} {F_X2_left : KF} (h_X2_left : k_snd l D cI cS cM yX2_left cX2_left 3 (some .int) 1 2 F_X2_left) {J : List KC} (hJ : ∀ (i pc d : Nat), ([(2, 0)] : List (Nat × Nat))[i]? = some (pc, d) → KS l D cI cS cM yX3_multiplyRows.cls yX3_multiplyRows.name cX3_multiplyRows 4 none (k_rm 2 0 0) false pc d (k_jmp J i)) : KS l D cI cS cM yX3_multiplyRows.cls yX3_multiplyRows.name cX3_multiplyRows 4 none (k_rm 2 0 0) false 10 0 (b_X3_multiplyRows_10 F_X2_left J) :=
  s_aload_n dX3_multiplyRows_10 rfl <|
  s_get dX3_multiplyRows_11 (ci := 3) (sl := 6) (Cn := RX3) (Tf := TX3) (N := 8) rfl (by decide) kiX3 kw_4_3 <|
  s_iload_n dX3_multiplyRows_14 rfl <|
  s_aload_n dX3_multiplyRows_15 rfl <|
  s_get dX3_multiplyRows_16 (ci := 3) (sl := 1) (Cn := RX3) (Tf := TX3) (N := 8) rfl (by decide) kiX3 kw_3_21 <|
  s_aload_n dX3_multiplyRows_19 rfl <|
  s_get dX3_multiplyRows_20 (ci := 3) (sl := 5) (Cn := RX3) (Tf := TX3) (N := 8) rfl (by decide) kiX3 kw_4_2 <|
  s_iload_n dX3_multiplyRows_23 rfl <|
  s_aald dX3_multiplyRows_24 <|
  s_iload_n dX3_multiplyRows_25 rfl <|
  s_iald dX3_multiplyRows_26 <|
  s_aload_n dX3_multiplyRows_27 rfl <|
  s_get dX3_multiplyRows_28 (ci := 3) (sl := 5) (Cn := RX3) (Tf := TX3) (N := 8) rfl (by decide) kiX3 kw_4_2 <|
  s_iload_n dX3_multiplyRows_31 rfl <|
  s_aald dX3_multiplyRows_32 <|
  s_iload_n dX3_multiplyRows_33 rfl <|
  s_iald dX3_multiplyRows_34 <|
  s_imul dX3_multiplyRows_35 <|
  s_callV1 dX3_multiplyRows_36 kw_20_20 kw_16_23 kw_17_0 (ci := 2) rfl ok_X2_left (by decide) (by decide) h_X2_left (by decide) <|
  s_iast dX3_multiplyRows_39 <|
  s_iinc dX3_multiplyRows_40 (by decide) (by decide) <|
  s_goto dX3_multiplyRows_43 (by decide) (hJ 0 _ _ rfl)
noncomputable def b_X3_multiplyRows_2 (F_X2_left : KF) (J : List KC) : KC := o_iload 3 <| o_aload 0 <| o_get 3 2 <| o_c2 s_lt (b_X3_multiplyRows_10 F_X2_left J) (b_X3_multiplyRows_46 F_X2_left J)
set_option maxRecDepth 100000 in
theorem s_X3_multiplyRows_2 {l : Launch} {D : va_G} {cI cS cM : ClassId} {F_X2_left : KF} (h_X2_left : k_snd l D cI cS cM yX2_left cX2_left 3 (some .int) 1 2 F_X2_left) {J : List KC} (hJ : ∀ (i pc d : Nat), ([(2, 0)] : List (Nat × Nat))[i]? = some (pc, d) → KS l D cI cS cM yX3_multiplyRows.cls yX3_multiplyRows.name cX3_multiplyRows 4 none (k_rm 2 0 0) false pc d (k_jmp J i)) : KS l D cI cS cM yX3_multiplyRows.cls yX3_multiplyRows.name cX3_multiplyRows 4 none (k_rm 2 0 0) false 2 0 (b_X3_multiplyRows_2 F_X2_left J) :=
  s_iload_n dX3_multiplyRows_2 rfl <|
  s_aload_n dX3_multiplyRows_3 rfl <|
  s_get dX3_multiplyRows_4 (ci := 3) (sl := 2) (Cn := RX3) (Tf := TX3) (N := 8) rfl (by decide) kiX3 kw_3_22 <|
  s_icmp_ge dX3_multiplyRows_7 (by decide) (s_X3_multiplyRows_46 h_X2_left hJ) (s_X3_multiplyRows_10 h_X2_left hJ)
noncomputable def b_X3_multiplyRows_0 (F_X2_left : KF) (J : List KC) : KC := o_push 0 <| o_istore 3 <| b_X3_multiplyRows_2 F_X2_left J
set_option maxRecDepth 100000 in
theorem s_X3_multiplyRows_0 {l : Launch} {D : va_G} {cI cS cM : ClassId} {F_X2_left : KF} (h_X2_left : k_snd l D cI cS cM yX2_left cX2_left 3 (some .int) 1 2 F_X2_left) {J : List KC} (hJ : ∀ (i pc d : Nat), ([(2, 0)] : List (Nat × Nat))[i]? = some (pc, d) → KS l D cI cS cM yX3_multiplyRows.cls yX3_multiplyRows.name cX3_multiplyRows 4 none (k_rm 2 0 0) false pc d (k_jmp J i)) : KS l D cI cS cM yX3_multiplyRows.cls yX3_multiplyRows.name cX3_multiplyRows 4 none (k_rm 2 0 0) false 0 0 (b_X3_multiplyRows_0 F_X2_left J) :=
  s_push1 dX3_multiplyRows_0 (by decide) (by decide) <|
  s_istore_n dX3_multiplyRows_1 rfl (by decide) <|
  s_X3_multiplyRows_2 h_X2_left hJ
noncomputable def j_X3_multiplyRows (F_X2_left : KF) (J : List KC) : List KC := [b_X3_multiplyRows_2 F_X2_left J]
noncomputable def m_X3_multiplyRows (F_X2_left : KF) (n : Nat) : KF := k_fun [k_u] (b_X3_multiplyRows_0 F_X2_left (k_loop (j_X3_multiplyRows F_X2_left) n))
theorem r_X3_multiplyRows {l : Launch} {D : va_G} {cI cS cM : ClassId} {F_X2_left : KF} (h_X2_left : k_snd l D cI cS cM yX2_left cX2_left 3 (some .int) 1 2 F_X2_left) (n : Nat) : k_snd l D cI cS cM yX3_multiplyRows cX3_multiplyRows 4 none 2 3 (m_X3_multiplyRows F_X2_left n) :=
  k_method (by decide +kernel) (by simp) rfl (s_X3_multiplyRows_0 h_X2_left (k_loops (hs := [(2, 0)]) (fun J hJ i pc d h => match i, h with | 0, h => by cases h; exact s_X3_multiplyRows_2 h_X2_left hJ | _ + 1, h => by simp at h) n))
noncomputable def b_X3_rowLike_36 (F_X3_differAt : KF) (J : List KC) : KC := o_push 4294967295 <| o_iret
set_option maxRecDepth 100000 in
theorem s_X3_rowLike_36 {l : Launch} {D : va_G} {cI cS cM : ClassId} {F_X3_differAt : KF} (h_X3_differAt : k_snd l D cI cS cM yX3_differAt cX3_differAt 4 (some .int) 1 3 F_X3_differAt) {J : List KC} (hJ : ∀ (i pc d : Nat), ([(2, 0)] : List (Nat × Nat))[i]? = some (pc, d) → KS l D cI cS cM yX3_rowLike.cls yX3_rowLike.name cX3_rowLike 3 (some .int) (k_rm 2 0 0) false pc d (k_jmp J i)) : KS l D cI cS cM yX3_rowLike.cls yX3_rowLike.name cX3_rowLike 3 (some .int) (k_rm 2 0 0) false 36 0 (b_X3_rowLike_36 F_X3_differAt J) :=
  s_push1 dX3_rowLike_36 (by decide) (by decide) <|
  s_ireturn dX3_rowLike_37 rfl
noncomputable def b_X3_rowLike_30 (F_X3_differAt : KF) (J : List KC) : KC := o_iinc 2 1 <| k_jmp J 0
set_option maxRecDepth 100000 in
theorem s_X3_rowLike_30 {l : Launch} {D : va_G} {cI cS cM : ClassId} {F_X3_differAt : KF} (h_X3_differAt : k_snd l D cI cS cM yX3_differAt cX3_differAt 4 (some .int) 1 3 F_X3_differAt) {J : List KC} (hJ : ∀ (i pc d : Nat), ([(2, 0)] : List (Nat × Nat))[i]? = some (pc, d) → KS l D cI cS cM yX3_rowLike.cls yX3_rowLike.name cX3_rowLike 3 (some .int) (k_rm 2 0 0) false pc d (k_jmp J i)) : KS l D cI cS cM yX3_rowLike.cls yX3_rowLike.name cX3_rowLike 3 (some .int) (k_rm 2 0 0) false 30 0 (b_X3_rowLike_30 F_X3_differAt J) :=
  s_iinc dX3_rowLike_30 (by decide) (by decide) <|
  s_goto dX3_rowLike_33 (by decide) (hJ 0 _ _ rfl)
noncomputable def b_X3_rowLike_28 (F_X3_differAt : KF) (J : List KC) : KC := o_iload 2 <| o_iret
set_option maxRecDepth 100000 in
theorem s_X3_rowLike_28 {l : Launch} {D : va_G} {cI cS cM : ClassId} {F_X3_differAt : KF} (h_X3_differAt : k_snd l D cI cS cM yX3_differAt cX3_differAt 4 (some .int) 1 3 F_X3_differAt) {J : List KC} (hJ : ∀ (i pc d : Nat), ([(2, 0)] : List (Nat × Nat))[i]? = some (pc, d) → KS l D cI cS cM yX3_rowLike.cls yX3_rowLike.name cX3_rowLike 3 (some .int) (k_rm 2 0 0) false pc d (k_jmp J i)) : KS l D cI cS cM yX3_rowLike.cls yX3_rowLike.name cX3_rowLike 3 (some .int) (k_rm 2 0 0) false 28 0 (b_X3_rowLike_28 F_X3_differAt J) :=
  s_iload_n dX3_rowLike_28 rfl <|
  s_ireturn dX3_rowLike_29 rfl
noncomputable def b_X3_rowLike_10 (F_X3_differAt : KF) (J : List KC) : KC := o_aload 0 <| o_aload 0 <| o_get 3 5 <| o_iload 2 <| o_aald <| o_aload 1 <| o_cV1 3 3 F_X3_differAt <| o_aload 0 <| o_get 3 2 <| o_c2 Nat.beq (b_X3_rowLike_28 F_X3_differAt J) (b_X3_rowLike_30 F_X3_differAt J)
set_option maxRecDepth 100000 in
theorem s_X3_rowLike_10 {l : Launch} {D : va_G} {cI cS cM : ClassId} {F_X3_differAt : KF} (h_X3_differAt : k_snd l D cI cS cM yX3_differAt cX3_differAt 4 (some .int) 1 3 F_X3_differAt) {J : List KC} (hJ : ∀ (i pc d : Nat), ([(2, 0)] : List (Nat × Nat))[i]? = some (pc, d) → KS l D cI cS cM yX3_rowLike.cls yX3_rowLike.name cX3_rowLike 3 (some .int) (k_rm 2 0 0) false pc d (k_jmp J i)) : KS l D cI cS cM yX3_rowLike.cls yX3_rowLike.name cX3_rowLike 3 (some .int) (k_rm 2 0 0) false 10 0 (b_X3_rowLike_10 F_X3_differAt J) :=
  s_aload_n dX3_rowLike_10 rfl <|
  s_aload_n dX3_rowLike_11 rfl <|
  s_get dX3_rowLike_12 (ci := 3) (sl := 5) (Cn := RX3) (Tf := TX3) (N := 8) rfl (by decide) kiX3 kw_4_2 <|
  s_iload_n dX3_rowLike_15 rfl <|
  s_aald dX3_rowLike_16 <|
  s_aload_n dX3_rowLike_17 rfl <|
  s_callV1 dX3_rowLike_18 kw_21_5 kw_21_6 kw_21_7 (ci := 3) rfl ok_X3_differAt (by decide) (by decide) h_X3_differAt (by decide) <|
  s_aload_n dX3_rowLike_21 rfl <|
  s_get dX3_rowLike_22 (ci := 3) (sl := 2) (Cn := RX3) (Tf := TX3) (N := 8) rfl (by decide) kiX3 kw_3_22 <|
  s_icmp_ne dX3_rowLike_25 (by decide) (s_X3_rowLike_30 h_X3_differAt hJ) (s_X3_rowLike_28 h_X3_differAt hJ)
noncomputable def b_X3_rowLike_2 (F_X3_differAt : KF) (J : List KC) : KC := o_iload 2 <| o_aload 0 <| o_get 3 2 <| o_c2 s_lt (b_X3_rowLike_10 F_X3_differAt J) (b_X3_rowLike_36 F_X3_differAt J)
set_option maxRecDepth 100000 in
theorem s_X3_rowLike_2 {l : Launch} {D : va_G} {cI cS cM : ClassId} {F_X3_differAt : KF} (h_X3_differAt : k_snd l D cI cS cM yX3_differAt cX3_differAt 4 (some .int) 1 3 F_X3_differAt) {J : List KC} (hJ : ∀ (i pc d : Nat), ([(2, 0)] : List (Nat × Nat))[i]? = some (pc, d) → KS l D cI cS cM yX3_rowLike.cls yX3_rowLike.name cX3_rowLike 3 (some .int) (k_rm 2 0 0) false pc d (k_jmp J i)) : KS l D cI cS cM yX3_rowLike.cls yX3_rowLike.name cX3_rowLike 3 (some .int) (k_rm 2 0 0) false 2 0 (b_X3_rowLike_2 F_X3_differAt J) :=
  s_iload_n dX3_rowLike_2 rfl <|
  s_aload_n dX3_rowLike_3 rfl <|
  s_get dX3_rowLike_4 (ci := 3) (sl := 2) (Cn := RX3) (Tf := TX3) (N := 8) rfl (by decide) kiX3 kw_3_22 <|
  s_icmp_ge dX3_rowLike_7 (by decide) (s_X3_rowLike_36 h_X3_differAt hJ) (s_X3_rowLike_10 h_X3_differAt hJ)
noncomputable def b_X3_rowLike_0 (F_X3_differAt : KF) (J : List KC) : KC := o_push 0 <| o_istore 2 <| b_X3_rowLike_2 F_X3_differAt J
set_option maxRecDepth 100000 in
theorem s_X3_rowLike_0 {l : Launch} {D : va_G} {cI cS cM : ClassId} {F_X3_differAt : KF} (h_X3_differAt : k_snd l D cI cS cM yX3_differAt cX3_differAt 4 (some .int) 1 3 F_X3_differAt) {J : List KC} (hJ : ∀ (i pc d : Nat), ([(2, 0)] : List (Nat × Nat))[i]? = some (pc, d) → KS l D cI cS cM yX3_rowLike.cls yX3_rowLike.name cX3_rowLike 3 (some .int) (k_rm 2 0 0) false pc d (k_jmp J i)) : KS l D cI cS cM yX3_rowLike.cls yX3_rowLike.name cX3_rowLike 3 (some .int) (k_rm 2 0 0) false 0 0 (b_X3_rowLike_0 F_X3_differAt J) :=
  s_push1 dX3_rowLike_0 (by decide) (by decide) <|
  s_istore_n dX3_rowLike_1 rfl (by decide) <|
  s_X3_rowLike_2 h_X3_differAt hJ
noncomputable def j_X3_rowLike (F_X3_differAt : KF) (J : List KC) : List KC := [b_X3_rowLike_2 F_X3_differAt J]
noncomputable def m_X3_rowLike (F_X3_differAt : KF) (n : Nat) : KF := k_fun [k_u] (b_X3_rowLike_0 F_X3_differAt (k_loop (j_X3_rowLike F_X3_differAt) n))
theorem r_X3_rowLike {l : Launch} {D : va_G} {cI cS cM : ClassId} {F_X3_differAt : KF} (h_X3_differAt : k_snd l D cI cS cM yX3_differAt cX3_differAt 4 (some .int) 1 3 F_X3_differAt) (n : Nat) : k_snd l D cI cS cM yX3_rowLike cX3_rowLike 3 (some .int) 2 2 (m_X3_rowLike F_X3_differAt n) :=
  k_method (by decide +kernel) (by simp) rfl (s_X3_rowLike_0 h_X3_differAt (k_loops (hs := [(2, 0)]) (fun J hJ i pc d h => match i, h with | 0, h => by cases h; exact s_X3_rowLike_2 h_X3_differAt hJ | _ + 1, h => by simp at h) n))
noncomputable def b_X3_degreeOf_109 (F_X2_divided F_X2_left : KF) (J : List KC) : KC := o_push 1 <| o_iret
set_option maxRecDepth 100000 in
theorem s_X3_degreeOf_109 {l : Launch} {D : va_G} {cI cS cM : ClassId} {F_X2_divided F_X2_left : KF} (h_X2_divided : k_snd l D cI cS cM yX2_divided cX2_divided 3 (some .int) 2 3 F_X2_divided) (h_X2_left : k_snd l D cI cS cM yX2_left cX2_left 3 (some .int) 1 2 F_X2_left) {J : List KC} (hJ : ∀ (i pc d : Nat), ([(4, 0), (66, 0)] : List (Nat × Nat))[i]? = some (pc, d) → KS l D cI cS cM yX3_degreeOf.cls yX3_degreeOf.name cX3_degreeOf 5 (some .int) (k_rm 3 0 0) false pc d (k_jmp J i)) : KS l D cI cS cM yX3_degreeOf.cls yX3_degreeOf.name cX3_degreeOf 5 (some .int) (k_rm 3 0 0) false 109 0 (b_X3_degreeOf_109 F_X2_divided F_X2_left J) :=
  s_push1 dX3_degreeOf_109 (by decide) (by decide) <|
  s_ireturn dX3_degreeOf_110 rfl
noncomputable def b_X3_degreeOf_103 (F_X2_divided F_X2_left : KF) (J : List KC) : KC := o_iinc 4 1 <| k_jmp J 1
set_option maxRecDepth 100000 in
theorem s_X3_degreeOf_103 {l : Launch} {D : va_G} {cI cS cM : ClassId} {F_X2_divided F_X2_left : KF} (h_X2_divided : k_snd l D cI cS cM yX2_divided cX2_divided 3 (some .int) 2 3 F_X2_divided) (h_X2_left : k_snd l D cI cS cM yX2_left cX2_left 3 (some .int) 1 2 F_X2_left) {J : List KC} (hJ : ∀ (i pc d : Nat), ([(4, 0), (66, 0)] : List (Nat × Nat))[i]? = some (pc, d) → KS l D cI cS cM yX3_degreeOf.cls yX3_degreeOf.name cX3_degreeOf 5 (some .int) (k_rm 3 0 0) false pc d (k_jmp J i)) : KS l D cI cS cM yX3_degreeOf.cls yX3_degreeOf.name cX3_degreeOf 5 (some .int) (k_rm 3 0 0) false 103 0 (b_X3_degreeOf_103 F_X2_divided F_X2_left J) :=
  s_iinc dX3_degreeOf_103 (by decide) (by decide) <|
  s_goto dX3_degreeOf_106 (by decide) (hJ 1 _ _ rfl)
noncomputable def b_X3_degreeOf_100 (F_X2_divided F_X2_left : KF) (J : List KC) : KC := o_iload 4 <| o_iret
set_option maxRecDepth 100000 in
theorem s_X3_degreeOf_100 {l : Launch} {D : va_G} {cI cS cM : ClassId} {F_X2_divided F_X2_left : KF} (h_X2_divided : k_snd l D cI cS cM yX2_divided cX2_divided 3 (some .int) 2 3 F_X2_divided) (h_X2_left : k_snd l D cI cS cM yX2_left cX2_left 3 (some .int) 1 2 F_X2_left) {J : List KC} (hJ : ∀ (i pc d : Nat), ([(4, 0), (66, 0)] : List (Nat × Nat))[i]? = some (pc, d) → KS l D cI cS cM yX3_degreeOf.cls yX3_degreeOf.name cX3_degreeOf 5 (some .int) (k_rm 3 0 0) false pc d (k_jmp J i)) : KS l D cI cS cM yX3_degreeOf.cls yX3_degreeOf.name cX3_degreeOf 5 (some .int) (k_rm 3 0 0) false 100 0 (b_X3_degreeOf_100 F_X2_divided F_X2_left J) :=
  s_iload dX3_degreeOf_100 <|
  s_ireturn dX3_degreeOf_102 rfl
noncomputable def b_X3_degreeOf_75 (F_X2_divided F_X2_left : KF) (J : List KC) : KC := o_aload 0 <| o_get 3 1 <| o_iload 4 <| o_iload 4 <| o_bin n_mul <| o_iload 2 <| o_bin n_mul <| o_cV1 2 2 F_X2_left <| o_aload 0 <| o_get 3 1 <| o_iload 3 <| o_cV1 2 2 F_X2_left <| o_c2 Nat.beq (b_X3_degreeOf_100 F_X2_divided F_X2_left J) (b_X3_degreeOf_103 F_X2_divided F_X2_left J)
set_option maxRecDepth 100000 in
theorem s_X3_degreeOf_75 {l : Launch} {D : va_G} {cI cS cM : ClassId} {F_X2_divided F_X2_left : KF} (h_X2_divided : k_snd l D cI cS cM yX2_divided cX2_divided 3 (some .int) 2 3 F_X2_divided) (h_X2_left : k_snd l D cI cS cM yX2_left cX2_left 3 (some .int) 1 2 F_X2_left) {J : List KC} (hJ : ∀ (i pc d : Nat), ([(4, 0), (66, 0)] : List (Nat × Nat))[i]? = some (pc, d) → KS l D cI cS cM yX3_degreeOf.cls yX3_degreeOf.name cX3_degreeOf 5 (some .int) (k_rm 3 0 0) false pc d (k_jmp J i)) : KS l D cI cS cM yX3_degreeOf.cls yX3_degreeOf.name cX3_degreeOf 5 (some .int) (k_rm 3 0 0) false 75 0 (b_X3_degreeOf_75 F_X2_divided F_X2_left J) :=
  s_aload_n dX3_degreeOf_75 rfl <|
  s_get dX3_degreeOf_76 (ci := 3) (sl := 1) (Cn := RX3) (Tf := TX3) (N := 8) rfl (by decide) kiX3 kw_3_21 <|
  s_iload dX3_degreeOf_79 <|
  s_iload dX3_degreeOf_81 <|
  s_imul dX3_degreeOf_83 <|
  s_iload_n dX3_degreeOf_84 rfl <|
  s_imul dX3_degreeOf_85 <|
  s_callV1 dX3_degreeOf_86 kw_20_20 kw_16_23 kw_17_0 (ci := 2) rfl ok_X2_left (by decide) (by decide) h_X2_left (by decide) <|
  s_aload_n dX3_degreeOf_89 rfl <|
  s_get dX3_degreeOf_90 (ci := 3) (sl := 1) (Cn := RX3) (Tf := TX3) (N := 8) rfl (by decide) kiX3 kw_3_21 <|
  s_iload_n dX3_degreeOf_93 rfl <|
  s_callV1 dX3_degreeOf_94 kw_20_20 kw_16_23 kw_17_0 (ci := 2) rfl ok_X2_left (by decide) (by decide) h_X2_left (by decide) <|
  s_icmp_ne dX3_degreeOf_97 (by decide) (s_X3_degreeOf_103 h_X2_divided h_X2_left hJ) (s_X3_degreeOf_100 h_X2_divided h_X2_left hJ)
noncomputable def b_X3_degreeOf_66 (F_X2_divided F_X2_left : KF) (J : List KC) : KC := o_iload 4 <| o_iload 4 <| o_bin n_mul <| o_iload 3 <| o_c2 s_gt (b_X3_degreeOf_109 F_X2_divided F_X2_left J) (b_X3_degreeOf_75 F_X2_divided F_X2_left J)
set_option maxRecDepth 100000 in
theorem s_X3_degreeOf_66 {l : Launch} {D : va_G} {cI cS cM : ClassId} {F_X2_divided F_X2_left : KF} (h_X2_divided : k_snd l D cI cS cM yX2_divided cX2_divided 3 (some .int) 2 3 F_X2_divided) (h_X2_left : k_snd l D cI cS cM yX2_left cX2_left 3 (some .int) 1 2 F_X2_left) {J : List KC} (hJ : ∀ (i pc d : Nat), ([(4, 0), (66, 0)] : List (Nat × Nat))[i]? = some (pc, d) → KS l D cI cS cM yX3_degreeOf.cls yX3_degreeOf.name cX3_degreeOf 5 (some .int) (k_rm 3 0 0) false pc d (k_jmp J i)) : KS l D cI cS cM yX3_degreeOf.cls yX3_degreeOf.name cX3_degreeOf 5 (some .int) (k_rm 3 0 0) false 66 0 (b_X3_degreeOf_66 F_X2_divided F_X2_left J) :=
  s_iload dX3_degreeOf_66 <|
  s_iload dX3_degreeOf_68 <|
  s_imul dX3_degreeOf_70 <|
  s_iload_n dX3_degreeOf_71 rfl <|
  s_icmp_gt dX3_degreeOf_72 (by decide) (s_X3_degreeOf_109 h_X2_divided h_X2_left hJ) (s_X3_degreeOf_75 h_X2_divided h_X2_left hJ)
noncomputable def b_X3_degreeOf_52 (F_X2_divided F_X2_left : KF) (J : List KC) : KC := o_aload 0 <| o_get 3 0 <| o_get 6 0 <| o_get 0 0 <| o_istore 3 <| o_push 1 <| o_istore 4 <| b_X3_degreeOf_66 F_X2_divided F_X2_left J
set_option maxRecDepth 100000 in
theorem s_X3_degreeOf_52 {l : Launch} {D : va_G} {cI cS cM : ClassId} {F_X2_divided F_X2_left : KF} (h_X2_divided : k_snd l D cI cS cM yX2_divided cX2_divided 3 (some .int) 2 3 F_X2_divided) (h_X2_left : k_snd l D cI cS cM yX2_left cX2_left 3 (some .int) 1 2 F_X2_left) {J : List KC} (hJ : ∀ (i pc d : Nat), ([(4, 0), (66, 0)] : List (Nat × Nat))[i]? = some (pc, d) → KS l D cI cS cM yX3_degreeOf.cls yX3_degreeOf.name cX3_degreeOf 5 (some .int) (k_rm 3 0 0) false pc d (k_jmp J i)) : KS l D cI cS cM yX3_degreeOf.cls yX3_degreeOf.name cX3_degreeOf 5 (some .int) (k_rm 3 0 0) false 52 0 (b_X3_degreeOf_52 F_X2_divided F_X2_left J) :=
  s_aload_n dX3_degreeOf_52 rfl <|
  s_get dX3_degreeOf_53 (ci := 3) (sl := 0) (Cn := RX3) (Tf := TX3) (N := 8) rfl (by decide) kiX3 kw_3_17 <|
  s_get dX3_degreeOf_56 (ci := 6) (sl := 0) (Cn := RX6) (Tf := TX6) (N := 11) rfl (by decide) kiX6 kw_20_17 <|
  s_get dX3_degreeOf_59 (ci := 0) (sl := 0) (Cn := RX0) (Tf := TX0) (N := 9) rfl (by decide) kiX0 kw_20_18 <|
  s_istore_n dX3_degreeOf_62 rfl (by decide) <|
  s_push1 dX3_degreeOf_63 (by decide) (by decide) <|
  s_istore dX3_degreeOf_64 (by decide) <|
  s_X3_degreeOf_66 h_X2_divided h_X2_left hJ
noncomputable def b_X3_degreeOf_12 (F_X2_divided F_X2_left : KF) (J : List KC) : KC := o_iload 2 <| o_aload 0 <| o_get 3 1 <| o_aload 1 <| o_iload 3 <| o_iald <| o_aload 1 <| o_aload 0 <| o_get 3 0 <| o_get 6 7 <| o_iload 3 <| o_iald <| o_iald <| o_bin n_mul <| o_aload 0 <| o_get 3 0 <| o_get 6 4 <| o_iload 3 <| o_iald <| o_cV1 3 2 F_X2_divided <| o_bin n_add <| o_istore 2 <| o_iinc 3 1 <| k_jmp J 0
set_option maxRecDepth 100000 in
theorem s_X3_degreeOf_12 {l : Launch} {D : va_G} {cI cS cM : ClassId} {F_X2_divided F_X2_left : KF} (h_X2_divided : k_snd l D cI cS cM yX2_divided cX2_divided 3 (some .int) 2 3 F_X2_divided) (h_X2_left : k_snd l D cI cS cM yX2_left cX2_left 3 (some .int) 1 2 F_X2_left) {J : List KC} (hJ : ∀ (i pc d : Nat), ([(4, 0), (66, 0)] : List (Nat × Nat))[i]? = some (pc, d) → KS l D cI cS cM yX3_degreeOf.cls yX3_degreeOf.name cX3_degreeOf 5 (some .int) (k_rm 3 0 0) false pc d (k_jmp J i)) : KS l D cI cS cM yX3_degreeOf.cls yX3_degreeOf.name cX3_degreeOf 5 (some .int) (k_rm 3 0 0) false 12 0 (b_X3_degreeOf_12 F_X2_divided F_X2_left J) :=
  s_iload_n dX3_degreeOf_12 rfl <|
  s_aload_n dX3_degreeOf_13 rfl <|
  s_get dX3_degreeOf_14 (ci := 3) (sl := 1) (Cn := RX3) (Tf := TX3) (N := 8) rfl (by decide) kiX3 kw_3_21 <|
  s_aload_n dX3_degreeOf_17 rfl <|
  s_iload_n dX3_degreeOf_18 rfl <|
  s_iald dX3_degreeOf_19 <|
  s_aload_n dX3_degreeOf_20 rfl <|
  s_aload_n dX3_degreeOf_21 rfl <|
  s_get dX3_degreeOf_22 (ci := 3) (sl := 0) (Cn := RX3) (Tf := TX3) (N := 8) rfl (by decide) kiX3 kw_3_17 <|
  s_get dX3_degreeOf_25 (ci := 6) (sl := 7) (Cn := RX6) (Tf := TX6) (N := 11) rfl (by decide) kiX6 kw_20_16 <|
  s_iload_n dX3_degreeOf_28 rfl <|
  s_iald dX3_degreeOf_29 <|
  s_iald dX3_degreeOf_30 <|
  s_imul dX3_degreeOf_31 <|
  s_aload_n dX3_degreeOf_32 rfl <|
  s_get dX3_degreeOf_33 (ci := 3) (sl := 0) (Cn := RX3) (Tf := TX3) (N := 8) rfl (by decide) kiX3 kw_3_17 <|
  s_get dX3_degreeOf_36 (ci := 6) (sl := 4) (Cn := RX6) (Tf := TX6) (N := 11) rfl (by decide) kiX6 kw_17_15 <|
  s_iload_n dX3_degreeOf_39 rfl <|
  s_iald dX3_degreeOf_40 <|
  s_callV1 dX3_degreeOf_41 kw_20_19 kw_20_9 kw_20_10 (ci := 2) rfl ok_X2_divided (by decide) (by decide) h_X2_divided (by decide) <|
  s_iadd dX3_degreeOf_44 <|
  s_istore_n dX3_degreeOf_45 rfl (by decide) <|
  s_iinc dX3_degreeOf_46 (by decide) (by decide) <|
  s_goto dX3_degreeOf_49 (by decide) (hJ 0 _ _ rfl)
noncomputable def b_X3_degreeOf_4 (F_X2_divided F_X2_left : KF) (J : List KC) : KC := o_iload 3 <| o_aload 0 <| o_get 3 2 <| o_c2 s_lt (b_X3_degreeOf_12 F_X2_divided F_X2_left J) (b_X3_degreeOf_52 F_X2_divided F_X2_left J)
set_option maxRecDepth 100000 in
theorem s_X3_degreeOf_4 {l : Launch} {D : va_G} {cI cS cM : ClassId} {F_X2_divided F_X2_left : KF} (h_X2_divided : k_snd l D cI cS cM yX2_divided cX2_divided 3 (some .int) 2 3 F_X2_divided) (h_X2_left : k_snd l D cI cS cM yX2_left cX2_left 3 (some .int) 1 2 F_X2_left) {J : List KC} (hJ : ∀ (i pc d : Nat), ([(4, 0), (66, 0)] : List (Nat × Nat))[i]? = some (pc, d) → KS l D cI cS cM yX3_degreeOf.cls yX3_degreeOf.name cX3_degreeOf 5 (some .int) (k_rm 3 0 0) false pc d (k_jmp J i)) : KS l D cI cS cM yX3_degreeOf.cls yX3_degreeOf.name cX3_degreeOf 5 (some .int) (k_rm 3 0 0) false 4 0 (b_X3_degreeOf_4 F_X2_divided F_X2_left J) :=
  s_iload_n dX3_degreeOf_4 rfl <|
  s_aload_n dX3_degreeOf_5 rfl <|
  s_get dX3_degreeOf_6 (ci := 3) (sl := 2) (Cn := RX3) (Tf := TX3) (N := 8) rfl (by decide) kiX3 kw_3_22 <|
  s_icmp_ge dX3_degreeOf_9 (by decide) (s_X3_degreeOf_52 h_X2_divided h_X2_left hJ) (s_X3_degreeOf_12 h_X2_divided h_X2_left hJ)
noncomputable def b_X3_degreeOf_0 (F_X2_divided F_X2_left : KF) (J : List KC) : KC := o_push 0 <| o_istore 2 <| o_push 0 <| o_istore 3 <| b_X3_degreeOf_4 F_X2_divided F_X2_left J
set_option maxRecDepth 100000 in
theorem s_X3_degreeOf_0 {l : Launch} {D : va_G} {cI cS cM : ClassId} {F_X2_divided F_X2_left : KF} (h_X2_divided : k_snd l D cI cS cM yX2_divided cX2_divided 3 (some .int) 2 3 F_X2_divided) (h_X2_left : k_snd l D cI cS cM yX2_left cX2_left 3 (some .int) 1 2 F_X2_left) {J : List KC} (hJ : ∀ (i pc d : Nat), ([(4, 0), (66, 0)] : List (Nat × Nat))[i]? = some (pc, d) → KS l D cI cS cM yX3_degreeOf.cls yX3_degreeOf.name cX3_degreeOf 5 (some .int) (k_rm 3 0 0) false pc d (k_jmp J i)) : KS l D cI cS cM yX3_degreeOf.cls yX3_degreeOf.name cX3_degreeOf 5 (some .int) (k_rm 3 0 0) false 0 0 (b_X3_degreeOf_0 F_X2_divided F_X2_left J) :=
  s_push1 dX3_degreeOf_0 (by decide) (by decide) <|
  s_istore_n dX3_degreeOf_1 rfl (by decide) <|
  s_push1 dX3_degreeOf_2 (by decide) (by decide) <|
  s_istore_n dX3_degreeOf_3 rfl (by decide) <|
  s_X3_degreeOf_4 h_X2_divided h_X2_left hJ
noncomputable def j_X3_degreeOf (F_X2_divided F_X2_left : KF) (J : List KC) : List KC := [b_X3_degreeOf_4 F_X2_divided F_X2_left J, b_X3_degreeOf_66 F_X2_divided F_X2_left J]
noncomputable def m_X3_degreeOf (F_X2_divided F_X2_left : KF) (n : Nat) : KF := k_fun [k_u, k_u, k_u] (b_X3_degreeOf_0 F_X2_divided F_X2_left (k_loop (j_X3_degreeOf F_X2_divided F_X2_left) n))
theorem r_X3_degreeOf {l : Launch} {D : va_G} {cI cS cM : ClassId} {F_X2_divided F_X2_left : KF} (h_X2_divided : k_snd l D cI cS cM yX2_divided cX2_divided 3 (some .int) 2 3 F_X2_divided) (h_X2_left : k_snd l D cI cS cM yX2_left cX2_left 3 (some .int) 1 2 F_X2_left) (n : Nat) : k_snd l D cI cS cM yX3_degreeOf cX3_degreeOf 5 (some .int) 3 2 (m_X3_degreeOf F_X2_divided F_X2_left n) :=
  k_method (by decide +kernel) (by simp) rfl (s_X3_degreeOf_0 h_X2_divided h_X2_left (k_loops (hs := [(4, 0), (66, 0)]) (fun J hJ i pc d h => match i, h with | 0, h => by cases h; exact s_X3_degreeOf_4 h_X2_divided h_X2_left hJ | 1, h => by cases h; exact s_X3_degreeOf_66 h_X2_divided h_X2_left hJ | _ + 2, h => by simp at h) n))
noncomputable def b_X3_meet_51 (F_X2_divided : KF) (J : List KC) : KC := o_aload 0 <| o_get 3 1 <| o_iload 3 <| o_aload 0 <| o_get 3 0 <| o_get 6 0 <| o_get 0 0 <| o_cV1 3 2 F_X2_divided <| o_iret
set_option maxRecDepth 100000 in
theorem s_X3_meet_51 {l : Launch} {D : va_G} {cI cS cM : ClassId} {F_X2_divided : KF} (h_X2_divided : k_snd l D cI cS cM yX2_divided cX2_divided 3 (some .int) 2 3 F_X2_divided) {J : List KC} (hJ : ∀ (i pc d : Nat), ([(5, 0)] : List (Nat × Nat))[i]? = some (pc, d) → KS l D cI cS cM yX3_meet.cls yX3_meet.name cX3_meet 5 (some .int) (k_rm 3 0 0) false pc d (k_jmp J i)) : KS l D cI cS cM yX3_meet.cls yX3_meet.name cX3_meet 5 (some .int) (k_rm 3 0 0) false 51 0 (b_X3_meet_51 F_X2_divided J) :=
  s_aload_n dX3_meet_51 rfl <|
  s_get dX3_meet_52 (ci := 3) (sl := 1) (Cn := RX3) (Tf := TX3) (N := 8) rfl (by decide) kiX3 kw_3_21 <|
  s_iload_n dX3_meet_55 rfl <|
  s_aload_n dX3_meet_56 rfl <|
  s_get dX3_meet_57 (ci := 3) (sl := 0) (Cn := RX3) (Tf := TX3) (N := 8) rfl (by decide) kiX3 kw_3_17 <|
  s_get dX3_meet_60 (ci := 6) (sl := 0) (Cn := RX6) (Tf := TX6) (N := 11) rfl (by decide) kiX6 kw_20_17 <|
  s_get dX3_meet_63 (ci := 0) (sl := 0) (Cn := RX0) (Tf := TX0) (N := 9) rfl (by decide) kiX0 kw_20_18 <|
  s_callV1 dX3_meet_66 kw_20_19 kw_20_9 kw_20_10 (ci := 2) rfl ok_X2_divided (by decide) (by decide) h_X2_divided (by decide) <|
  s_ireturn dX3_meet_69 rfl
noncomputable def b_X3_meet_14 (F_X2_divided : KF) (J : List KC) : KC := o_iload 3 <| o_aload 0 <| o_get 3 0 <| o_get 6 4 <| o_iload 4 <| o_iald <| o_aload 1 <| o_iload 4 <| o_iald <| o_bin n_mul <| o_aload 2 <| o_aload 0 <| o_get 3 0 <| o_get 6 7 <| o_iload 4 <| o_iald <| o_iald <| o_bin n_mul <| o_bin n_add <| o_istore 3 <| o_iinc 4 1 <| k_jmp J 0
set_option maxRecDepth 100000 in
theorem s_X3_meet_14 {l : Launch} {D : va_G} {cI cS cM : ClassId} {F_X2_divided : KF} (h_X2_divided : k_snd l D cI cS cM yX2_divided cX2_divided 3 (some .int) 2 3 F_X2_divided) {J : List KC} (hJ : ∀ (i pc d : Nat), ([(5, 0)] : List (Nat × Nat))[i]? = some (pc, d) → KS l D cI cS cM yX3_meet.cls yX3_meet.name cX3_meet 5 (some .int) (k_rm 3 0 0) false pc d (k_jmp J i)) : KS l D cI cS cM yX3_meet.cls yX3_meet.name cX3_meet 5 (some .int) (k_rm 3 0 0) false 14 0 (b_X3_meet_14 F_X2_divided J) :=
  s_iload_n dX3_meet_14 rfl <|
  s_aload_n dX3_meet_15 rfl <|
  s_get dX3_meet_16 (ci := 3) (sl := 0) (Cn := RX3) (Tf := TX3) (N := 8) rfl (by decide) kiX3 kw_3_17 <|
  s_get dX3_meet_19 (ci := 6) (sl := 4) (Cn := RX6) (Tf := TX6) (N := 11) rfl (by decide) kiX6 kw_17_15 <|
  s_iload dX3_meet_22 <|
  s_iald dX3_meet_24 <|
  s_aload_n dX3_meet_25 rfl <|
  s_iload dX3_meet_26 <|
  s_iald dX3_meet_28 <|
  s_imul dX3_meet_29 <|
  s_aload_n dX3_meet_30 rfl <|
  s_aload_n dX3_meet_31 rfl <|
  s_get dX3_meet_32 (ci := 3) (sl := 0) (Cn := RX3) (Tf := TX3) (N := 8) rfl (by decide) kiX3 kw_3_17 <|
  s_get dX3_meet_35 (ci := 6) (sl := 7) (Cn := RX6) (Tf := TX6) (N := 11) rfl (by decide) kiX6 kw_20_16 <|
  s_iload dX3_meet_38 <|
  s_iald dX3_meet_40 <|
  s_iald dX3_meet_41 <|
  s_imul dX3_meet_42 <|
  s_iadd dX3_meet_43 <|
  s_istore_n dX3_meet_44 rfl (by decide) <|
  s_iinc dX3_meet_45 (by decide) (by decide) <|
  s_goto dX3_meet_48 (by decide) (hJ 0 _ _ rfl)
noncomputable def b_X3_meet_5 (F_X2_divided : KF) (J : List KC) : KC := o_iload 4 <| o_aload 0 <| o_get 3 2 <| o_c2 s_lt (b_X3_meet_14 F_X2_divided J) (b_X3_meet_51 F_X2_divided J)
set_option maxRecDepth 100000 in
theorem s_X3_meet_5 {l : Launch} {D : va_G} {cI cS cM : ClassId} {F_X2_divided : KF} (h_X2_divided : k_snd l D cI cS cM yX2_divided cX2_divided 3 (some .int) 2 3 F_X2_divided) {J : List KC} (hJ : ∀ (i pc d : Nat), ([(5, 0)] : List (Nat × Nat))[i]? = some (pc, d) → KS l D cI cS cM yX3_meet.cls yX3_meet.name cX3_meet 5 (some .int) (k_rm 3 0 0) false pc d (k_jmp J i)) : KS l D cI cS cM yX3_meet.cls yX3_meet.name cX3_meet 5 (some .int) (k_rm 3 0 0) false 5 0 (b_X3_meet_5 F_X2_divided J) :=
  s_iload dX3_meet_5 <|
  s_aload_n dX3_meet_7 rfl <|
  s_get dX3_meet_8 (ci := 3) (sl := 2) (Cn := RX3) (Tf := TX3) (N := 8) rfl (by decide) kiX3 kw_3_22 <|
  s_icmp_ge dX3_meet_11 (by decide) (s_X3_meet_51 h_X2_divided hJ) (s_X3_meet_14 h_X2_divided hJ)
noncomputable def b_X3_meet_0 (F_X2_divided : KF) (J : List KC) : KC := o_push 0 <| o_istore 3 <| o_push 0 <| o_istore 4 <| b_X3_meet_5 F_X2_divided J
set_option maxRecDepth 100000 in
theorem s_X3_meet_0 {l : Launch} {D : va_G} {cI cS cM : ClassId} {F_X2_divided : KF} (h_X2_divided : k_snd l D cI cS cM yX2_divided cX2_divided 3 (some .int) 2 3 F_X2_divided) {J : List KC} (hJ : ∀ (i pc d : Nat), ([(5, 0)] : List (Nat × Nat))[i]? = some (pc, d) → KS l D cI cS cM yX3_meet.cls yX3_meet.name cX3_meet 5 (some .int) (k_rm 3 0 0) false pc d (k_jmp J i)) : KS l D cI cS cM yX3_meet.cls yX3_meet.name cX3_meet 5 (some .int) (k_rm 3 0 0) false 0 0 (b_X3_meet_0 F_X2_divided J) :=
  s_push1 dX3_meet_0 (by decide) (by decide) <|
  s_istore_n dX3_meet_1 rfl (by decide) <|
  s_push1 dX3_meet_2 (by decide) (by decide) <|
  s_istore dX3_meet_3 (by decide) <|
  s_X3_meet_5 h_X2_divided hJ
noncomputable def j_X3_meet (F_X2_divided : KF) (J : List KC) : List KC := [b_X3_meet_5 F_X2_divided J]
noncomputable def m_X3_meet (F_X2_divided : KF) (n : Nat) : KF := k_fun [k_u, k_u] (b_X3_meet_0 F_X2_divided (k_loop (j_X3_meet F_X2_divided) n))
theorem r_X3_meet {l : Launch} {D : va_G} {cI cS cM : ClassId} {F_X2_divided : KF} (h_X2_divided : k_snd l D cI cS cM yX2_divided cX2_divided 3 (some .int) 2 3 F_X2_divided) (n : Nat) : k_snd l D cI cS cM yX3_meet cX3_meet 5 (some .int) 3 3 (m_X3_meet F_X2_divided n) :=
  k_method (by decide +kernel) (by simp) rfl (s_X3_meet_0 h_X2_divided (k_loops (hs := [(5, 0)]) (fun J hJ i pc d h => match i, h with | 0, h => by cases h; exact s_X3_meet_5 h_X2_divided hJ | _ + 1, h => by simp at h) n))
noncomputable def b_X3_mirrorSign_84 (F_X6_powerSort F_X2_divided : KF) (J : List KC) : KC := o_iret
set_option maxRecDepth 100000 in
theorem s_X3_mirrorSign_84 {l : Launch} {D : va_G} {cI cS cM : ClassId} {F_X6_powerSort F_X2_divided : KF} (h_X6_powerSort : k_snd l D cI cS cM yX6_powerSort cX6_powerSort 3 (some .int) 1 3 F_X6_powerSort) (h_X2_divided : k_snd l D cI cS cM yX2_divided cX2_divided 3 (some .int) 2 3 F_X2_divided) {J : List KC} (hJ : ∀ (i pc d : Nat), ([(4, 0)] : List (Nat × Nat))[i]? = some (pc, d) → KS l D cI cS cM yX3_mirrorSign.cls yX3_mirrorSign.name cX3_mirrorSign 4 (some .int) (k_rm 3 0 0) false pc d (k_jmp J i)) : KS l D cI cS cM yX3_mirrorSign.cls yX3_mirrorSign.name cX3_mirrorSign 4 (some .int) (k_rm 3 0 0) false 84 1 (b_X3_mirrorSign_84 F_X6_powerSort F_X2_divided J) :=
  s_ireturn dX3_mirrorSign_84 rfl
noncomputable def b_X3_mirrorSign_83 (F_X6_powerSort F_X2_divided : KF) (J : List KC) : KC := o_iload 3 <| b_X3_mirrorSign_84 F_X6_powerSort F_X2_divided J
set_option maxRecDepth 100000 in
theorem s_X3_mirrorSign_83 {l : Launch} {D : va_G} {cI cS cM : ClassId} {F_X6_powerSort F_X2_divided : KF} (h_X6_powerSort : k_snd l D cI cS cM yX6_powerSort cX6_powerSort 3 (some .int) 1 3 F_X6_powerSort) (h_X2_divided : k_snd l D cI cS cM yX2_divided cX2_divided 3 (some .int) 2 3 F_X2_divided) {J : List KC} (hJ : ∀ (i pc d : Nat), ([(4, 0)] : List (Nat × Nat))[i]? = some (pc, d) → KS l D cI cS cM yX3_mirrorSign.cls yX3_mirrorSign.name cX3_mirrorSign 4 (some .int) (k_rm 3 0 0) false pc d (k_jmp J i)) : KS l D cI cS cM yX3_mirrorSign.cls yX3_mirrorSign.name cX3_mirrorSign 4 (some .int) (k_rm 3 0 0) false 83 0 (b_X3_mirrorSign_83 F_X6_powerSort F_X2_divided J) :=
  s_iload_n dX3_mirrorSign_83 rfl <|
  s_X3_mirrorSign_84 h_X6_powerSort h_X2_divided hJ
noncomputable def b_X3_mirrorSign_79 (F_X6_powerSort F_X2_divided : KF) (J : List KC) : KC := o_push 4294967295 <| b_X3_mirrorSign_84 F_X6_powerSort F_X2_divided J
set_option maxRecDepth 100000 in
theorem s_X3_mirrorSign_79 {l : Launch} {D : va_G} {cI cS cM : ClassId} {F_X6_powerSort F_X2_divided : KF} (h_X6_powerSort : k_snd l D cI cS cM yX6_powerSort cX6_powerSort 3 (some .int) 1 3 F_X6_powerSort) (h_X2_divided : k_snd l D cI cS cM yX2_divided cX2_divided 3 (some .int) 2 3 F_X2_divided) {J : List KC} (hJ : ∀ (i pc d : Nat), ([(4, 0)] : List (Nat × Nat))[i]? = some (pc, d) → KS l D cI cS cM yX3_mirrorSign.cls yX3_mirrorSign.name cX3_mirrorSign 4 (some .int) (k_rm 3 0 0) false pc d (k_jmp J i)) : KS l D cI cS cM yX3_mirrorSign.cls yX3_mirrorSign.name cX3_mirrorSign 4 (some .int) (k_rm 3 0 0) false 79 0 (b_X3_mirrorSign_79 F_X6_powerSort F_X2_divided J) :=
  s_push1 dX3_mirrorSign_79 (by decide) (by decide) <|
  s_goto dX3_mirrorSign_80 (by decide) (s_X3_mirrorSign_84 h_X6_powerSort h_X2_divided hJ)
noncomputable def b_X3_mirrorSign_47 (F_X6_powerSort F_X2_divided : KF) (J : List KC) : KC := o_aload 0 <| o_get 3 1 <| o_iload 2 <| o_aload 0 <| o_get 3 0 <| o_get 6 0 <| o_get 0 0 <| o_cV1 3 2 F_X2_divided <| o_istore 3 <| o_iload 3 <| o_aload 0 <| o_get 3 1 <| o_get 2 0 <| o_push 1 <| o_bin n_sub <| o_c2 Nat.beq (b_X3_mirrorSign_79 F_X6_powerSort F_X2_divided J) (b_X3_mirrorSign_83 F_X6_powerSort F_X2_divided J)
set_option maxRecDepth 100000 in
theorem s_X3_mirrorSign_47 {l : Launch} {D : va_G} {cI cS cM : ClassId} {F_X6_powerSort F_X2_divided : KF} (h_X6_powerSort : k_snd l D cI cS cM yX6_powerSort cX6_powerSort 3 (some .int) 1 3 F_X6_powerSort) (h_X2_divided : k_snd l D cI cS cM yX2_divided cX2_divided 3 (some .int) 2 3 F_X2_divided) {J : List KC} (hJ : ∀ (i pc d : Nat), ([(4, 0)] : List (Nat × Nat))[i]? = some (pc, d) → KS l D cI cS cM yX3_mirrorSign.cls yX3_mirrorSign.name cX3_mirrorSign 4 (some .int) (k_rm 3 0 0) false pc d (k_jmp J i)) : KS l D cI cS cM yX3_mirrorSign.cls yX3_mirrorSign.name cX3_mirrorSign 4 (some .int) (k_rm 3 0 0) false 47 0 (b_X3_mirrorSign_47 F_X6_powerSort F_X2_divided J) :=
  s_aload_n dX3_mirrorSign_47 rfl <|
  s_get dX3_mirrorSign_48 (ci := 3) (sl := 1) (Cn := RX3) (Tf := TX3) (N := 8) rfl (by decide) kiX3 kw_3_21 <|
  s_iload_n dX3_mirrorSign_51 rfl <|
  s_aload_n dX3_mirrorSign_52 rfl <|
  s_get dX3_mirrorSign_53 (ci := 3) (sl := 0) (Cn := RX3) (Tf := TX3) (N := 8) rfl (by decide) kiX3 kw_3_17 <|
  s_get dX3_mirrorSign_56 (ci := 6) (sl := 0) (Cn := RX6) (Tf := TX6) (N := 11) rfl (by decide) kiX6 kw_20_17 <|
  s_get dX3_mirrorSign_59 (ci := 0) (sl := 0) (Cn := RX0) (Tf := TX0) (N := 9) rfl (by decide) kiX0 kw_20_18 <|
  s_callV1 dX3_mirrorSign_62 kw_20_19 kw_20_9 kw_20_10 (ci := 2) rfl ok_X2_divided (by decide) (by decide) h_X2_divided (by decide) <|
  s_istore_n dX3_mirrorSign_65 rfl (by decide) <|
  s_iload_n dX3_mirrorSign_66 rfl <|
  s_aload_n dX3_mirrorSign_67 rfl <|
  s_get dX3_mirrorSign_68 (ci := 3) (sl := 1) (Cn := RX3) (Tf := TX3) (N := 8) rfl (by decide) kiX3 kw_3_21 <|
  s_get dX3_mirrorSign_71 (ci := 2) (sl := 0) (Cn := RX2) (Tf := TX2) (N := 4) rfl (by decide) kiX2 kw_32_5 <|
  s_push1 dX3_mirrorSign_74 (by decide) (by decide) <|
  s_isub dX3_mirrorSign_75 <|
  s_icmp_ne dX3_mirrorSign_76 (by decide) (s_X3_mirrorSign_83 h_X6_powerSort h_X2_divided hJ) (s_X3_mirrorSign_79 h_X6_powerSort h_X2_divided hJ)
noncomputable def b_X3_mirrorSign_12 (F_X6_powerSort F_X2_divided : KF) (J : List KC) : KC := o_iload 2 <| o_aload 0 <| o_get 3 0 <| o_get 6 4 <| o_iload 3 <| o_iald <| o_aload 0 <| o_get 3 5 <| o_iload 1 <| o_aald <| o_aload 0 <| o_get 3 0 <| o_iload 3 <| o_push 2 <| o_cV1 3 6 F_X6_powerSort <| o_iald <| o_bin n_mul <| o_bin n_add <| o_istore 2 <| o_iinc 3 1 <| k_jmp J 0
set_option maxRecDepth 100000 in
theorem s_X3_mirrorSign_12 {l : Launch} {D : va_G} {cI cS cM : ClassId} {F_X6_powerSort F_X2_divided : KF} (h_X6_powerSort : k_snd l D cI cS cM yX6_powerSort cX6_powerSort 3 (some .int) 1 3 F_X6_powerSort) (h_X2_divided : k_snd l D cI cS cM yX2_divided cX2_divided 3 (some .int) 2 3 F_X2_divided) {J : List KC} (hJ : ∀ (i pc d : Nat), ([(4, 0)] : List (Nat × Nat))[i]? = some (pc, d) → KS l D cI cS cM yX3_mirrorSign.cls yX3_mirrorSign.name cX3_mirrorSign 4 (some .int) (k_rm 3 0 0) false pc d (k_jmp J i)) : KS l D cI cS cM yX3_mirrorSign.cls yX3_mirrorSign.name cX3_mirrorSign 4 (some .int) (k_rm 3 0 0) false 12 0 (b_X3_mirrorSign_12 F_X6_powerSort F_X2_divided J) :=
  s_iload_n dX3_mirrorSign_12 rfl <|
  s_aload_n dX3_mirrorSign_13 rfl <|
  s_get dX3_mirrorSign_14 (ci := 3) (sl := 0) (Cn := RX3) (Tf := TX3) (N := 8) rfl (by decide) kiX3 kw_3_17 <|
  s_get dX3_mirrorSign_17 (ci := 6) (sl := 4) (Cn := RX6) (Tf := TX6) (N := 11) rfl (by decide) kiX6 kw_17_15 <|
  s_iload_n dX3_mirrorSign_20 rfl <|
  s_iald dX3_mirrorSign_21 <|
  s_aload_n dX3_mirrorSign_22 rfl <|
  s_get dX3_mirrorSign_23 (ci := 3) (sl := 5) (Cn := RX3) (Tf := TX3) (N := 8) rfl (by decide) kiX3 kw_4_2 <|
  s_iload_n dX3_mirrorSign_26 rfl <|
  s_aald dX3_mirrorSign_27 <|
  s_aload_n dX3_mirrorSign_28 rfl <|
  s_get dX3_mirrorSign_29 (ci := 3) (sl := 0) (Cn := RX3) (Tf := TX3) (N := 8) rfl (by decide) kiX3 kw_3_17 <|
  s_iload_n dX3_mirrorSign_32 rfl <|
  s_push1 dX3_mirrorSign_33 (by decide) (by decide) <|
  s_callV1 dX3_mirrorSign_34 kw_31_16 kw_28_16 kw_28_17 (ci := 6) rfl ok_X6_powerSort (by decide) (by decide) h_X6_powerSort (by decide) <|
  s_iald dX3_mirrorSign_37 <|
  s_imul dX3_mirrorSign_38 <|
  s_iadd dX3_mirrorSign_39 <|
  s_istore_n dX3_mirrorSign_40 rfl (by decide) <|
  s_iinc dX3_mirrorSign_41 (by decide) (by decide) <|
  s_goto dX3_mirrorSign_44 (by decide) (hJ 0 _ _ rfl)
noncomputable def b_X3_mirrorSign_4 (F_X6_powerSort F_X2_divided : KF) (J : List KC) : KC := o_iload 3 <| o_aload 0 <| o_get 3 2 <| o_c2 s_lt (b_X3_mirrorSign_12 F_X6_powerSort F_X2_divided J) (b_X3_mirrorSign_47 F_X6_powerSort F_X2_divided J)
set_option maxRecDepth 100000 in
theorem s_X3_mirrorSign_4 {l : Launch} {D : va_G} {cI cS cM : ClassId} {F_X6_powerSort F_X2_divided : KF} (h_X6_powerSort : k_snd l D cI cS cM yX6_powerSort cX6_powerSort 3 (some .int) 1 3 F_X6_powerSort) (h_X2_divided : k_snd l D cI cS cM yX2_divided cX2_divided 3 (some .int) 2 3 F_X2_divided) {J : List KC} (hJ : ∀ (i pc d : Nat), ([(4, 0)] : List (Nat × Nat))[i]? = some (pc, d) → KS l D cI cS cM yX3_mirrorSign.cls yX3_mirrorSign.name cX3_mirrorSign 4 (some .int) (k_rm 3 0 0) false pc d (k_jmp J i)) : KS l D cI cS cM yX3_mirrorSign.cls yX3_mirrorSign.name cX3_mirrorSign 4 (some .int) (k_rm 3 0 0) false 4 0 (b_X3_mirrorSign_4 F_X6_powerSort F_X2_divided J) :=
  s_iload_n dX3_mirrorSign_4 rfl <|
  s_aload_n dX3_mirrorSign_5 rfl <|
  s_get dX3_mirrorSign_6 (ci := 3) (sl := 2) (Cn := RX3) (Tf := TX3) (N := 8) rfl (by decide) kiX3 kw_3_22 <|
  s_icmp_ge dX3_mirrorSign_9 (by decide) (s_X3_mirrorSign_47 h_X6_powerSort h_X2_divided hJ) (s_X3_mirrorSign_12 h_X6_powerSort h_X2_divided hJ)
noncomputable def b_X3_mirrorSign_0 (F_X6_powerSort F_X2_divided : KF) (J : List KC) : KC := o_push 0 <| o_istore 2 <| o_push 0 <| o_istore 3 <| b_X3_mirrorSign_4 F_X6_powerSort F_X2_divided J
set_option maxRecDepth 100000 in
theorem s_X3_mirrorSign_0 {l : Launch} {D : va_G} {cI cS cM : ClassId} {F_X6_powerSort F_X2_divided : KF} (h_X6_powerSort : k_snd l D cI cS cM yX6_powerSort cX6_powerSort 3 (some .int) 1 3 F_X6_powerSort) (h_X2_divided : k_snd l D cI cS cM yX2_divided cX2_divided 3 (some .int) 2 3 F_X2_divided) {J : List KC} (hJ : ∀ (i pc d : Nat), ([(4, 0)] : List (Nat × Nat))[i]? = some (pc, d) → KS l D cI cS cM yX3_mirrorSign.cls yX3_mirrorSign.name cX3_mirrorSign 4 (some .int) (k_rm 3 0 0) false pc d (k_jmp J i)) : KS l D cI cS cM yX3_mirrorSign.cls yX3_mirrorSign.name cX3_mirrorSign 4 (some .int) (k_rm 3 0 0) false 0 0 (b_X3_mirrorSign_0 F_X6_powerSort F_X2_divided J) :=
  s_push1 dX3_mirrorSign_0 (by decide) (by decide) <|
  s_istore_n dX3_mirrorSign_1 rfl (by decide) <|
  s_push1 dX3_mirrorSign_2 (by decide) (by decide) <|
  s_istore_n dX3_mirrorSign_3 rfl (by decide) <|
  s_X3_mirrorSign_4 h_X6_powerSort h_X2_divided hJ
noncomputable def j_X3_mirrorSign (F_X6_powerSort F_X2_divided : KF) (J : List KC) : List KC := [b_X3_mirrorSign_4 F_X6_powerSort F_X2_divided J]
noncomputable def m_X3_mirrorSign (F_X6_powerSort F_X2_divided : KF) (n : Nat) : KF := k_fun [k_u, k_u] (b_X3_mirrorSign_0 F_X6_powerSort F_X2_divided (k_loop (j_X3_mirrorSign F_X6_powerSort F_X2_divided) n))
theorem r_X3_mirrorSign {l : Launch} {D : va_G} {cI cS cM : ClassId} {F_X6_powerSort F_X2_divided : KF} (h_X6_powerSort : k_snd l D cI cS cM yX6_powerSort cX6_powerSort 3 (some .int) 1 3 F_X6_powerSort) (h_X2_divided : k_snd l D cI cS cM yX2_divided cX2_divided 3 (some .int) 2 3 F_X2_divided) (n : Nat) : k_snd l D cI cS cM yX3_mirrorSign cX3_mirrorSign 4 (some .int) 3 2 (m_X3_mirrorSign F_X6_powerSort F_X2_divided n) :=
  k_method (by decide +kernel) (by simp) rfl (s_X3_mirrorSign_0 h_X6_powerSort h_X2_divided (k_loops (hs := [(4, 0)]) (fun J hJ i pc d h => match i, h with | 0, h => by cases h; exact s_X3_mirrorSign_4 h_X6_powerSort h_X2_divided hJ | _ + 1, h => by simp at h) n))
noncomputable def b_X3_putInOrder_47 (F_X3_comesBefore F_X3_exchange : KF) (J : List KC) : KC := o_ret
set_option maxRecDepth 100000 in
theorem s_X3_putInOrder_47 {l : Launch} {D : va_G} {cI cS cM : ClassId} {F_X3_comesBefore F_X3_exchange : KF} (h_X3_comesBefore : k_snd l D cI cS cM yX3_comesBefore cX3_comesBefore 4 (some .boolean) 2 3 F_X3_comesBefore) (h_X3_exchange : k_snd l D cI cS cM yX3_exchange cX3_exchange 5 none 1 3 F_X3_exchange) {J : List KC} (hJ : ∀ (i pc d : Nat), ([(2, 0), (12, 0)] : List (Nat × Nat))[i]? = some (pc, d) → KS l D cI cS cM yX3_putInOrder.cls yX3_putInOrder.name cX3_putInOrder 3 none (k_rm 3 0 0) false pc d (k_jmp J i)) : KS l D cI cS cM yX3_putInOrder.cls yX3_putInOrder.name cX3_putInOrder 3 none (k_rm 3 0 0) false 47 0 (b_X3_putInOrder_47 F_X3_comesBefore F_X3_exchange J) :=
  s_return dX3_putInOrder_47 rfl
noncomputable def b_X3_putInOrder_41 (F_X3_comesBefore F_X3_exchange : KF) (J : List KC) : KC := o_iinc 1 1 <| k_jmp J 0
set_option maxRecDepth 100000 in
theorem s_X3_putInOrder_41 {l : Launch} {D : va_G} {cI cS cM : ClassId} {F_X3_comesBefore F_X3_exchange : KF} (h_X3_comesBefore : k_snd l D cI cS cM yX3_comesBefore cX3_comesBefore 4 (some .boolean) 2 3 F_X3_comesBefore) (h_X3_exchange : k_snd l D cI cS cM yX3_exchange cX3_exchange 5 none 1 3 F_X3_exchange) {J : List KC} (hJ : ∀ (i pc d : Nat), ([(2, 0), (12, 0)] : List (Nat × Nat))[i]? = some (pc, d) → KS l D cI cS cM yX3_putInOrder.cls yX3_putInOrder.name cX3_putInOrder 3 none (k_rm 3 0 0) false pc d (k_jmp J i)) : KS l D cI cS cM yX3_putInOrder.cls yX3_putInOrder.name cX3_putInOrder 3 none (k_rm 3 0 0) false 41 0 (b_X3_putInOrder_41 F_X3_comesBefore F_X3_exchange J) :=
  s_iinc dX3_putInOrder_41 (by decide) (by decide) <|
  s_goto dX3_putInOrder_44 (by decide) (hJ 0 _ _ rfl)
noncomputable def b_X3_putInOrder_27 (F_X3_comesBefore F_X3_exchange : KF) (J : List KC) : KC := o_aload 0 <| o_iload 2 <| o_iload 2 <| o_push 1 <| o_bin n_sub <| o_cV0 3 3 F_X3_exchange <| o_iinc 2 4294967295 <| k_jmp J 1
set_option maxRecDepth 100000 in
theorem s_X3_putInOrder_27 {l : Launch} {D : va_G} {cI cS cM : ClassId} {F_X3_comesBefore F_X3_exchange : KF} (h_X3_comesBefore : k_snd l D cI cS cM yX3_comesBefore cX3_comesBefore 4 (some .boolean) 2 3 F_X3_comesBefore) (h_X3_exchange : k_snd l D cI cS cM yX3_exchange cX3_exchange 5 none 1 3 F_X3_exchange) {J : List KC} (hJ : ∀ (i pc d : Nat), ([(2, 0), (12, 0)] : List (Nat × Nat))[i]? = some (pc, d) → KS l D cI cS cM yX3_putInOrder.cls yX3_putInOrder.name cX3_putInOrder 3 none (k_rm 3 0 0) false pc d (k_jmp J i)) : KS l D cI cS cM yX3_putInOrder.cls yX3_putInOrder.name cX3_putInOrder 3 none (k_rm 3 0 0) false 27 0 (b_X3_putInOrder_27 F_X3_comesBefore F_X3_exchange J) :=
  s_aload_n dX3_putInOrder_27 rfl <|
  s_iload_n dX3_putInOrder_28 rfl <|
  s_iload_n dX3_putInOrder_29 rfl <|
  s_push1 dX3_putInOrder_30 (by decide) (by decide) <|
  s_isub dX3_putInOrder_31 <|
  s_callV0 dX3_putInOrder_32 kw_21_9 kw_21_10 kw_21_11 (ci := 3) rfl ok_X3_exchange (by decide) (by decide) h_X3_exchange (by decide) <|
  s_iinc dX3_putInOrder_35 (by decide) (by decide) <|
  s_goto dX3_putInOrder_38 (by decide) (hJ 1 _ _ rfl)
noncomputable def b_X3_putInOrder_16 (F_X3_comesBefore F_X3_exchange : KF) (J : List KC) : KC := o_aload 0 <| o_iload 2 <| o_iload 2 <| o_push 1 <| o_bin n_sub <| o_cV1 3 3 F_X3_comesBefore <| o_c1 g_eq (b_X3_putInOrder_41 F_X3_comesBefore F_X3_exchange J) (b_X3_putInOrder_27 F_X3_comesBefore F_X3_exchange J)
set_option maxRecDepth 100000 in
theorem s_X3_putInOrder_16 {l : Launch} {D : va_G} {cI cS cM : ClassId} {F_X3_comesBefore F_X3_exchange : KF} (h_X3_comesBefore : k_snd l D cI cS cM yX3_comesBefore cX3_comesBefore 4 (some .boolean) 2 3 F_X3_comesBefore) (h_X3_exchange : k_snd l D cI cS cM yX3_exchange cX3_exchange 5 none 1 3 F_X3_exchange) {J : List KC} (hJ : ∀ (i pc d : Nat), ([(2, 0), (12, 0)] : List (Nat × Nat))[i]? = some (pc, d) → KS l D cI cS cM yX3_putInOrder.cls yX3_putInOrder.name cX3_putInOrder 3 none (k_rm 3 0 0) false pc d (k_jmp J i)) : KS l D cI cS cM yX3_putInOrder.cls yX3_putInOrder.name cX3_putInOrder 3 none (k_rm 3 0 0) false 16 0 (b_X3_putInOrder_16 F_X3_comesBefore F_X3_exchange J) :=
  s_aload_n dX3_putInOrder_16 rfl <|
  s_iload_n dX3_putInOrder_17 rfl <|
  s_iload_n dX3_putInOrder_18 rfl <|
  s_push1 dX3_putInOrder_19 (by decide) (by decide) <|
  s_isub dX3_putInOrder_20 <|
  s_callV1 dX3_putInOrder_21 kw_21_1 kw_21_2 kw_21_3 (ci := 3) rfl ok_X3_comesBefore (by decide) (by decide) h_X3_comesBefore (by decide) <|
  s_if_eq dX3_putInOrder_24 (by decide) (s_X3_putInOrder_41 h_X3_comesBefore h_X3_exchange hJ) (s_X3_putInOrder_27 h_X3_comesBefore h_X3_exchange hJ)
noncomputable def b_X3_putInOrder_12 (F_X3_comesBefore F_X3_exchange : KF) (J : List KC) : KC := o_iload 2 <| o_c1 g_gt (b_X3_putInOrder_16 F_X3_comesBefore F_X3_exchange J) (b_X3_putInOrder_41 F_X3_comesBefore F_X3_exchange J)
set_option maxRecDepth 100000 in
theorem s_X3_putInOrder_12 {l : Launch} {D : va_G} {cI cS cM : ClassId} {F_X3_comesBefore F_X3_exchange : KF} (h_X3_comesBefore : k_snd l D cI cS cM yX3_comesBefore cX3_comesBefore 4 (some .boolean) 2 3 F_X3_comesBefore) (h_X3_exchange : k_snd l D cI cS cM yX3_exchange cX3_exchange 5 none 1 3 F_X3_exchange) {J : List KC} (hJ : ∀ (i pc d : Nat), ([(2, 0), (12, 0)] : List (Nat × Nat))[i]? = some (pc, d) → KS l D cI cS cM yX3_putInOrder.cls yX3_putInOrder.name cX3_putInOrder 3 none (k_rm 3 0 0) false pc d (k_jmp J i)) : KS l D cI cS cM yX3_putInOrder.cls yX3_putInOrder.name cX3_putInOrder 3 none (k_rm 3 0 0) false 12 0 (b_X3_putInOrder_12 F_X3_comesBefore F_X3_exchange J) :=
  s_iload_n dX3_putInOrder_12 rfl <|
  s_if_le dX3_putInOrder_13 (by decide) (s_X3_putInOrder_41 h_X3_comesBefore h_X3_exchange hJ) (s_X3_putInOrder_16 h_X3_comesBefore h_X3_exchange hJ)
noncomputable def b_X3_putInOrder_10 (F_X3_comesBefore F_X3_exchange : KF) (J : List KC) : KC := o_iload 1 <| o_istore 2 <| b_X3_putInOrder_12 F_X3_comesBefore F_X3_exchange J
set_option maxRecDepth 100000 in
theorem s_X3_putInOrder_10 {l : Launch} {D : va_G} {cI cS cM : ClassId} {F_X3_comesBefore F_X3_exchange : KF} (h_X3_comesBefore : k_snd l D cI cS cM yX3_comesBefore cX3_comesBefore 4 (some .boolean) 2 3 F_X3_comesBefore) (h_X3_exchange : k_snd l D cI cS cM yX3_exchange cX3_exchange 5 none 1 3 F_X3_exchange) {J : List KC} (hJ : ∀ (i pc d : Nat), ([(2, 0), (12, 0)] : List (Nat × Nat))[i]? = some (pc, d) → KS l D cI cS cM yX3_putInOrder.cls yX3_putInOrder.name cX3_putInOrder 3 none (k_rm 3 0 0) false pc d (k_jmp J i)) : KS l D cI cS cM yX3_putInOrder.cls yX3_putInOrder.name cX3_putInOrder 3 none (k_rm 3 0 0) false 10 0 (b_X3_putInOrder_10 F_X3_comesBefore F_X3_exchange J) :=
  s_iload_n dX3_putInOrder_10 rfl <|
  s_istore_n dX3_putInOrder_11 rfl (by decide) <|
  s_X3_putInOrder_12 h_X3_comesBefore h_X3_exchange hJ
noncomputable def b_X3_putInOrder_2 (F_X3_comesBefore F_X3_exchange : KF) (J : List KC) : KC := o_iload 1 <| o_aload 0 <| o_get 3 2 <| o_c2 s_lt (b_X3_putInOrder_10 F_X3_comesBefore F_X3_exchange J) (b_X3_putInOrder_47 F_X3_comesBefore F_X3_exchange J)
set_option maxRecDepth 100000 in
theorem s_X3_putInOrder_2 {l : Launch} {D : va_G} {cI cS cM : ClassId} {F_X3_comesBefore F_X3_exchange : KF} (h_X3_comesBefore : k_snd l D cI cS cM yX3_comesBefore cX3_comesBefore 4 (some .boolean) 2 3 F_X3_comesBefore) (h_X3_exchange : k_snd l D cI cS cM yX3_exchange cX3_exchange 5 none 1 3 F_X3_exchange) {J : List KC} (hJ : ∀ (i pc d : Nat), ([(2, 0), (12, 0)] : List (Nat × Nat))[i]? = some (pc, d) → KS l D cI cS cM yX3_putInOrder.cls yX3_putInOrder.name cX3_putInOrder 3 none (k_rm 3 0 0) false pc d (k_jmp J i)) : KS l D cI cS cM yX3_putInOrder.cls yX3_putInOrder.name cX3_putInOrder 3 none (k_rm 3 0 0) false 2 0 (b_X3_putInOrder_2 F_X3_comesBefore F_X3_exchange J) :=
  s_iload_n dX3_putInOrder_2 rfl <|
  s_aload_n dX3_putInOrder_3 rfl <|
  s_get dX3_putInOrder_4 (ci := 3) (sl := 2) (Cn := RX3) (Tf := TX3) (N := 8) rfl (by decide) kiX3 kw_3_22 <|
  s_icmp_ge dX3_putInOrder_7 (by decide) (s_X3_putInOrder_47 h_X3_comesBefore h_X3_exchange hJ) (s_X3_putInOrder_10 h_X3_comesBefore h_X3_exchange hJ)
noncomputable def b_X3_putInOrder_0 (F_X3_comesBefore F_X3_exchange : KF) (J : List KC) : KC := o_push 1 <| o_istore 1 <| b_X3_putInOrder_2 F_X3_comesBefore F_X3_exchange J
set_option maxRecDepth 100000 in
theorem s_X3_putInOrder_0 {l : Launch} {D : va_G} {cI cS cM : ClassId} {F_X3_comesBefore F_X3_exchange : KF} (h_X3_comesBefore : k_snd l D cI cS cM yX3_comesBefore cX3_comesBefore 4 (some .boolean) 2 3 F_X3_comesBefore) (h_X3_exchange : k_snd l D cI cS cM yX3_exchange cX3_exchange 5 none 1 3 F_X3_exchange) {J : List KC} (hJ : ∀ (i pc d : Nat), ([(2, 0), (12, 0)] : List (Nat × Nat))[i]? = some (pc, d) → KS l D cI cS cM yX3_putInOrder.cls yX3_putInOrder.name cX3_putInOrder 3 none (k_rm 3 0 0) false pc d (k_jmp J i)) : KS l D cI cS cM yX3_putInOrder.cls yX3_putInOrder.name cX3_putInOrder 3 none (k_rm 3 0 0) false 0 0 (b_X3_putInOrder_0 F_X3_comesBefore F_X3_exchange J) :=
  s_push1 dX3_putInOrder_0 (by decide) (by decide) <|
  s_istore_n dX3_putInOrder_1 rfl (by decide) <|
  s_X3_putInOrder_2 h_X3_comesBefore h_X3_exchange hJ
noncomputable def j_X3_putInOrder (F_X3_comesBefore F_X3_exchange : KF) (J : List KC) : List KC := [b_X3_putInOrder_2 F_X3_comesBefore F_X3_exchange J, b_X3_putInOrder_12 F_X3_comesBefore F_X3_exchange J]
noncomputable def m_X3_putInOrder (F_X3_comesBefore F_X3_exchange : KF) (n : Nat) : KF := k_fun [k_u, k_u] (b_X3_putInOrder_0 F_X3_comesBefore F_X3_exchange (k_loop (j_X3_putInOrder F_X3_comesBefore F_X3_exchange) n))
theorem r_X3_putInOrder {l : Launch} {D : va_G} {cI cS cM : ClassId} {F_X3_comesBefore F_X3_exchange : KF} (h_X3_comesBefore : k_snd l D cI cS cM yX3_comesBefore cX3_comesBefore 4 (some .boolean) 2 3 F_X3_comesBefore) (h_X3_exchange : k_snd l D cI cS cM yX3_exchange cX3_exchange 5 none 1 3 F_X3_exchange) (n : Nat) : k_snd l D cI cS cM yX3_putInOrder cX3_putInOrder 3 none 3 1 (m_X3_putInOrder F_X3_comesBefore F_X3_exchange n) :=
  k_method (by decide +kernel) (by simp) rfl (s_X3_putInOrder_0 h_X3_comesBefore h_X3_exchange (k_loops (hs := [(2, 0), (12, 0)]) (fun J hJ i pc d h => match i, h with | 0, h => by cases h; exact s_X3_putInOrder_2 h_X3_comesBefore h_X3_exchange hJ | 1, h => by cases h; exact s_X3_putInOrder_12 h_X3_comesBefore h_X3_exchange hJ | _ + 2, h => by simp at h) n))
noncomputable def b_X3_rootCount_112 (F_J9_floorMod_7cf53 F_X6_powerSort F_X2_divided : KF) (J : List KC) : KC := o_aload 0 <| o_get 3 1 <| o_iload 6 <| o_iload 4 <| o_cV1 3 2 F_X2_divided <| o_iret
set_option maxRecDepth 100000 in
theorem s_X3_rootCount_112 {l : Launch} {D : va_G} {cI cS cM : ClassId} {F_J9_floorMod_7cf53 F_X6_powerSort F_X2_divided : KF} (h_J9_floorMod_7cf53 : k_snd l D cI cS cM yJ9_floorMod_7cf53 cJ9_floorMod_7cf53 3 (some .int) 1 2 F_J9_floorMod_7cf53) (h_X6_powerSort : k_snd l D cI cS cM yX6_powerSort cX6_powerSort 3 (some .int) 1 3 F_X6_powerSort) (h_X2_divided : k_snd l D cI cS cM yX2_divided cX2_divided 3 (some .int) 2 3 F_X2_divided) {J : List KC} (hJ : ∀ (i pc d : Nat), ([(46, 0)] : List (Nat × Nat))[i]? = some (pc, d) → KS l D cI cS cM yX3_rootCount.cls yX3_rootCount.name cX3_rootCount 9 (some .int) (k_rm 3 0 0) false pc d (k_jmp J i)) : KS l D cI cS cM yX3_rootCount.cls yX3_rootCount.name cX3_rootCount 9 (some .int) (k_rm 3 0 0) false 112 0 (b_X3_rootCount_112 F_J9_floorMod_7cf53 F_X6_powerSort F_X2_divided J) :=
  s_aload_n dX3_rootCount_112 rfl <|
  s_get dX3_rootCount_113 (ci := 3) (sl := 1) (Cn := RX3) (Tf := TX3) (N := 8) rfl (by decide) kiX3 kw_3_21 <|
  s_iload dX3_rootCount_116 <|
  s_iload dX3_rootCount_118 <|
  s_callV1 dX3_rootCount_120 kw_20_19 kw_20_9 kw_20_10 (ci := 2) rfl ok_X2_divided (by decide) (by decide) h_X2_divided (by decide) <|
  s_ireturn dX3_rootCount_123 rfl
noncomputable def b_X3_rootCount_53 (F_J9_floorMod_7cf53 F_X6_powerSort F_X2_divided : KF) (J : List KC) : KC := o_iload 5 <| o_neg <| o_iload 7 <| o_bin n_mul <| o_iload 3 <| o_bin n_mul <| o_aload 0 <| o_get 3 0 <| o_get 6 2 <| o_cS1 2 F_J9_floorMod_7cf53 <| o_istore 8 <| o_iload 6 <| o_aload 0 <| o_get 3 5 <| o_iload 1 <| o_aald <| o_aload 0 <| o_get 3 0 <| o_iload 2 <| o_iload 7 <| o_cV1 3 6 F_X6_powerSort <| o_iald <| o_aload 0 <| o_get 3 1 <| o_get 2 3 <| o_iload 8 <| o_iald <| o_bin n_mul <| o_bin n_add <| o_istore 6 <| o_iinc 7 1 <| k_jmp J 0
set_option maxRecDepth 100000 in
theorem s_X3_rootCount_53 {l : Launch} {D : va_G} {cI cS cM : ClassId} {F_J9_floorMod_7cf53 F_X6_powerSort F_X2_divided : KF} (h_J9_floorMod_7cf53 : k_snd l D cI cS cM yJ9_floorMod_7cf53 cJ9_floorMod_7cf53 3 (some .int) 1 2 F_J9_floorMod_7cf53) (h_X6_powerSort : k_snd l D cI cS cM yX6_powerSort cX6_powerSort 3 (some .int) 1 3 F_X6_powerSort) (h_X2_divided : k_snd l D cI cS cM yX2_divided cX2_divided 3 (some .int) 2 3 F_X2_divided) {J : List KC} (hJ : ∀ (i pc d : Nat), ([(46, 0)] : List (Nat × Nat))[i]? = some (pc, d) → KS l D cI cS cM yX3_rootCount.cls yX3_rootCount.name cX3_rootCount 9 (some .int) (k_rm 3 0 0) false pc d (k_jmp J i)) : KS l D cI cS cM yX3_rootCount.cls yX3_rootCount.name cX3_rootCount 9 (some .int) (k_rm 3 0 0) false 53 0 (b_X3_rootCount_53 F_J9_floorMod_7cf53 F_X6_powerSort F_X2_divided J) :=
  s_iload dX3_rootCount_53 <|
  s_ineg dX3_rootCount_55 <|
  s_iload dX3_rootCount_56 <|
  s_imul dX3_rootCount_58 <|
  s_iload_n dX3_rootCount_59 rfl <|
  s_imul dX3_rootCount_60 <|
  s_aload_n dX3_rootCount_61 rfl <|
  s_get dX3_rootCount_62 (ci := 3) (sl := 0) (Cn := RX3) (Tf := TX3) (N := 8) rfl (by decide) kiX3 kw_3_17 <|
  s_get dX3_rootCount_65 (ci := 6) (sl := 2) (Cn := RX6) (Tf := TX6) (N := 11) rfl (by decide) kiX6 kw_31_10 <|
  s_callS1 dX3_rootCount_68 kw_31_12 kw_31_13 ok_J9_floorMod_7cf53 (by decide) (by decide) h_J9_floorMod_7cf53 (by decide) <|
  s_istore dX3_rootCount_71 (by decide) <|
  s_iload dX3_rootCount_73 <|
  s_aload_n dX3_rootCount_75 rfl <|
  s_get dX3_rootCount_76 (ci := 3) (sl := 5) (Cn := RX3) (Tf := TX3) (N := 8) rfl (by decide) kiX3 kw_4_2 <|
  s_iload_n dX3_rootCount_79 rfl <|
  s_aald dX3_rootCount_80 <|
  s_aload_n dX3_rootCount_81 rfl <|
  s_get dX3_rootCount_82 (ci := 3) (sl := 0) (Cn := RX3) (Tf := TX3) (N := 8) rfl (by decide) kiX3 kw_3_17 <|
  s_iload_n dX3_rootCount_85 rfl <|
  s_iload dX3_rootCount_86 <|
  s_callV1 dX3_rootCount_88 kw_31_16 kw_28_16 kw_28_17 (ci := 6) rfl ok_X6_powerSort (by decide) (by decide) h_X6_powerSort (by decide) <|
  s_iald dX3_rootCount_91 <|
  s_aload_n dX3_rootCount_92 rfl <|
  s_get dX3_rootCount_93 (ci := 3) (sl := 1) (Cn := RX3) (Tf := TX3) (N := 8) rfl (by decide) kiX3 kw_3_21 <|
  s_get dX3_rootCount_96 (ci := 2) (sl := 3) (Cn := RX2) (Tf := TX2) (N := 4) rfl (by decide) kiX2 kw_31_11 <|
  s_iload dX3_rootCount_99 <|
  s_iald dX3_rootCount_101 <|
  s_imul dX3_rootCount_102 <|
  s_iadd dX3_rootCount_103 <|
  s_istore dX3_rootCount_104 (by decide) <|
  s_iinc dX3_rootCount_106 (by decide) (by decide) <|
  s_goto dX3_rootCount_109 (by decide) (hJ 0 _ _ rfl)
noncomputable def b_X3_rootCount_46 (F_J9_floorMod_7cf53 F_X6_powerSort F_X2_divided : KF) (J : List KC) : KC := o_iload 7 <| o_iload 4 <| o_c2 s_lt (b_X3_rootCount_53 F_J9_floorMod_7cf53 F_X6_powerSort F_X2_divided J) (b_X3_rootCount_112 F_J9_floorMod_7cf53 F_X6_powerSort F_X2_divided J)
set_option maxRecDepth 100000 in
theorem s_X3_rootCount_46 {l : Launch} {D : va_G} {cI cS cM : ClassId} {F_J9_floorMod_7cf53 F_X6_powerSort F_X2_divided : KF} (h_J9_floorMod_7cf53 : k_snd l D cI cS cM yJ9_floorMod_7cf53 cJ9_floorMod_7cf53 3 (some .int) 1 2 F_J9_floorMod_7cf53) (h_X6_powerSort : k_snd l D cI cS cM yX6_powerSort cX6_powerSort 3 (some .int) 1 3 F_X6_powerSort) (h_X2_divided : k_snd l D cI cS cM yX2_divided cX2_divided 3 (some .int) 2 3 F_X2_divided) {J : List KC} (hJ : ∀ (i pc d : Nat), ([(46, 0)] : List (Nat × Nat))[i]? = some (pc, d) → KS l D cI cS cM yX3_rootCount.cls yX3_rootCount.name cX3_rootCount 9 (some .int) (k_rm 3 0 0) false pc d (k_jmp J i)) : KS l D cI cS cM yX3_rootCount.cls yX3_rootCount.name cX3_rootCount 9 (some .int) (k_rm 3 0 0) false 46 0 (b_X3_rootCount_46 F_J9_floorMod_7cf53 F_X6_powerSort F_X2_divided J) :=
  s_iload dX3_rootCount_46 <|
  s_iload dX3_rootCount_48 <|
  s_icmp_ge dX3_rootCount_50 (by decide) (s_X3_rootCount_112 h_J9_floorMod_7cf53 h_X6_powerSort h_X2_divided hJ) (s_X3_rootCount_53 h_J9_floorMod_7cf53 h_X6_powerSort h_X2_divided hJ)
noncomputable def b_X3_rootCount_28 (F_J9_floorMod_7cf53 F_X6_powerSort F_X2_divided : KF) (J : List KC) : KC := o_aload 0 <| o_get 3 0 <| o_get 6 2 <| o_iload 4 <| o_div n_div <| o_istore 5 <| o_push 0 <| o_istore 6 <| o_push 0 <| o_istore 7 <| b_X3_rootCount_46 F_J9_floorMod_7cf53 F_X6_powerSort F_X2_divided J
set_option maxRecDepth 100000 in
theorem s_X3_rootCount_28 {l : Launch} {D : va_G} {cI cS cM : ClassId} {F_J9_floorMod_7cf53 F_X6_powerSort F_X2_divided : KF} (h_J9_floorMod_7cf53 : k_snd l D cI cS cM yJ9_floorMod_7cf53 cJ9_floorMod_7cf53 3 (some .int) 1 2 F_J9_floorMod_7cf53) (h_X6_powerSort : k_snd l D cI cS cM yX6_powerSort cX6_powerSort 3 (some .int) 1 3 F_X6_powerSort) (h_X2_divided : k_snd l D cI cS cM yX2_divided cX2_divided 3 (some .int) 2 3 F_X2_divided) {J : List KC} (hJ : ∀ (i pc d : Nat), ([(46, 0)] : List (Nat × Nat))[i]? = some (pc, d) → KS l D cI cS cM yX3_rootCount.cls yX3_rootCount.name cX3_rootCount 9 (some .int) (k_rm 3 0 0) false pc d (k_jmp J i)) : KS l D cI cS cM yX3_rootCount.cls yX3_rootCount.name cX3_rootCount 9 (some .int) (k_rm 3 0 0) false 28 0 (b_X3_rootCount_28 F_J9_floorMod_7cf53 F_X6_powerSort F_X2_divided J) :=
  s_aload_n dX3_rootCount_28 rfl <|
  s_get dX3_rootCount_29 (ci := 3) (sl := 0) (Cn := RX3) (Tf := TX3) (N := 8) rfl (by decide) kiX3 kw_3_17 <|
  s_get dX3_rootCount_32 (ci := 6) (sl := 2) (Cn := RX6) (Tf := TX6) (N := 11) rfl (by decide) kiX6 kw_31_10 <|
  s_iload dX3_rootCount_35 <|
  s_idiv dX3_rootCount_37 <|
  s_istore dX3_rootCount_38 (by decide) <|
  s_push1 dX3_rootCount_40 (by decide) (by decide) <|
  s_istore dX3_rootCount_41 (by decide) <|
  s_push1 dX3_rootCount_43 (by decide) (by decide) <|
  s_istore dX3_rootCount_44 (by decide) <|
  s_X3_rootCount_46 h_J9_floorMod_7cf53 h_X6_powerSort h_X2_divided hJ
noncomputable def b_X3_rootCount_26 (F_J9_floorMod_7cf53 F_X6_powerSort F_X2_divided : KF) (J : List KC) : KC := o_push 0 <| o_iret
set_option maxRecDepth 100000 in
theorem s_X3_rootCount_26 {l : Launch} {D : va_G} {cI cS cM : ClassId} {F_J9_floorMod_7cf53 F_X6_powerSort F_X2_divided : KF} (h_J9_floorMod_7cf53 : k_snd l D cI cS cM yJ9_floorMod_7cf53 cJ9_floorMod_7cf53 3 (some .int) 1 2 F_J9_floorMod_7cf53) (h_X6_powerSort : k_snd l D cI cS cM yX6_powerSort cX6_powerSort 3 (some .int) 1 3 F_X6_powerSort) (h_X2_divided : k_snd l D cI cS cM yX2_divided cX2_divided 3 (some .int) 2 3 F_X2_divided) {J : List KC} (hJ : ∀ (i pc d : Nat), ([(46, 0)] : List (Nat × Nat))[i]? = some (pc, d) → KS l D cI cS cM yX3_rootCount.cls yX3_rootCount.name cX3_rootCount 9 (some .int) (k_rm 3 0 0) false pc d (k_jmp J i)) : KS l D cI cS cM yX3_rootCount.cls yX3_rootCount.name cX3_rootCount 9 (some .int) (k_rm 3 0 0) false 26 0 (b_X3_rootCount_26 F_J9_floorMod_7cf53 F_X6_powerSort F_X2_divided J) :=
  s_push1 dX3_rootCount_26 (by decide) (by decide) <|
  s_ireturn dX3_rootCount_27 rfl
noncomputable def b_X3_rootCount_16 (F_J9_floorMod_7cf53 F_X6_powerSort F_X2_divided : KF) (J : List KC) : KC := o_aload 0 <| o_get 3 0 <| o_get 6 2 <| o_c1 g_gt (b_X3_rootCount_28 F_J9_floorMod_7cf53 F_X6_powerSort F_X2_divided J) (b_X3_rootCount_26 F_J9_floorMod_7cf53 F_X6_powerSort F_X2_divided J)
set_option maxRecDepth 100000 in
theorem s_X3_rootCount_16 {l : Launch} {D : va_G} {cI cS cM : ClassId} {F_J9_floorMod_7cf53 F_X6_powerSort F_X2_divided : KF} (h_J9_floorMod_7cf53 : k_snd l D cI cS cM yJ9_floorMod_7cf53 cJ9_floorMod_7cf53 3 (some .int) 1 2 F_J9_floorMod_7cf53) (h_X6_powerSort : k_snd l D cI cS cM yX6_powerSort cX6_powerSort 3 (some .int) 1 3 F_X6_powerSort) (h_X2_divided : k_snd l D cI cS cM yX2_divided cX2_divided 3 (some .int) 2 3 F_X2_divided) {J : List KC} (hJ : ∀ (i pc d : Nat), ([(46, 0)] : List (Nat × Nat))[i]? = some (pc, d) → KS l D cI cS cM yX3_rootCount.cls yX3_rootCount.name cX3_rootCount 9 (some .int) (k_rm 3 0 0) false pc d (k_jmp J i)) : KS l D cI cS cM yX3_rootCount.cls yX3_rootCount.name cX3_rootCount 9 (some .int) (k_rm 3 0 0) false 16 0 (b_X3_rootCount_16 F_J9_floorMod_7cf53 F_X6_powerSort F_X2_divided J) :=
  s_aload_n dX3_rootCount_16 rfl <|
  s_get dX3_rootCount_17 (ci := 3) (sl := 0) (Cn := RX3) (Tf := TX3) (N := 8) rfl (by decide) kiX3 kw_3_17 <|
  s_get dX3_rootCount_20 (ci := 6) (sl := 2) (Cn := RX6) (Tf := TX6) (N := 11) rfl (by decide) kiX6 kw_31_10 <|
  s_if_gt dX3_rootCount_23 (by decide) (s_X3_rootCount_28 h_J9_floorMod_7cf53 h_X6_powerSort h_X2_divided hJ) (s_X3_rootCount_26 h_J9_floorMod_7cf53 h_X6_powerSort h_X2_divided hJ)
noncomputable def b_X3_rootCount_0 (F_J9_floorMod_7cf53 F_X6_powerSort F_X2_divided : KF) (J : List KC) : KC := o_aload 0 <| o_get 3 0 <| o_get 6 5 <| o_iload 2 <| o_iald <| o_istore 4 <| o_iload 4 <| o_c1 g_gt (b_X3_rootCount_16 F_J9_floorMod_7cf53 F_X6_powerSort F_X2_divided J) (b_X3_rootCount_26 F_J9_floorMod_7cf53 F_X6_powerSort F_X2_divided J)
set_option maxRecDepth 100000 in
theorem s_X3_rootCount_0 {l : Launch} {D : va_G} {cI cS cM : ClassId} {F_J9_floorMod_7cf53 F_X6_powerSort F_X2_divided : KF} (h_J9_floorMod_7cf53 : k_snd l D cI cS cM yJ9_floorMod_7cf53 cJ9_floorMod_7cf53 3 (some .int) 1 2 F_J9_floorMod_7cf53) (h_X6_powerSort : k_snd l D cI cS cM yX6_powerSort cX6_powerSort 3 (some .int) 1 3 F_X6_powerSort) (h_X2_divided : k_snd l D cI cS cM yX2_divided cX2_divided 3 (some .int) 2 3 F_X2_divided) {J : List KC} (hJ : ∀ (i pc d : Nat), ([(46, 0)] : List (Nat × Nat))[i]? = some (pc, d) → KS l D cI cS cM yX3_rootCount.cls yX3_rootCount.name cX3_rootCount 9 (some .int) (k_rm 3 0 0) false pc d (k_jmp J i)) : KS l D cI cS cM yX3_rootCount.cls yX3_rootCount.name cX3_rootCount 9 (some .int) (k_rm 3 0 0) false 0 0 (b_X3_rootCount_0 F_J9_floorMod_7cf53 F_X6_powerSort F_X2_divided J) :=
  s_aload_n dX3_rootCount_0 rfl <|
  s_get dX3_rootCount_1 (ci := 3) (sl := 0) (Cn := RX3) (Tf := TX3) (N := 8) rfl (by decide) kiX3 kw_3_17 <|
  s_get dX3_rootCount_4 (ci := 6) (sl := 5) (Cn := RX6) (Tf := TX6) (N := 11) rfl (by decide) kiX6 kw_31_9 <|
  s_iload_n dX3_rootCount_7 rfl <|
  s_iald dX3_rootCount_8 <|
  s_istore dX3_rootCount_9 (by decide) <|
  s_iload dX3_rootCount_11 <|
  s_if_le dX3_rootCount_13 (by decide) (s_X3_rootCount_26 h_J9_floorMod_7cf53 h_X6_powerSort h_X2_divided hJ) (s_X3_rootCount_16 h_J9_floorMod_7cf53 h_X6_powerSort h_X2_divided hJ)
noncomputable def j_X3_rootCount (F_J9_floorMod_7cf53 F_X6_powerSort F_X2_divided : KF) (J : List KC) : List KC := [b_X3_rootCount_46 F_J9_floorMod_7cf53 F_X6_powerSort F_X2_divided J]
noncomputable def m_X3_rootCount (F_J9_floorMod_7cf53 F_X6_powerSort F_X2_divided : KF) (n : Nat) : KF := k_fun [k_u, k_u, k_u, k_u, k_u] (b_X3_rootCount_0 F_J9_floorMod_7cf53 F_X6_powerSort F_X2_divided (k_loop (j_X3_rootCount F_J9_floorMod_7cf53 F_X6_powerSort F_X2_divided) n))
theorem r_X3_rootCount {l : Launch} {D : va_G} {cI cS cM : ClassId} {F_J9_floorMod_7cf53 F_X6_powerSort F_X2_divided : KF} (h_J9_floorMod_7cf53 : k_snd l D cI cS cM yJ9_floorMod_7cf53 cJ9_floorMod_7cf53 3 (some .int) 1 2 F_J9_floorMod_7cf53) (h_X6_powerSort : k_snd l D cI cS cM yX6_powerSort cX6_powerSort 3 (some .int) 1 3 F_X6_powerSort) (h_X2_divided : k_snd l D cI cS cM yX2_divided cX2_divided 3 (some .int) 2 3 F_X2_divided) (n : Nat) : k_snd l D cI cS cM yX3_rootCount cX3_rootCount 9 (some .int) 3 4 (m_X3_rootCount F_J9_floorMod_7cf53 F_X6_powerSort F_X2_divided n) :=
  k_method (by decide +kernel) (by simp) rfl (s_X3_rootCount_0 h_J9_floorMod_7cf53 h_X6_powerSort h_X2_divided (k_loops (hs := [(46, 0)]) (fun J hJ i pc d h => match i, h with | 0, h => by cases h; exact s_X3_rootCount_46 h_J9_floorMod_7cf53 h_X6_powerSort h_X2_divided hJ | _ + 1, h => by simp at h) n))
noncomputable def b_X3_build_131 (F_X7_takeApart F_X7_copyLine F_X3_degreeOf F_X2_divided F_X3_putInOrder : KF) (J : List KC) : KC := o_aload 0 <| o_cV0 1 3 F_X3_putInOrder <| o_ret
set_option maxRecDepth 100000 in
theorem s_X3_build_131 {l : Launch} {D : va_G} {cI cS cM : ClassId} {F_X7_takeApart F_X7_copyLine F_X3_degreeOf F_X2_divided F_X3_putInOrder : KF} (h_X7_takeApart : k_snd l D cI cS cM yX7_takeApart cX7_takeApart 5 none 4 3 F_X7_takeApart) (h_X7_copyLine : k_snd l D cI cS cM yX7_copyLine cX7_copyLine 5 none 3 4 F_X7_copyLine) (h_X3_degreeOf : k_snd l D cI cS cM yX3_degreeOf cX3_degreeOf 5 (some .int) 3 2 F_X3_degreeOf) (h_X2_divided : k_snd l D cI cS cM yX2_divided cX2_divided 3 (some .int) 2 3 F_X2_divided) (h_X3_putInOrder : k_snd l D cI cS cM yX3_putInOrder cX3_putInOrder 3 none 3 1 F_X3_putInOrder) {J : List KC} (hJ : ∀ (i pc d : Nat), ([(28, 0), (72, 0)] : List (Nat × Nat))[i]? = some (pc, d) → KS l D cI cS cM yX3_build.cls yX3_build.name cX3_build 3 none (k_rm 5 0 0) false pc d (k_jmp J i)) : KS l D cI cS cM yX3_build.cls yX3_build.name cX3_build 3 none (k_rm 5 0 0) false 131 0 (b_X3_build_131 F_X7_takeApart F_X7_copyLine F_X3_degreeOf F_X2_divided F_X3_putInOrder J) :=
  s_aload_n dX3_build_131 rfl <|
  s_callV0 dX3_build_132 kw_20_21 kw_20_22 kw_20_23 (ci := 3) rfl ok_X3_putInOrder (by decide) (by decide) h_X3_putInOrder (by decide) <|
  s_return dX3_build_135 rfl
noncomputable def b_X3_build_125 (F_X7_takeApart F_X7_copyLine F_X3_degreeOf F_X2_divided F_X3_putInOrder : KF) (J : List KC) : KC := o_iinc 1 1 <| k_jmp J 0
set_option maxRecDepth 100000 in
theorem s_X3_build_125 {l : Launch} {D : va_G} {cI cS cM : ClassId} {F_X7_takeApart F_X7_copyLine F_X3_degreeOf F_X2_divided F_X3_putInOrder : KF} (h_X7_takeApart : k_snd l D cI cS cM yX7_takeApart cX7_takeApart 5 none 4 3 F_X7_takeApart) (h_X7_copyLine : k_snd l D cI cS cM yX7_copyLine cX7_copyLine 5 none 3 4 F_X7_copyLine) (h_X3_degreeOf : k_snd l D cI cS cM yX3_degreeOf cX3_degreeOf 5 (some .int) 3 2 F_X3_degreeOf) (h_X2_divided : k_snd l D cI cS cM yX2_divided cX2_divided 3 (some .int) 2 3 F_X2_divided) (h_X3_putInOrder : k_snd l D cI cS cM yX3_putInOrder cX3_putInOrder 3 none 3 1 F_X3_putInOrder) {J : List KC} (hJ : ∀ (i pc d : Nat), ([(28, 0), (72, 0)] : List (Nat × Nat))[i]? = some (pc, d) → KS l D cI cS cM yX3_build.cls yX3_build.name cX3_build 3 none (k_rm 5 0 0) false pc d (k_jmp J i)) : KS l D cI cS cM yX3_build.cls yX3_build.name cX3_build 3 none (k_rm 5 0 0) false 125 0 (b_X3_build_125 F_X7_takeApart F_X7_copyLine F_X3_degreeOf F_X2_divided F_X3_putInOrder J) :=
  s_iinc dX3_build_125 (by decide) (by decide) <|
  s_goto dX3_build_128 (by decide) (hJ 0 _ _ rfl)
noncomputable def b_X3_build_80 (F_X7_takeApart F_X7_copyLine F_X3_degreeOf F_X2_divided F_X3_putInOrder : KF) (J : List KC) : KC := o_aload 0 <| o_get 3 5 <| o_iload 1 <| o_aald <| o_iload 2 <| o_aload 0 <| o_get 3 1 <| o_aload 0 <| o_get 3 3 <| o_iload 1 <| o_iald <| o_aload 0 <| o_get 3 4 <| o_iload 1 <| o_aald <| o_iload 2 <| o_iald <| o_bin n_mul <| o_aload 0 <| o_get 3 0 <| o_get 6 4 <| o_iload 2 <| o_iald <| o_cV1 3 2 F_X2_divided <| o_iast <| o_iinc 2 1 <| k_jmp J 1
set_option maxRecDepth 100000 in
theorem s_X3_build_80 {l : Launch} {D : va_G} {cI cS cM : ClassId} {F_X7_takeApart F_X7_copyLine F_X3_degreeOf F_X2_divided F_X3_putInOrder : KF} (h_X7_takeApart : k_snd l D cI cS cM yX7_takeApart cX7_takeApart 5 none 4 3 F_X7_takeApart) (h_X7_copyLine : k_snd l D cI cS cM yX7_copyLine cX7_copyLine 5 none 3 4 F_X7_copyLine) (h_X3_degreeOf : k_snd l D cI cS cM yX3_degreeOf cX3_degreeOf 5 (some .int) 3 2 F_X3_degreeOf) (h_X2_divided : k_snd l D cI cS cM yX2_divided cX2_divided 3 (some .int) 2 3 F_X2_divided) (h_X3_putInOrder : k_snd l D cI cS cM yX3_putInOrder cX3_putInOrder 3 none 3 1 F_X3_putInOrder) {J : List KC} (hJ : ∀ (i pc d : Nat), ([(28, 0), (72, 0)] : List (Nat × Nat))[i]? = some (pc, d) → KS l D cI cS cM yX3_build.cls yX3_build.name cX3_build 3 none (k_rm 5 0 0) false pc d (k_jmp J i)) : KS l D cI cS cM yX3_build.cls yX3_build.name cX3_build 3 none (k_rm 5 0 0) false 80 0 (b_X3_build_80 F_X7_takeApart F_X7_copyLine F_X3_degreeOf F_X2_divided F_X3_putInOrder J) :=
  s_aload_n dX3_build_80 rfl <|
  s_get dX3_build_81 (ci := 3) (sl := 5) (Cn := RX3) (Tf := TX3) (N := 8) rfl (by decide) kiX3 kw_4_2 <|
  s_iload_n dX3_build_84 rfl <|
  s_aald dX3_build_85 <|
  s_iload_n dX3_build_86 rfl <|
  s_aload_n dX3_build_87 rfl <|
  s_get dX3_build_88 (ci := 3) (sl := 1) (Cn := RX3) (Tf := TX3) (N := 8) rfl (by decide) kiX3 kw_3_21 <|
  s_aload_n dX3_build_91 rfl <|
  s_get dX3_build_92 (ci := 3) (sl := 3) (Cn := RX3) (Tf := TX3) (N := 8) rfl (by decide) kiX3 kw_3_23 <|
  s_iload_n dX3_build_95 rfl <|
  s_iald dX3_build_96 <|
  s_aload_n dX3_build_97 rfl <|
  s_get dX3_build_98 (ci := 3) (sl := 4) (Cn := RX3) (Tf := TX3) (N := 8) rfl (by decide) kiX3 kw_4_1 <|
  s_iload_n dX3_build_101 rfl <|
  s_aald dX3_build_102 <|
  s_iload_n dX3_build_103 rfl <|
  s_iald dX3_build_104 <|
  s_imul dX3_build_105 <|
  s_aload_n dX3_build_106 rfl <|
  s_get dX3_build_107 (ci := 3) (sl := 0) (Cn := RX3) (Tf := TX3) (N := 8) rfl (by decide) kiX3 kw_3_17 <|
  s_get dX3_build_110 (ci := 6) (sl := 4) (Cn := RX6) (Tf := TX6) (N := 11) rfl (by decide) kiX6 kw_17_15 <|
  s_iload_n dX3_build_113 rfl <|
  s_iald dX3_build_114 <|
  s_callV1 dX3_build_115 kw_20_19 kw_20_9 kw_20_10 (ci := 2) rfl ok_X2_divided (by decide) (by decide) h_X2_divided (by decide) <|
  s_iast dX3_build_118 <|
  s_iinc dX3_build_119 (by decide) (by decide) <|
  s_goto dX3_build_122 (by decide) (hJ 1 _ _ rfl)
noncomputable def b_X3_build_72 (F_X7_takeApart F_X7_copyLine F_X3_degreeOf F_X2_divided F_X3_putInOrder : KF) (J : List KC) : KC := o_iload 2 <| o_aload 0 <| o_get 3 2 <| o_c2 s_lt (b_X3_build_80 F_X7_takeApart F_X7_copyLine F_X3_degreeOf F_X2_divided F_X3_putInOrder J) (b_X3_build_125 F_X7_takeApart F_X7_copyLine F_X3_degreeOf F_X2_divided F_X3_putInOrder J)
set_option maxRecDepth 100000 in
theorem s_X3_build_72 {l : Launch} {D : va_G} {cI cS cM : ClassId} {F_X7_takeApart F_X7_copyLine F_X3_degreeOf F_X2_divided F_X3_putInOrder : KF} (h_X7_takeApart : k_snd l D cI cS cM yX7_takeApart cX7_takeApart 5 none 4 3 F_X7_takeApart) (h_X7_copyLine : k_snd l D cI cS cM yX7_copyLine cX7_copyLine 5 none 3 4 F_X7_copyLine) (h_X3_degreeOf : k_snd l D cI cS cM yX3_degreeOf cX3_degreeOf 5 (some .int) 3 2 F_X3_degreeOf) (h_X2_divided : k_snd l D cI cS cM yX2_divided cX2_divided 3 (some .int) 2 3 F_X2_divided) (h_X3_putInOrder : k_snd l D cI cS cM yX3_putInOrder cX3_putInOrder 3 none 3 1 F_X3_putInOrder) {J : List KC} (hJ : ∀ (i pc d : Nat), ([(28, 0), (72, 0)] : List (Nat × Nat))[i]? = some (pc, d) → KS l D cI cS cM yX3_build.cls yX3_build.name cX3_build 3 none (k_rm 5 0 0) false pc d (k_jmp J i)) : KS l D cI cS cM yX3_build.cls yX3_build.name cX3_build 3 none (k_rm 5 0 0) false 72 0 (b_X3_build_72 F_X7_takeApart F_X7_copyLine F_X3_degreeOf F_X2_divided F_X3_putInOrder J) :=
  s_iload_n dX3_build_72 rfl <|
  s_aload_n dX3_build_73 rfl <|
  s_get dX3_build_74 (ci := 3) (sl := 2) (Cn := RX3) (Tf := TX3) (N := 8) rfl (by decide) kiX3 kw_3_22 <|
  s_icmp_ge dX3_build_77 (by decide) (s_X3_build_125 h_X7_takeApart h_X7_copyLine h_X3_degreeOf h_X2_divided h_X3_putInOrder hJ) (s_X3_build_80 h_X7_takeApart h_X7_copyLine h_X3_degreeOf h_X2_divided h_X3_putInOrder hJ)
noncomputable def b_X3_build_36 (F_X7_takeApart F_X7_copyLine F_X3_degreeOf F_X2_divided F_X3_putInOrder : KF) (J : List KC) : KC := o_aload 0 <| o_get 3 7 <| o_iload 1 <| o_aload 0 <| o_get 3 4 <| o_iload 1 <| o_aald <| o_aload 0 <| o_get 3 1 <| o_cV0 4 7 F_X7_copyLine <| o_aload 0 <| o_get 3 3 <| o_iload 1 <| o_aload 0 <| o_aload 0 <| o_get 3 4 <| o_iload 1 <| o_aald <| o_cV1 2 3 F_X3_degreeOf <| o_iast <| o_push 0 <| o_istore 2 <| b_X3_build_72 F_X7_takeApart F_X7_copyLine F_X3_degreeOf F_X2_divided F_X3_putInOrder J
set_option maxRecDepth 100000 in
theorem s_X3_build_36 {l : Launch} {D : va_G} {cI cS cM : ClassId} {F_X7_takeApart F_X7_copyLine F_X3_degreeOf F_X2_divided F_X3_putInOrder : KF} (h_X7_takeApart : k_snd l D cI cS cM yX7_takeApart cX7_takeApart 5 none 4 3 F_X7_takeApart) (h_X7_copyLine : k_snd l D cI cS cM yX7_copyLine cX7_copyLine 5 none 3 4 F_X7_copyLine) (h_X3_degreeOf : k_snd l D cI cS cM yX3_degreeOf cX3_degreeOf 5 (some .int) 3 2 F_X3_degreeOf) (h_X2_divided : k_snd l D cI cS cM yX2_divided cX2_divided 3 (some .int) 2 3 F_X2_divided) (h_X3_putInOrder : k_snd l D cI cS cM yX3_putInOrder cX3_putInOrder 3 none 3 1 F_X3_putInOrder) {J : List KC} (hJ : ∀ (i pc d : Nat), ([(28, 0), (72, 0)] : List (Nat × Nat))[i]? = some (pc, d) → KS l D cI cS cM yX3_build.cls yX3_build.name cX3_build 3 none (k_rm 5 0 0) false pc d (k_jmp J i)) : KS l D cI cS cM yX3_build.cls yX3_build.name cX3_build 3 none (k_rm 5 0 0) false 36 0 (b_X3_build_36 F_X7_takeApart F_X7_copyLine F_X3_degreeOf F_X2_divided F_X3_putInOrder J) :=
  s_aload_n dX3_build_36 rfl <|
  s_get dX3_build_37 (ci := 3) (sl := 7) (Cn := RX3) (Tf := TX3) (N := 8) rfl (by decide) kiX3 kw_4_7 <|
  s_iload_n dX3_build_40 rfl <|
  s_aload_n dX3_build_41 rfl <|
  s_get dX3_build_42 (ci := 3) (sl := 4) (Cn := RX3) (Tf := TX3) (N := 8) rfl (by decide) kiX3 kw_4_1 <|
  s_iload_n dX3_build_45 rfl <|
  s_aald dX3_build_46 <|
  s_aload_n dX3_build_47 rfl <|
  s_get dX3_build_48 (ci := 3) (sl := 1) (Cn := RX3) (Tf := TX3) (N := 8) rfl (by decide) kiX3 kw_3_21 <|
  s_callV0 dX3_build_51 kw_20_4 kw_20_5 kw_20_6 (ci := 7) rfl ok_X7_copyLine (by decide) (by decide) h_X7_copyLine (by decide) <|
  s_aload_n dX3_build_54 rfl <|
  s_get dX3_build_55 (ci := 3) (sl := 3) (Cn := RX3) (Tf := TX3) (N := 8) rfl (by decide) kiX3 kw_3_23 <|
  s_iload_n dX3_build_58 rfl <|
  s_aload_n dX3_build_59 rfl <|
  s_aload_n dX3_build_60 rfl <|
  s_get dX3_build_61 (ci := 3) (sl := 4) (Cn := RX3) (Tf := TX3) (N := 8) rfl (by decide) kiX3 kw_4_1 <|
  s_iload_n dX3_build_64 rfl <|
  s_aald dX3_build_65 <|
  s_callV1 dX3_build_66 kw_20_12 kw_20_13 kw_20_14 (ci := 3) rfl ok_X3_degreeOf (by decide) (by decide) h_X3_degreeOf (by decide) <|
  s_iast dX3_build_69 <|
  s_push1 dX3_build_70 (by decide) (by decide) <|
  s_istore_n dX3_build_71 rfl (by decide) <|
  s_X3_build_72 h_X7_takeApart h_X7_copyLine h_X3_degreeOf h_X2_divided h_X3_putInOrder hJ
noncomputable def b_X3_build_28 (F_X7_takeApart F_X7_copyLine F_X3_degreeOf F_X2_divided F_X3_putInOrder : KF) (J : List KC) : KC := o_iload 1 <| o_aload 0 <| o_get 3 2 <| o_c2 s_lt (b_X3_build_36 F_X7_takeApart F_X7_copyLine F_X3_degreeOf F_X2_divided F_X3_putInOrder J) (b_X3_build_131 F_X7_takeApart F_X7_copyLine F_X3_degreeOf F_X2_divided F_X3_putInOrder J)
set_option maxRecDepth 100000 in
theorem s_X3_build_28 {l : Launch} {D : va_G} {cI cS cM : ClassId} {F_X7_takeApart F_X7_copyLine F_X3_degreeOf F_X2_divided F_X3_putInOrder : KF} (h_X7_takeApart : k_snd l D cI cS cM yX7_takeApart cX7_takeApart 5 none 4 3 F_X7_takeApart) (h_X7_copyLine : k_snd l D cI cS cM yX7_copyLine cX7_copyLine 5 none 3 4 F_X7_copyLine) (h_X3_degreeOf : k_snd l D cI cS cM yX3_degreeOf cX3_degreeOf 5 (some .int) 3 2 F_X3_degreeOf) (h_X2_divided : k_snd l D cI cS cM yX2_divided cX2_divided 3 (some .int) 2 3 F_X2_divided) (h_X3_putInOrder : k_snd l D cI cS cM yX3_putInOrder cX3_putInOrder 3 none 3 1 F_X3_putInOrder) {J : List KC} (hJ : ∀ (i pc d : Nat), ([(28, 0), (72, 0)] : List (Nat × Nat))[i]? = some (pc, d) → KS l D cI cS cM yX3_build.cls yX3_build.name cX3_build 3 none (k_rm 5 0 0) false pc d (k_jmp J i)) : KS l D cI cS cM yX3_build.cls yX3_build.name cX3_build 3 none (k_rm 5 0 0) false 28 0 (b_X3_build_28 F_X7_takeApart F_X7_copyLine F_X3_degreeOf F_X2_divided F_X3_putInOrder J) :=
  s_iload_n dX3_build_28 rfl <|
  s_aload_n dX3_build_29 rfl <|
  s_get dX3_build_30 (ci := 3) (sl := 2) (Cn := RX3) (Tf := TX3) (N := 8) rfl (by decide) kiX3 kw_3_22 <|
  s_icmp_ge dX3_build_33 (by decide) (s_X3_build_131 h_X7_takeApart h_X7_copyLine h_X3_degreeOf h_X2_divided h_X3_putInOrder hJ) (s_X3_build_36 h_X7_takeApart h_X7_copyLine h_X3_degreeOf h_X2_divided h_X3_putInOrder hJ)
noncomputable def b_X3_build_0 (F_X7_takeApart F_X7_copyLine F_X3_degreeOf F_X2_divided F_X3_putInOrder : KF) (J : List KC) : KC := o_aload 0 <| o_aload 0 <| o_get 3 0 <| o_get 6 1 <| o_puti 3 2 <| o_aload 0 <| o_get 3 7 <| o_aload 0 <| o_get 3 0 <| o_aload 0 <| o_get 3 1 <| o_cV0 3 7 F_X7_takeApart <| o_push 0 <| o_istore 1 <| b_X3_build_28 F_X7_takeApart F_X7_copyLine F_X3_degreeOf F_X2_divided F_X3_putInOrder J
set_option maxRecDepth 100000 in
theorem s_X3_build_0 {l : Launch} {D : va_G} {cI cS cM : ClassId} {F_X7_takeApart F_X7_copyLine F_X3_degreeOf F_X2_divided F_X3_putInOrder : KF} (h_X7_takeApart : k_snd l D cI cS cM yX7_takeApart cX7_takeApart 5 none 4 3 F_X7_takeApart) (h_X7_copyLine : k_snd l D cI cS cM yX7_copyLine cX7_copyLine 5 none 3 4 F_X7_copyLine) (h_X3_degreeOf : k_snd l D cI cS cM yX3_degreeOf cX3_degreeOf 5 (some .int) 3 2 F_X3_degreeOf) (h_X2_divided : k_snd l D cI cS cM yX2_divided cX2_divided 3 (some .int) 2 3 F_X2_divided) (h_X3_putInOrder : k_snd l D cI cS cM yX3_putInOrder cX3_putInOrder 3 none 3 1 F_X3_putInOrder) {J : List KC} (hJ : ∀ (i pc d : Nat), ([(28, 0), (72, 0)] : List (Nat × Nat))[i]? = some (pc, d) → KS l D cI cS cM yX3_build.cls yX3_build.name cX3_build 3 none (k_rm 5 0 0) false pc d (k_jmp J i)) : KS l D cI cS cM yX3_build.cls yX3_build.name cX3_build 3 none (k_rm 5 0 0) false 0 0 (b_X3_build_0 F_X7_takeApart F_X7_copyLine F_X3_degreeOf F_X2_divided F_X3_putInOrder J) :=
  s_aload_n dX3_build_0 rfl <|
  s_aload_n dX3_build_1 rfl <|
  s_get dX3_build_2 (ci := 3) (sl := 0) (Cn := RX3) (Tf := TX3) (N := 8) rfl (by decide) kiX3 kw_3_17 <|
  s_get dX3_build_5 (ci := 6) (sl := 1) (Cn := RX6) (Tf := TX6) (N := 11) rfl (by decide) kiX6 kw_17_14 <|
  s_puti dX3_build_8 (ci := 3) (sl := 2) (Cn := RX3) (Tf := TX3) (N := 8) (tyf := tyX3) rfl (by decide) kiX3 tyX3_ok nmX3 kw_3_22 rfl rfl <|
  s_aload_n dX3_build_11 rfl <|
  s_get dX3_build_12 (ci := 3) (sl := 7) (Cn := RX3) (Tf := TX3) (N := 8) rfl (by decide) kiX3 kw_4_7 <|
  s_aload_n dX3_build_15 rfl <|
  s_get dX3_build_16 (ci := 3) (sl := 0) (Cn := RX3) (Tf := TX3) (N := 8) rfl (by decide) kiX3 kw_3_17 <|
  s_aload_n dX3_build_19 rfl <|
  s_get dX3_build_20 (ci := 3) (sl := 1) (Cn := RX3) (Tf := TX3) (N := 8) rfl (by decide) kiX3 kw_3_21 <|
  s_callV0 dX3_build_23 kw_17_16 kw_17_17 kw_17_18 (ci := 7) rfl ok_X7_takeApart (by decide) (by decide) h_X7_takeApart (by decide) <|
  s_push1 dX3_build_26 (by decide) (by decide) <|
  s_istore_n dX3_build_27 rfl (by decide) <|
  s_X3_build_28 h_X7_takeApart h_X7_copyLine h_X3_degreeOf h_X2_divided h_X3_putInOrder hJ
noncomputable def j_X3_build (F_X7_takeApart F_X7_copyLine F_X3_degreeOf F_X2_divided F_X3_putInOrder : KF) (J : List KC) : List KC := [b_X3_build_28 F_X7_takeApart F_X7_copyLine F_X3_degreeOf F_X2_divided F_X3_putInOrder J, b_X3_build_72 F_X7_takeApart F_X7_copyLine F_X3_degreeOf F_X2_divided F_X3_putInOrder J]
noncomputable def m_X3_build (F_X7_takeApart F_X7_copyLine F_X3_degreeOf F_X2_divided F_X3_putInOrder : KF) (n : Nat) : KF := k_fun [k_u, k_u] (b_X3_build_0 F_X7_takeApart F_X7_copyLine F_X3_degreeOf F_X2_divided F_X3_putInOrder (k_loop (j_X3_build F_X7_takeApart F_X7_copyLine F_X3_degreeOf F_X2_divided F_X3_putInOrder) n))
theorem r_X3_build {l : Launch} {D : va_G} {cI cS cM : ClassId} {F_X7_takeApart F_X7_copyLine F_X3_degreeOf F_X2_divided F_X3_putInOrder : KF} (h_X7_takeApart : k_snd l D cI cS cM yX7_takeApart cX7_takeApart 5 none 4 3 F_X7_takeApart) (h_X7_copyLine : k_snd l D cI cS cM yX7_copyLine cX7_copyLine 5 none 3 4 F_X7_copyLine) (h_X3_degreeOf : k_snd l D cI cS cM yX3_degreeOf cX3_degreeOf 5 (some .int) 3 2 F_X3_degreeOf) (h_X2_divided : k_snd l D cI cS cM yX2_divided cX2_divided 3 (some .int) 2 3 F_X2_divided) (h_X3_putInOrder : k_snd l D cI cS cM yX3_putInOrder cX3_putInOrder 3 none 3 1 F_X3_putInOrder) (n : Nat) : k_snd l D cI cS cM yX3_build cX3_build 3 none 5 1 (m_X3_build F_X7_takeApart F_X7_copyLine F_X3_degreeOf F_X2_divided F_X3_putInOrder n) :=
  k_method (by decide +kernel) (by simp) rfl (s_X3_build_0 h_X7_takeApart h_X7_copyLine h_X3_degreeOf h_X2_divided h_X3_putInOrder (k_loops (hs := [(28, 0), (72, 0)]) (fun J hJ i pc d h => match i, h with | 0, h => by cases h; exact s_X3_build_28 h_X7_takeApart h_X7_copyLine h_X3_degreeOf h_X2_divided h_X3_putInOrder hJ | 1, h => by cases h; exact s_X3_build_72 h_X7_takeApart h_X7_copyLine h_X3_degreeOf h_X2_divided h_X3_putInOrder hJ | _ + 2, h => by simp at h) n))
