noncomputable def b_X7_clearColumn_54 (J : List KC) : KC := o_ret
set_option maxRecDepth 100000 in
theorem s_X7_clearColumn_54 {l : Launch} {D : va_G} {cI cS cM : ClassId} {J : List KC} (hJ : ∀ (i pc d : Nat), ([(11, 0)] : List (Nat × Nat))[i]? = some (pc, d) → KS l D cI cS cM yX7_clearColumn.cls yX7_clearColumn.name cX7_clearColumn 7 none (k_rm 1 0 0) false pc d (k_jmp J i)) : KS l D cI cS cM yX7_clearColumn.cls yX7_clearColumn.name cX7_clearColumn 7 none (k_rm 1 0 0) false 54 0 (b_X7_clearColumn_54 J) :=
  s_return dX7_clearColumn_54 rfl
noncomputable def b_X7_clearColumn_29 (J : List KC) : KC := o_aload 0 <| o_iload 6 <| o_aload 0 <| o_iload 6 <| o_iald <| o_aload 1 <| o_iload 6 <| o_iald <| o_iload 5 <| o_bin n_mul <| o_bin n_add <| o_iload 4 <| o_div n_rem <| o_iast <| o_iinc 6 1 <| k_jmp J 0
set_option maxRecDepth 100000 in
theorem s_X7_clearColumn_29 {l : Launch} {D : va_G} {cI cS cM : ClassId} {J : List KC} (hJ : ∀ (i pc d : Nat), ([(11, 0)] : List (Nat × Nat))[i]? = some (pc, d) → KS l D cI cS cM yX7_clearColumn.cls yX7_clearColumn.name cX7_clearColumn 7 none (k_rm 1 0 0) false pc d (k_jmp J i)) : KS l D cI cS cM yX7_clearColumn.cls yX7_clearColumn.name cX7_clearColumn 7 none (k_rm 1 0 0) false 29 0 (b_X7_clearColumn_29 J) :=
  s_aload_n dX7_clearColumn_29 rfl <|
  s_iload dX7_clearColumn_30 <|
  s_aload_n dX7_clearColumn_32 rfl <|
  s_iload dX7_clearColumn_33 <|
  s_iald dX7_clearColumn_35 <|
  s_aload_n dX7_clearColumn_36 rfl <|
  s_iload dX7_clearColumn_37 <|
  s_iald dX7_clearColumn_39 <|
  s_iload dX7_clearColumn_40 <|
  s_imul dX7_clearColumn_42 <|
  s_iadd dX7_clearColumn_43 <|
  s_iload dX7_clearColumn_44 <|
  s_irem dX7_clearColumn_46 <|
  s_iast dX7_clearColumn_47 <|
  s_iinc dX7_clearColumn_48 (by decide) (by decide) <|
  s_goto dX7_clearColumn_51 (by decide) (hJ 0 _ _ rfl)
noncomputable def b_X7_clearColumn_24 (J : List KC) : KC := o_iload 4 <| o_c1 g_gt (b_X7_clearColumn_29 J) (b_X7_clearColumn_54 J)
set_option maxRecDepth 100000 in
theorem s_X7_clearColumn_24 {l : Launch} {D : va_G} {cI cS cM : ClassId} {J : List KC} (hJ : ∀ (i pc d : Nat), ([(11, 0)] : List (Nat × Nat))[i]? = some (pc, d) → KS l D cI cS cM yX7_clearColumn.cls yX7_clearColumn.name cX7_clearColumn 7 none (k_rm 1 0 0) false pc d (k_jmp J i)) : KS l D cI cS cM yX7_clearColumn.cls yX7_clearColumn.name cX7_clearColumn 7 none (k_rm 1 0 0) false 24 0 (b_X7_clearColumn_24 J) :=
  s_iload dX7_clearColumn_24 <|
  s_if_le dX7_clearColumn_26 (by decide) (s_X7_clearColumn_54 hJ) (s_X7_clearColumn_29 hJ)
noncomputable def b_X7_clearColumn_17 (J : List KC) : KC := o_iload 5 <| o_iload 4 <| o_c2 Nat.beq (b_X7_clearColumn_54 J) (b_X7_clearColumn_24 J)
set_option maxRecDepth 100000 in
theorem s_X7_clearColumn_17 {l : Launch} {D : va_G} {cI cS cM : ClassId} {J : List KC} (hJ : ∀ (i pc d : Nat), ([(11, 0)] : List (Nat × Nat))[i]? = some (pc, d) → KS l D cI cS cM yX7_clearColumn.cls yX7_clearColumn.name cX7_clearColumn 7 none (k_rm 1 0 0) false pc d (k_jmp J i)) : KS l D cI cS cM yX7_clearColumn.cls yX7_clearColumn.name cX7_clearColumn 7 none (k_rm 1 0 0) false 17 0 (b_X7_clearColumn_17 J) :=
  s_iload dX7_clearColumn_17 <|
  s_iload dX7_clearColumn_19 <|
  s_icmp_eq dX7_clearColumn_21 (by decide) (s_X7_clearColumn_54 hJ) (s_X7_clearColumn_24 hJ)
noncomputable def b_X7_clearColumn_11 (J : List KC) : KC := o_iload 6 <| o_iload 3 <| o_c2 s_lt (b_X7_clearColumn_17 J) (b_X7_clearColumn_54 J)
set_option maxRecDepth 100000 in
theorem s_X7_clearColumn_11 {l : Launch} {D : va_G} {cI cS cM : ClassId} {J : List KC} (hJ : ∀ (i pc d : Nat), ([(11, 0)] : List (Nat × Nat))[i]? = some (pc, d) → KS l D cI cS cM yX7_clearColumn.cls yX7_clearColumn.name cX7_clearColumn 7 none (k_rm 1 0 0) false pc d (k_jmp J i)) : KS l D cI cS cM yX7_clearColumn.cls yX7_clearColumn.name cX7_clearColumn 7 none (k_rm 1 0 0) false 11 0 (b_X7_clearColumn_11 J) :=
  s_iload dX7_clearColumn_11 <|
  s_iload_n dX7_clearColumn_13 rfl <|
  s_icmp_ge dX7_clearColumn_14 (by decide) (s_X7_clearColumn_54 hJ) (s_X7_clearColumn_17 hJ)
noncomputable def b_X7_clearColumn_0 (J : List KC) : KC := o_iload 4 <| o_aload 0 <| o_iload 2 <| o_iald <| o_bin n_sub <| o_istore 5 <| o_iload 2 <| o_istore 6 <| b_X7_clearColumn_11 J
set_option maxRecDepth 100000 in
theorem s_X7_clearColumn_0 {l : Launch} {D : va_G} {cI cS cM : ClassId} {J : List KC} (hJ : ∀ (i pc d : Nat), ([(11, 0)] : List (Nat × Nat))[i]? = some (pc, d) → KS l D cI cS cM yX7_clearColumn.cls yX7_clearColumn.name cX7_clearColumn 7 none (k_rm 1 0 0) false pc d (k_jmp J i)) : KS l D cI cS cM yX7_clearColumn.cls yX7_clearColumn.name cX7_clearColumn 7 none (k_rm 1 0 0) false 0 0 (b_X7_clearColumn_0 J) :=
  s_iload dX7_clearColumn_0 <|
  s_aload_n dX7_clearColumn_2 rfl <|
  s_iload_n dX7_clearColumn_3 rfl <|
  s_iald dX7_clearColumn_4 <|
  s_isub dX7_clearColumn_5 <|
  s_istore dX7_clearColumn_6 (by decide) <|
  s_iload_n dX7_clearColumn_8 rfl <|
  s_istore dX7_clearColumn_9 (by decide) <|
  s_X7_clearColumn_11 hJ
noncomputable def j_X7_clearColumn (J : List KC) : List KC := [b_X7_clearColumn_11 J]
noncomputable def m_X7_clearColumn (n : Nat) : KF := k_fun [k_u, k_u] (b_X7_clearColumn_0 (k_loop (j_X7_clearColumn) n))
theorem r_X7_clearColumn {l : Launch} {D : va_G} {cI cS cM : ClassId} (n : Nat) : k_snd l D cI cS cM yX7_clearColumn cX7_clearColumn 7 none 1 5 (m_X7_clearColumn n) :=
  k_method (by decide +kernel) (by simp) rfl (s_X7_clearColumn_0 (k_loops (hs := [(11, 0)]) (fun J hJ i pc d h => match i, h with | 0, h => by cases h; exact s_X7_clearColumn_11 hJ | _ + 1, h => by simp at h) n))
noncomputable def b_X7_lineWith_27 (J : List KC) : KC := o_push 4294967295 <| o_iret
set_option maxRecDepth 100000 in
theorem s_X7_lineWith_27 {l : Launch} {D : va_G} {cI cS cM : ClassId} {J : List KC} (hJ : ∀ (i pc d : Nat), ([(3, 0)] : List (Nat × Nat))[i]? = some (pc, d) → KS l D cI cS cM yX7_lineWith.cls yX7_lineWith.name cX7_lineWith 5 (some .int) (k_rm 1 0 0) false pc d (k_jmp J i)) : KS l D cI cS cM yX7_lineWith.cls yX7_lineWith.name cX7_lineWith 5 (some .int) (k_rm 1 0 0) false 27 0 (b_X7_lineWith_27 J) :=
  s_push1 dX7_lineWith_27 (by decide) (by decide) <|
  s_ireturn dX7_lineWith_28 rfl
noncomputable def b_X7_lineWith_21 (J : List KC) : KC := o_iinc 4 1 <| k_jmp J 0
set_option maxRecDepth 100000 in
theorem s_X7_lineWith_21 {l : Launch} {D : va_G} {cI cS cM : ClassId} {J : List KC} (hJ : ∀ (i pc d : Nat), ([(3, 0)] : List (Nat × Nat))[i]? = some (pc, d) → KS l D cI cS cM yX7_lineWith.cls yX7_lineWith.name cX7_lineWith 5 (some .int) (k_rm 1 0 0) false pc d (k_jmp J i)) : KS l D cI cS cM yX7_lineWith.cls yX7_lineWith.name cX7_lineWith 5 (some .int) (k_rm 1 0 0) false 21 0 (b_X7_lineWith_21 J) :=
  s_iinc dX7_lineWith_21 (by decide) (by decide) <|
  s_goto dX7_lineWith_24 (by decide) (hJ 0 _ _ rfl)
noncomputable def b_X7_lineWith_18 (J : List KC) : KC := o_iload 4 <| o_iret
set_option maxRecDepth 100000 in
theorem s_X7_lineWith_18 {l : Launch} {D : va_G} {cI cS cM : ClassId} {J : List KC} (hJ : ∀ (i pc d : Nat), ([(3, 0)] : List (Nat × Nat))[i]? = some (pc, d) → KS l D cI cS cM yX7_lineWith.cls yX7_lineWith.name cX7_lineWith 5 (some .int) (k_rm 1 0 0) false pc d (k_jmp J i)) : KS l D cI cS cM yX7_lineWith.cls yX7_lineWith.name cX7_lineWith 5 (some .int) (k_rm 1 0 0) false 18 0 (b_X7_lineWith_18 J) :=
  s_iload dX7_lineWith_18 <|
  s_ireturn dX7_lineWith_20 rfl
noncomputable def b_X7_lineWith_9 (J : List KC) : KC := o_aload 0 <| o_iload 4 <| o_aald <| o_iload 3 <| o_iald <| o_c1 g_eq (b_X7_lineWith_21 J) (b_X7_lineWith_18 J)
set_option maxRecDepth 100000 in
theorem s_X7_lineWith_9 {l : Launch} {D : va_G} {cI cS cM : ClassId} {J : List KC} (hJ : ∀ (i pc d : Nat), ([(3, 0)] : List (Nat × Nat))[i]? = some (pc, d) → KS l D cI cS cM yX7_lineWith.cls yX7_lineWith.name cX7_lineWith 5 (some .int) (k_rm 1 0 0) false pc d (k_jmp J i)) : KS l D cI cS cM yX7_lineWith.cls yX7_lineWith.name cX7_lineWith 5 (some .int) (k_rm 1 0 0) false 9 0 (b_X7_lineWith_9 J) :=
  s_aload_n dX7_lineWith_9 rfl <|
  s_iload dX7_lineWith_10 <|
  s_aald dX7_lineWith_12 <|
  s_iload_n dX7_lineWith_13 rfl <|
  s_iald dX7_lineWith_14 <|
  s_if_eq dX7_lineWith_15 (by decide) (s_X7_lineWith_21 hJ) (s_X7_lineWith_18 hJ)
noncomputable def b_X7_lineWith_3 (J : List KC) : KC := o_iload 4 <| o_iload 2 <| o_c2 s_lt (b_X7_lineWith_9 J) (b_X7_lineWith_27 J)
set_option maxRecDepth 100000 in
theorem s_X7_lineWith_3 {l : Launch} {D : va_G} {cI cS cM : ClassId} {J : List KC} (hJ : ∀ (i pc d : Nat), ([(3, 0)] : List (Nat × Nat))[i]? = some (pc, d) → KS l D cI cS cM yX7_lineWith.cls yX7_lineWith.name cX7_lineWith 5 (some .int) (k_rm 1 0 0) false pc d (k_jmp J i)) : KS l D cI cS cM yX7_lineWith.cls yX7_lineWith.name cX7_lineWith 5 (some .int) (k_rm 1 0 0) false 3 0 (b_X7_lineWith_3 J) :=
  s_iload dX7_lineWith_3 <|
  s_iload_n dX7_lineWith_5 rfl <|
  s_icmp_ge dX7_lineWith_6 (by decide) (s_X7_lineWith_27 hJ) (s_X7_lineWith_9 hJ)
noncomputable def b_X7_lineWith_0 (J : List KC) : KC := o_iload 1 <| o_istore 4 <| b_X7_lineWith_3 J
set_option maxRecDepth 100000 in
theorem s_X7_lineWith_0 {l : Launch} {D : va_G} {cI cS cM : ClassId} {J : List KC} (hJ : ∀ (i pc d : Nat), ([(3, 0)] : List (Nat × Nat))[i]? = some (pc, d) → KS l D cI cS cM yX7_lineWith.cls yX7_lineWith.name cX7_lineWith 5 (some .int) (k_rm 1 0 0) false pc d (k_jmp J i)) : KS l D cI cS cM yX7_lineWith.cls yX7_lineWith.name cX7_lineWith 5 (some .int) (k_rm 1 0 0) false 0 0 (b_X7_lineWith_0 J) :=
  s_iload_n dX7_lineWith_0 rfl <|
  s_istore dX7_lineWith_1 (by decide) <|
  s_X7_lineWith_3 hJ
noncomputable def j_X7_lineWith (J : List KC) : List KC := [b_X7_lineWith_3 J]
noncomputable def m_X7_lineWith (n : Nat) : KF := k_fun [k_u] (b_X7_lineWith_0 (k_loop (j_X7_lineWith) n))
theorem r_X7_lineWith {l : Launch} {D : va_G} {cI cS cM : ClassId} (n : Nat) : k_snd l D cI cS cM yX7_lineWith cX7_lineWith 5 (some .int) 1 4 (m_X7_lineWith n) :=
  k_method (by decide +kernel) (by simp) rfl (s_X7_lineWith_0 (k_loops (hs := [(3, 0)]) (fun J hJ i pc d h => match i, h with | 0, h => by cases h; exact s_X7_lineWith_3 hJ | _ + 1, h => by simp at h) n))
noncomputable def b_X7_mixLines_85 (J : List KC) : KC := o_ret
set_option maxRecDepth 100000 in
theorem s_X7_mixLines_85 {l : Launch} {D : va_G} {cI cS cM : ClassId} {J : List KC} (hJ : ∀ (i pc d : Nat), ([(3, 0), (18, 0)] : List (Nat × Nat))[i]? = some (pc, d) → KS l D cI cS cM yX7_mixLines.cls yX7_mixLines.name cX7_mixLines 8 none (k_rm 1 0 0) false pc d (k_jmp J i)) : KS l D cI cS cM yX7_mixLines.cls yX7_mixLines.name cX7_mixLines 8 none (k_rm 1 0 0) false 85 0 (b_X7_mixLines_85 J) :=
  s_return dX7_mixLines_85 rfl
noncomputable def b_X7_mixLines_78 (J : List KC) : KC := o_iast <| o_iinc 5 1 <| k_jmp J 0
set_option maxRecDepth 100000 in
theorem s_X7_mixLines_78 {l : Launch} {D : va_G} {cI cS cM : ClassId} {J : List KC} (hJ : ∀ (i pc d : Nat), ([(3, 0), (18, 0)] : List (Nat × Nat))[i]? = some (pc, d) → KS l D cI cS cM yX7_mixLines.cls yX7_mixLines.name cX7_mixLines 8 none (k_rm 1 0 0) false pc d (k_jmp J i)) : KS l D cI cS cM yX7_mixLines.cls yX7_mixLines.name cX7_mixLines 8 none (k_rm 1 0 0) false 78 3 (b_X7_mixLines_78 J) :=
  s_iast dX7_mixLines_78 <|
  s_iinc dX7_mixLines_79 (by decide) (by decide) <|
  s_goto dX7_mixLines_82 (by decide) (hJ 0 _ _ rfl)
noncomputable def b_X7_mixLines_77 (J : List KC) : KC := o_push 0 <| b_X7_mixLines_78 J
set_option maxRecDepth 100000 in
theorem s_X7_mixLines_77 {l : Launch} {D : va_G} {cI cS cM : ClassId} {J : List KC} (hJ : ∀ (i pc d : Nat), ([(3, 0), (18, 0)] : List (Nat × Nat))[i]? = some (pc, d) → KS l D cI cS cM yX7_mixLines.cls yX7_mixLines.name cX7_mixLines 8 none (k_rm 1 0 0) false pc d (k_jmp J i)) : KS l D cI cS cM yX7_mixLines.cls yX7_mixLines.name cX7_mixLines 8 none (k_rm 1 0 0) false 77 2 (b_X7_mixLines_77 J) :=
  s_push1 dX7_mixLines_77 (by decide) (by decide) <|
  s_X7_mixLines_78 hJ
noncomputable def b_X7_mixLines_66 (J : List KC) : KC := o_iload 6 <| o_aload 4 <| o_get 2 0 <| o_div n_rem <| b_X7_mixLines_78 J
set_option maxRecDepth 100000 in
theorem s_X7_mixLines_66 {l : Launch} {D : va_G} {cI cS cM : ClassId} {J : List KC} (hJ : ∀ (i pc d : Nat), ([(3, 0), (18, 0)] : List (Nat × Nat))[i]? = some (pc, d) → KS l D cI cS cM yX7_mixLines.cls yX7_mixLines.name cX7_mixLines 8 none (k_rm 1 0 0) false pc d (k_jmp J i)) : KS l D cI cS cM yX7_mixLines.cls yX7_mixLines.name cX7_mixLines 8 none (k_rm 1 0 0) false 66 2 (b_X7_mixLines_66 J) :=
  s_iload dX7_mixLines_66 <|
  s_aload dX7_mixLines_68 <|
  s_get dX7_mixLines_70 (ci := 2) (sl := 0) (Cn := RX2) (Tf := TX2) (N := 4) rfl (by decide) kiX2 kw_18_6 <|
  s_irem dX7_mixLines_73 <|
  s_goto dX7_mixLines_74 (by decide) (s_X7_mixLines_78 hJ)
noncomputable def b_X7_mixLines_55 (J : List KC) : KC := o_aload 3 <| o_iload 5 <| o_aload 4 <| o_get 2 0 <| o_c1 g_gt (b_X7_mixLines_66 J) (b_X7_mixLines_77 J)
set_option maxRecDepth 100000 in
theorem s_X7_mixLines_55 {l : Launch} {D : va_G} {cI cS cM : ClassId} {J : List KC} (hJ : ∀ (i pc d : Nat), ([(3, 0), (18, 0)] : List (Nat × Nat))[i]? = some (pc, d) → KS l D cI cS cM yX7_mixLines.cls yX7_mixLines.name cX7_mixLines 8 none (k_rm 1 0 0) false pc d (k_jmp J i)) : KS l D cI cS cM yX7_mixLines.cls yX7_mixLines.name cX7_mixLines 8 none (k_rm 1 0 0) false 55 0 (b_X7_mixLines_55 J) :=
  s_aload_n dX7_mixLines_55 rfl <|
  s_iload dX7_mixLines_56 <|
  s_aload dX7_mixLines_58 <|
  s_get dX7_mixLines_60 (ci := 2) (sl := 0) (Cn := RX2) (Tf := TX2) (N := 4) rfl (by decide) kiX2 kw_18_6 <|
  s_if_le dX7_mixLines_63 (by decide) (s_X7_mixLines_77 hJ) (s_X7_mixLines_66 hJ)
noncomputable def b_X7_mixLines_24 (J : List KC) : KC := o_iload 6 <| o_aload 0 <| o_get 7 11 <| o_iload 7 <| o_iald <| o_aload 0 <| o_get 7 0 <| o_iload 1 <| o_iload 7 <| o_bin n_add <| o_aald <| o_iload 5 <| o_iald <| o_bin n_mul <| o_bin n_add <| o_istore 6 <| o_iinc 7 1 <| k_jmp J 1
set_option maxRecDepth 100000 in
theorem s_X7_mixLines_24 {l : Launch} {D : va_G} {cI cS cM : ClassId} {J : List KC} (hJ : ∀ (i pc d : Nat), ([(3, 0), (18, 0)] : List (Nat × Nat))[i]? = some (pc, d) → KS l D cI cS cM yX7_mixLines.cls yX7_mixLines.name cX7_mixLines 8 none (k_rm 1 0 0) false pc d (k_jmp J i)) : KS l D cI cS cM yX7_mixLines.cls yX7_mixLines.name cX7_mixLines 8 none (k_rm 1 0 0) false 24 0 (b_X7_mixLines_24 J) :=
  s_iload dX7_mixLines_24 <|
  s_aload_n dX7_mixLines_26 rfl <|
  s_get dX7_mixLines_27 (ci := 7) (sl := 11) (Cn := RX7) (Tf := TX7) (N := 12) rfl (by decide) kiX7 kw_6_11 <|
  s_iload dX7_mixLines_30 <|
  s_iald dX7_mixLines_32 <|
  s_aload_n dX7_mixLines_33 rfl <|
  s_get dX7_mixLines_34 (ci := 7) (sl := 0) (Cn := RX7) (Tf := TX7) (N := 12) rfl (by decide) kiX7 kw_6_0 <|
  s_iload_n dX7_mixLines_37 rfl <|
  s_iload dX7_mixLines_38 <|
  s_iadd dX7_mixLines_40 <|
  s_aald dX7_mixLines_41 <|
  s_iload dX7_mixLines_42 <|
  s_iald dX7_mixLines_44 <|
  s_imul dX7_mixLines_45 <|
  s_iadd dX7_mixLines_46 <|
  s_istore dX7_mixLines_47 (by decide) <|
  s_iinc dX7_mixLines_49 (by decide) (by decide) <|
  s_goto dX7_mixLines_52 (by decide) (hJ 1 _ _ rfl)
noncomputable def b_X7_mixLines_18 (J : List KC) : KC := o_iload 7 <| o_iload 2 <| o_c2 s_lt (b_X7_mixLines_24 J) (b_X7_mixLines_55 J)
set_option maxRecDepth 100000 in
theorem s_X7_mixLines_18 {l : Launch} {D : va_G} {cI cS cM : ClassId} {J : List KC} (hJ : ∀ (i pc d : Nat), ([(3, 0), (18, 0)] : List (Nat × Nat))[i]? = some (pc, d) → KS l D cI cS cM yX7_mixLines.cls yX7_mixLines.name cX7_mixLines 8 none (k_rm 1 0 0) false pc d (k_jmp J i)) : KS l D cI cS cM yX7_mixLines.cls yX7_mixLines.name cX7_mixLines 8 none (k_rm 1 0 0) false 18 0 (b_X7_mixLines_18 J) :=
  s_iload dX7_mixLines_18 <|
  s_iload_n dX7_mixLines_20 rfl <|
  s_icmp_ge dX7_mixLines_21 (by decide) (s_X7_mixLines_55 hJ) (s_X7_mixLines_24 hJ)
noncomputable def b_X7_mixLines_12 (J : List KC) : KC := o_push 0 <| o_istore 6 <| o_push 0 <| o_istore 7 <| b_X7_mixLines_18 J
set_option maxRecDepth 100000 in
theorem s_X7_mixLines_12 {l : Launch} {D : va_G} {cI cS cM : ClassId} {J : List KC} (hJ : ∀ (i pc d : Nat), ([(3, 0), (18, 0)] : List (Nat × Nat))[i]? = some (pc, d) → KS l D cI cS cM yX7_mixLines.cls yX7_mixLines.name cX7_mixLines 8 none (k_rm 1 0 0) false pc d (k_jmp J i)) : KS l D cI cS cM yX7_mixLines.cls yX7_mixLines.name cX7_mixLines 8 none (k_rm 1 0 0) false 12 0 (b_X7_mixLines_12 J) :=
  s_push1 dX7_mixLines_12 (by decide) (by decide) <|
  s_istore dX7_mixLines_13 (by decide) <|
  s_push1 dX7_mixLines_15 (by decide) (by decide) <|
  s_istore dX7_mixLines_16 (by decide) <|
  s_X7_mixLines_18 hJ
noncomputable def b_X7_mixLines_3 (J : List KC) : KC := o_iload 5 <| o_aload 0 <| o_get 7 7 <| o_c2 s_lt (b_X7_mixLines_12 J) (b_X7_mixLines_85 J)
set_option maxRecDepth 100000 in
theorem s_X7_mixLines_3 {l : Launch} {D : va_G} {cI cS cM : ClassId} {J : List KC} (hJ : ∀ (i pc d : Nat), ([(3, 0), (18, 0)] : List (Nat × Nat))[i]? = some (pc, d) → KS l D cI cS cM yX7_mixLines.cls yX7_mixLines.name cX7_mixLines 8 none (k_rm 1 0 0) false pc d (k_jmp J i)) : KS l D cI cS cM yX7_mixLines.cls yX7_mixLines.name cX7_mixLines 8 none (k_rm 1 0 0) false 3 0 (b_X7_mixLines_3 J) :=
  s_iload dX7_mixLines_3 <|
  s_aload_n dX7_mixLines_5 rfl <|
  s_get dX7_mixLines_6 (ci := 7) (sl := 7) (Cn := RX7) (Tf := TX7) (N := 12) rfl (by decide) kiX7 kw_6_7 <|
  s_icmp_ge dX7_mixLines_9 (by decide) (s_X7_mixLines_85 hJ) (s_X7_mixLines_12 hJ)
noncomputable def b_X7_mixLines_0 (J : List KC) : KC := o_push 0 <| o_istore 5 <| b_X7_mixLines_3 J
set_option maxRecDepth 100000 in
theorem s_X7_mixLines_0 {l : Launch} {D : va_G} {cI cS cM : ClassId} {J : List KC} (hJ : ∀ (i pc d : Nat), ([(3, 0), (18, 0)] : List (Nat × Nat))[i]? = some (pc, d) → KS l D cI cS cM yX7_mixLines.cls yX7_mixLines.name cX7_mixLines 8 none (k_rm 1 0 0) false pc d (k_jmp J i)) : KS l D cI cS cM yX7_mixLines.cls yX7_mixLines.name cX7_mixLines 8 none (k_rm 1 0 0) false 0 0 (b_X7_mixLines_0 J) :=
  s_push1 dX7_mixLines_0 (by decide) (by decide) <|
  s_istore dX7_mixLines_1 (by decide) <|
  s_X7_mixLines_3 hJ
noncomputable def j_X7_mixLines (J : List KC) : List KC := [b_X7_mixLines_3 J, b_X7_mixLines_18 J]
noncomputable def m_X7_mixLines (n : Nat) : KF := k_fun [k_u, k_u, k_u] (b_X7_mixLines_0 (k_loop (j_X7_mixLines) n))
theorem r_X7_mixLines {l : Launch} {D : va_G} {cI cS cM : ClassId} (n : Nat) : k_snd l D cI cS cM yX7_mixLines cX7_mixLines 8 none 1 5 (m_X7_mixLines n) :=
  k_method (by decide +kernel) (by simp) rfl (s_X7_mixLines_0 (k_loops (hs := [(3, 0), (18, 0)]) (fun J hJ i pc d h => match i, h with | 0, h => by cases h; exact s_X7_mixLines_3 hJ | 1, h => by cases h; exact s_X7_mixLines_18 hJ | _ + 2, h => by simp at h) n))
noncomputable def b_X7_scale_38 (J : List KC) : KC := o_ret
set_option maxRecDepth 100000 in
theorem s_X7_scale_38 {l : Launch} {D : va_G} {cI cS cM : ClassId} {J : List KC} (hJ : ∀ (i pc d : Nat), ([(3, 0)] : List (Nat × Nat))[i]? = some (pc, d) → KS l D cI cS cM yX7_scale.cls yX7_scale.name cX7_scale 6 none (k_rm 1 0 0) false pc d (k_jmp J i)) : KS l D cI cS cM yX7_scale.cls yX7_scale.name cX7_scale 6 none (k_rm 1 0 0) false 38 0 (b_X7_scale_38 J) :=
  s_return dX7_scale_38 rfl
noncomputable def b_X7_scale_19 (J : List KC) : KC := o_aload 0 <| o_iload 5 <| o_aload 0 <| o_iload 5 <| o_iald <| o_iload 3 <| o_bin n_mul <| o_iload 4 <| o_div n_rem <| o_iast <| o_iinc 5 1 <| k_jmp J 0
set_option maxRecDepth 100000 in
theorem s_X7_scale_19 {l : Launch} {D : va_G} {cI cS cM : ClassId} {J : List KC} (hJ : ∀ (i pc d : Nat), ([(3, 0)] : List (Nat × Nat))[i]? = some (pc, d) → KS l D cI cS cM yX7_scale.cls yX7_scale.name cX7_scale 6 none (k_rm 1 0 0) false pc d (k_jmp J i)) : KS l D cI cS cM yX7_scale.cls yX7_scale.name cX7_scale 6 none (k_rm 1 0 0) false 19 0 (b_X7_scale_19 J) :=
  s_aload_n dX7_scale_19 rfl <|
  s_iload dX7_scale_20 <|
  s_aload_n dX7_scale_22 rfl <|
  s_iload dX7_scale_23 <|
  s_iald dX7_scale_25 <|
  s_iload_n dX7_scale_26 rfl <|
  s_imul dX7_scale_27 <|
  s_iload dX7_scale_28 <|
  s_irem dX7_scale_30 <|
  s_iast dX7_scale_31 <|
  s_iinc dX7_scale_32 (by decide) (by decide) <|
  s_goto dX7_scale_35 (by decide) (hJ 0 _ _ rfl)
noncomputable def b_X7_scale_14 (J : List KC) : KC := o_iload 4 <| o_c1 g_gt (b_X7_scale_19 J) (b_X7_scale_38 J)
set_option maxRecDepth 100000 in
theorem s_X7_scale_14 {l : Launch} {D : va_G} {cI cS cM : ClassId} {J : List KC} (hJ : ∀ (i pc d : Nat), ([(3, 0)] : List (Nat × Nat))[i]? = some (pc, d) → KS l D cI cS cM yX7_scale.cls yX7_scale.name cX7_scale 6 none (k_rm 1 0 0) false pc d (k_jmp J i)) : KS l D cI cS cM yX7_scale.cls yX7_scale.name cX7_scale 6 none (k_rm 1 0 0) false 14 0 (b_X7_scale_14 J) :=
  s_iload dX7_scale_14 <|
  s_if_le dX7_scale_16 (by decide) (s_X7_scale_38 hJ) (s_X7_scale_19 hJ)
noncomputable def b_X7_scale_9 (J : List KC) : KC := o_iload 3 <| o_push 1 <| o_c2 Nat.beq (b_X7_scale_38 J) (b_X7_scale_14 J)
set_option maxRecDepth 100000 in
theorem s_X7_scale_9 {l : Launch} {D : va_G} {cI cS cM : ClassId} {J : List KC} (hJ : ∀ (i pc d : Nat), ([(3, 0)] : List (Nat × Nat))[i]? = some (pc, d) → KS l D cI cS cM yX7_scale.cls yX7_scale.name cX7_scale 6 none (k_rm 1 0 0) false pc d (k_jmp J i)) : KS l D cI cS cM yX7_scale.cls yX7_scale.name cX7_scale 6 none (k_rm 1 0 0) false 9 0 (b_X7_scale_9 J) :=
  s_iload_n dX7_scale_9 rfl <|
  s_push1 dX7_scale_10 (by decide) (by decide) <|
  s_icmp_eq dX7_scale_11 (by decide) (s_X7_scale_38 hJ) (s_X7_scale_14 hJ)
noncomputable def b_X7_scale_3 (J : List KC) : KC := o_iload 5 <| o_iload 2 <| o_c2 s_lt (b_X7_scale_9 J) (b_X7_scale_38 J)
set_option maxRecDepth 100000 in
theorem s_X7_scale_3 {l : Launch} {D : va_G} {cI cS cM : ClassId} {J : List KC} (hJ : ∀ (i pc d : Nat), ([(3, 0)] : List (Nat × Nat))[i]? = some (pc, d) → KS l D cI cS cM yX7_scale.cls yX7_scale.name cX7_scale 6 none (k_rm 1 0 0) false pc d (k_jmp J i)) : KS l D cI cS cM yX7_scale.cls yX7_scale.name cX7_scale 6 none (k_rm 1 0 0) false 3 0 (b_X7_scale_3 J) :=
  s_iload dX7_scale_3 <|
  s_iload_n dX7_scale_5 rfl <|
  s_icmp_ge dX7_scale_6 (by decide) (s_X7_scale_38 hJ) (s_X7_scale_9 hJ)
noncomputable def b_X7_scale_0 (J : List KC) : KC := o_iload 1 <| o_istore 5 <| b_X7_scale_3 J
set_option maxRecDepth 100000 in
theorem s_X7_scale_0 {l : Launch} {D : va_G} {cI cS cM : ClassId} {J : List KC} (hJ : ∀ (i pc d : Nat), ([(3, 0)] : List (Nat × Nat))[i]? = some (pc, d) → KS l D cI cS cM yX7_scale.cls yX7_scale.name cX7_scale 6 none (k_rm 1 0 0) false pc d (k_jmp J i)) : KS l D cI cS cM yX7_scale.cls yX7_scale.name cX7_scale 6 none (k_rm 1 0 0) false 0 0 (b_X7_scale_0 J) :=
  s_iload_n dX7_scale_0 rfl <|
  s_istore dX7_scale_1 (by decide) <|
  s_X7_scale_3 hJ
noncomputable def j_X7_scale (J : List KC) : List KC := [b_X7_scale_3 J]
noncomputable def m_X7_scale (n : Nat) : KF := k_fun [k_u] (b_X7_scale_0 (k_loop (j_X7_scale) n))
theorem r_X7_scale {l : Launch} {D : va_G} {cI cS cM : ClassId} (n : Nat) : k_snd l D cI cS cM yX7_scale cX7_scale 6 none 1 5 (m_X7_scale n) :=
  k_method (by decide +kernel) (by simp) rfl (s_X7_scale_0 (k_loops (hs := [(3, 0)]) (fun J hJ i pc d h => match i, h with | 0, h => by cases h; exact s_X7_scale_3 hJ | _ + 1, h => by simp at h) n))
noncomputable def b_X7_takeNext_0 : KC := o_aload 0 <| o_get 7 0 <| o_astore 1 <| o_aload 0 <| o_aload 0 <| o_get 7 1 <| o_putr 7 0 <| o_aload 0 <| o_aload 1 <| o_putr 7 1 <| o_aload 0 <| o_get 7 2 <| o_astore 2 <| o_aload 0 <| o_aload 0 <| o_get 7 3 <| o_putr 7 2 <| o_aload 0 <| o_aload 2 <| o_putr 7 3 <| o_aload 0 <| o_aload 0 <| o_get 7 5 <| o_puti 7 4 <| o_aload 0 <| o_get 7 2 <| o_aload 0 <| o_get 7 4 <| o_aload 0 <| o_get 7 6 <| o_iast <| o_ret
set_option maxRecDepth 100000 in
theorem s_X7_takeNext_0 {l : Launch} {D : va_G} {cI cS cM : ClassId} : KS l D cI cS cM yX7_takeNext.cls yX7_takeNext.name cX7_takeNext 3 none (k_rm 1 0 0) false 0 0 (b_X7_takeNext_0) :=
  s_aload_n dX7_takeNext_0 rfl <|
  s_get dX7_takeNext_1 (ci := 7) (sl := 0) (Cn := RX7) (Tf := TX7) (N := 12) rfl (by decide) kiX7 kw_6_0 <|
  s_astore_n dX7_takeNext_4 rfl (by decide) <|
  s_aload_n dX7_takeNext_5 rfl <|
  s_aload_n dX7_takeNext_6 rfl <|
  s_get dX7_takeNext_7 (ci := 7) (sl := 1) (Cn := RX7) (Tf := TX7) (N := 12) rfl (by decide) kiX7 kw_6_1 <|
  s_putr dX7_takeNext_10 (ci := 7) (sl := 0) (Cn := RX7) (Tf := TX7) (N := 12) (tyf := tyX7) rfl (by decide) kiX7 tyX7_ok nmX7 kw_6_0 rfl ⟨_, rfl⟩ <|
  s_aload_n dX7_takeNext_13 rfl <|
  s_aload_n dX7_takeNext_14 rfl <|
  s_putr dX7_takeNext_15 (ci := 7) (sl := 1) (Cn := RX7) (Tf := TX7) (N := 12) (tyf := tyX7) rfl (by decide) kiX7 tyX7_ok nmX7 kw_6_1 rfl ⟨_, rfl⟩ <|
  s_aload_n dX7_takeNext_18 rfl <|
  s_get dX7_takeNext_19 (ci := 7) (sl := 2) (Cn := RX7) (Tf := TX7) (N := 12) rfl (by decide) kiX7 kw_6_2 <|
  s_astore_n dX7_takeNext_22 rfl (by decide) <|
  s_aload_n dX7_takeNext_23 rfl <|
  s_aload_n dX7_takeNext_24 rfl <|
  s_get dX7_takeNext_25 (ci := 7) (sl := 3) (Cn := RX7) (Tf := TX7) (N := 12) rfl (by decide) kiX7 kw_6_3 <|
  s_putr dX7_takeNext_28 (ci := 7) (sl := 2) (Cn := RX7) (Tf := TX7) (N := 12) (tyf := tyX7) rfl (by decide) kiX7 tyX7_ok nmX7 kw_6_2 rfl ⟨_, rfl⟩ <|
  s_aload_n dX7_takeNext_31 rfl <|
  s_aload_n dX7_takeNext_32 rfl <|
  s_putr dX7_takeNext_33 (ci := 7) (sl := 3) (Cn := RX7) (Tf := TX7) (N := 12) (tyf := tyX7) rfl (by decide) kiX7 tyX7_ok nmX7 kw_6_3 rfl ⟨_, rfl⟩ <|
  s_aload_n dX7_takeNext_36 rfl <|
  s_aload_n dX7_takeNext_37 rfl <|
  s_get dX7_takeNext_38 (ci := 7) (sl := 5) (Cn := RX7) (Tf := TX7) (N := 12) rfl (by decide) kiX7 kw_6_5 <|
  s_puti dX7_takeNext_41 (ci := 7) (sl := 4) (Cn := RX7) (Tf := TX7) (N := 12) (tyf := tyX7) rfl (by decide) kiX7 tyX7_ok nmX7 kw_6_4 rfl rfl <|
  s_aload_n dX7_takeNext_44 rfl <|
  s_get dX7_takeNext_45 (ci := 7) (sl := 2) (Cn := RX7) (Tf := TX7) (N := 12) rfl (by decide) kiX7 kw_6_2 <|
  s_aload_n dX7_takeNext_48 rfl <|
  s_get dX7_takeNext_49 (ci := 7) (sl := 4) (Cn := RX7) (Tf := TX7) (N := 12) rfl (by decide) kiX7 kw_6_4 <|
  s_aload_n dX7_takeNext_52 rfl <|
  s_get dX7_takeNext_53 (ci := 7) (sl := 6) (Cn := RX7) (Tf := TX7) (N := 12) rfl (by decide) kiX7 kw_6_6 <|
  s_iast dX7_takeNext_56 <|
  s_return dX7_takeNext_57 rfl
noncomputable def m_X7_takeNext : KF := k_fun [k_u, k_u] (b_X7_takeNext_0)
theorem r_X7_takeNext {l : Launch} {D : va_G} {cI cS cM : ClassId} : k_snd l D cI cS cM yX7_takeNext cX7_takeNext 3 none 1 1 (m_X7_takeNext) :=
  k_method (by decide +kernel) (by simp) rfl (s_X7_takeNext_0)
noncomputable def b_X7_addMixes_139 (F_J7_fill_53178 F_X2_left F_X7_mixLines : KF) (J : List KC) : KC := o_ret
set_option maxRecDepth 100000 in
theorem s_X7_addMixes_139 {l : Launch} {D : va_G} {cI cS cM : ClassId} {F_J7_fill_53178 F_X2_left F_X7_mixLines : KF} (h_J7_fill_53178 : k_snd l D cI cS cM yJ7_fill_53178 cJ7_fill_53178 4 none 1 2 F_J7_fill_53178) (h_X2_left : k_snd l D cI cS cM yX2_left cX2_left 3 (some .int) 1 2 F_X2_left) (h_X7_mixLines : k_snd l D cI cS cM yX7_mixLines cX7_mixLines 8 none 1 5 F_X7_mixLines) {J : List KC} (hJ : ∀ (i pc d : Nat), ([(6, 0), (66, 0)] : List (Nat × Nat))[i]? = some (pc, d) → KS l D cI cS cM yX7_addMixes.cls yX7_addMixes.name cX7_addMixes 8 none (k_rm 2 0 0) false pc d (k_jmp J i)) : KS l D cI cS cM yX7_addMixes.cls yX7_addMixes.name cX7_addMixes 8 none (k_rm 2 0 0) false 139 0 (b_X7_addMixes_139 F_J7_fill_53178 F_X2_left F_X7_mixLines J) :=
  s_return dX7_addMixes_139 rfl
noncomputable def b_X7_addMixes_133 (F_J7_fill_53178 F_X2_left F_X7_mixLines : KF) (J : List KC) : KC := o_iinc 6 1 <| k_jmp J 0
set_option maxRecDepth 100000 in
theorem s_X7_addMixes_133 {l : Launch} {D : va_G} {cI cS cM : ClassId} {F_J7_fill_53178 F_X2_left F_X7_mixLines : KF} (h_J7_fill_53178 : k_snd l D cI cS cM yJ7_fill_53178 cJ7_fill_53178 4 none 1 2 F_J7_fill_53178) (h_X2_left : k_snd l D cI cS cM yX2_left cX2_left 3 (some .int) 1 2 F_X2_left) (h_X7_mixLines : k_snd l D cI cS cM yX7_mixLines cX7_mixLines 8 none 1 5 F_X7_mixLines) {J : List KC} (hJ : ∀ (i pc d : Nat), ([(6, 0), (66, 0)] : List (Nat × Nat))[i]? = some (pc, d) → KS l D cI cS cM yX7_addMixes.cls yX7_addMixes.name cX7_addMixes 8 none (k_rm 2 0 0) false pc d (k_jmp J i)) : KS l D cI cS cM yX7_addMixes.cls yX7_addMixes.name cX7_addMixes 8 none (k_rm 2 0 0) false 133 0 (b_X7_addMixes_133 F_J7_fill_53178 F_X2_left F_X7_mixLines J) :=
  s_iinc dX7_addMixes_133 (by decide) (by decide) <|
  s_goto dX7_addMixes_136 (by decide) (hJ 0 _ _ rfl)
noncomputable def b_X7_addMixes_106 (F_J7_fill_53178 F_X2_left F_X7_mixLines : KF) (J : List KC) : KC := o_aload 0 <| o_iload 1 <| o_iload 2 <| o_aload 0 <| o_get 7 1 <| o_aload 0 <| o_get 7 6 <| o_aald <| o_aload 4 <| o_cV0 5 7 F_X7_mixLines <| o_aload 0 <| o_dup <| o_get 7 6 <| o_push 1 <| o_bin n_add <| o_puti 7 6 <| b_X7_addMixes_133 F_J7_fill_53178 F_X2_left F_X7_mixLines J
set_option maxRecDepth 100000 in
theorem s_X7_addMixes_106 {l : Launch} {D : va_G} {cI cS cM : ClassId} {F_J7_fill_53178 F_X2_left F_X7_mixLines : KF} (h_J7_fill_53178 : k_snd l D cI cS cM yJ7_fill_53178 cJ7_fill_53178 4 none 1 2 F_J7_fill_53178) (h_X2_left : k_snd l D cI cS cM yX2_left cX2_left 3 (some .int) 1 2 F_X2_left) (h_X7_mixLines : k_snd l D cI cS cM yX7_mixLines cX7_mixLines 8 none 1 5 F_X7_mixLines) {J : List KC} (hJ : ∀ (i pc d : Nat), ([(6, 0), (66, 0)] : List (Nat × Nat))[i]? = some (pc, d) → KS l D cI cS cM yX7_addMixes.cls yX7_addMixes.name cX7_addMixes 8 none (k_rm 2 0 0) false pc d (k_jmp J i)) : KS l D cI cS cM yX7_addMixes.cls yX7_addMixes.name cX7_addMixes 8 none (k_rm 2 0 0) false 106 0 (b_X7_addMixes_106 F_J7_fill_53178 F_X2_left F_X7_mixLines J) :=
  s_aload_n dX7_addMixes_106 rfl <|
  s_iload_n dX7_addMixes_107 rfl <|
  s_iload_n dX7_addMixes_108 rfl <|
  s_aload_n dX7_addMixes_109 rfl <|
  s_get dX7_addMixes_110 (ci := 7) (sl := 1) (Cn := RX7) (Tf := TX7) (N := 12) rfl (by decide) kiX7 kw_6_1 <|
  s_aload_n dX7_addMixes_113 rfl <|
  s_get dX7_addMixes_114 (ci := 7) (sl := 6) (Cn := RX7) (Tf := TX7) (N := 12) rfl (by decide) kiX7 kw_6_6 <|
  s_aald dX7_addMixes_117 <|
  s_aload dX7_addMixes_118 <|
  s_callV0 dX7_addMixes_120 kw_19_20 kw_19_21 kw_19_22 (ci := 7) rfl ok_X7_mixLines (by decide) (by decide) h_X7_mixLines (by decide) <|
  s_aload_n dX7_addMixes_123 rfl <|
  s_dup dX7_addMixes_124 <|
  s_get dX7_addMixes_125 (ci := 7) (sl := 6) (Cn := RX7) (Tf := TX7) (N := 12) rfl (by decide) kiX7 kw_6_6 <|
  s_push1 dX7_addMixes_128 (by decide) (by decide) <|
  s_iadd dX7_addMixes_129 <|
  s_puti dX7_addMixes_130 (ci := 7) (sl := 6) (Cn := RX7) (Tf := TX7) (N := 12) (tyf := tyX7) rfl (by decide) kiX7 tyX7_ok nmX7 kw_6_6 rfl rfl <|
  s_X7_addMixes_133 h_J7_fill_53178 h_X2_left h_X7_mixLines hJ
noncomputable def b_X7_addMixes_72 (F_J7_fill_53178 F_X2_left F_X7_mixLines : KF) (J : List KC) : KC := o_aload 0 <| o_get 7 11 <| o_aload 0 <| o_get 7 10 <| o_iload 7 <| o_iald <| o_aload 4 <| o_aload 0 <| o_get 7 9 <| o_iload 7 <| o_aald <| o_iload 6 <| o_iald <| o_neg <| o_cV1 2 2 F_X2_left <| o_iast <| o_iinc 7 1 <| k_jmp J 1
set_option maxRecDepth 100000 in
theorem s_X7_addMixes_72 {l : Launch} {D : va_G} {cI cS cM : ClassId} {F_J7_fill_53178 F_X2_left F_X7_mixLines : KF} (h_J7_fill_53178 : k_snd l D cI cS cM yJ7_fill_53178 cJ7_fill_53178 4 none 1 2 F_J7_fill_53178) (h_X2_left : k_snd l D cI cS cM yX2_left cX2_left 3 (some .int) 1 2 F_X2_left) (h_X7_mixLines : k_snd l D cI cS cM yX7_mixLines cX7_mixLines 8 none 1 5 F_X7_mixLines) {J : List KC} (hJ : ∀ (i pc d : Nat), ([(6, 0), (66, 0)] : List (Nat × Nat))[i]? = some (pc, d) → KS l D cI cS cM yX7_addMixes.cls yX7_addMixes.name cX7_addMixes 8 none (k_rm 2 0 0) false pc d (k_jmp J i)) : KS l D cI cS cM yX7_addMixes.cls yX7_addMixes.name cX7_addMixes 8 none (k_rm 2 0 0) false 72 0 (b_X7_addMixes_72 F_J7_fill_53178 F_X2_left F_X7_mixLines J) :=
  s_aload_n dX7_addMixes_72 rfl <|
  s_get dX7_addMixes_73 (ci := 7) (sl := 11) (Cn := RX7) (Tf := TX7) (N := 12) rfl (by decide) kiX7 kw_6_11 <|
  s_aload_n dX7_addMixes_76 rfl <|
  s_get dX7_addMixes_77 (ci := 7) (sl := 10) (Cn := RX7) (Tf := TX7) (N := 12) rfl (by decide) kiX7 kw_6_10 <|
  s_iload dX7_addMixes_80 <|
  s_iald dX7_addMixes_82 <|
  s_aload dX7_addMixes_83 <|
  s_aload_n dX7_addMixes_85 rfl <|
  s_get dX7_addMixes_86 (ci := 7) (sl := 9) (Cn := RX7) (Tf := TX7) (N := 12) rfl (by decide) kiX7 kw_6_9 <|
  s_iload dX7_addMixes_89 <|
  s_aald dX7_addMixes_91 <|
  s_iload dX7_addMixes_92 <|
  s_iald dX7_addMixes_94 <|
  s_ineg dX7_addMixes_95 <|
  s_callV1 dX7_addMixes_96 kw_18_23 kw_16_23 kw_17_0 (ci := 2) rfl ok_X2_left (by decide) (by decide) h_X2_left (by decide) <|
  s_iast dX7_addMixes_99 <|
  s_iinc dX7_addMixes_100 (by decide) (by decide) <|
  s_goto dX7_addMixes_103 (by decide) (hJ 1 _ _ rfl)
noncomputable def b_X7_addMixes_66 (F_J7_fill_53178 F_X2_left F_X7_mixLines : KF) (J : List KC) : KC := o_iload 7 <| o_iload 3 <| o_c2 s_lt (b_X7_addMixes_72 F_J7_fill_53178 F_X2_left F_X7_mixLines J) (b_X7_addMixes_106 F_J7_fill_53178 F_X2_left F_X7_mixLines J)
set_option maxRecDepth 100000 in
theorem s_X7_addMixes_66 {l : Launch} {D : va_G} {cI cS cM : ClassId} {F_J7_fill_53178 F_X2_left F_X7_mixLines : KF} (h_J7_fill_53178 : k_snd l D cI cS cM yJ7_fill_53178 cJ7_fill_53178 4 none 1 2 F_J7_fill_53178) (h_X2_left : k_snd l D cI cS cM yX2_left cX2_left 3 (some .int) 1 2 F_X2_left) (h_X7_mixLines : k_snd l D cI cS cM yX7_mixLines cX7_mixLines 8 none 1 5 F_X7_mixLines) {J : List KC} (hJ : ∀ (i pc d : Nat), ([(6, 0), (66, 0)] : List (Nat × Nat))[i]? = some (pc, d) → KS l D cI cS cM yX7_addMixes.cls yX7_addMixes.name cX7_addMixes 8 none (k_rm 2 0 0) false pc d (k_jmp J i)) : KS l D cI cS cM yX7_addMixes.cls yX7_addMixes.name cX7_addMixes 8 none (k_rm 2 0 0) false 66 0 (b_X7_addMixes_66 F_J7_fill_53178 F_X2_left F_X7_mixLines J) :=
  s_iload dX7_addMixes_66 <|
  s_iload_n dX7_addMixes_68 rfl <|
  s_icmp_ge dX7_addMixes_69 (by decide) (s_X7_addMixes_106 h_J7_fill_53178 h_X2_left h_X7_mixLines hJ) (s_X7_addMixes_72 h_J7_fill_53178 h_X2_left h_X7_mixLines hJ)
noncomputable def b_X7_addMixes_47 (F_J7_fill_53178 F_X2_left F_X7_mixLines : KF) (J : List KC) : KC := o_aload 0 <| o_get 7 11 <| o_push 0 <| o_cS0 2 F_J7_fill_53178 <| o_aload 0 <| o_get 7 11 <| o_iload 6 <| o_push 1 <| o_iast <| o_push 0 <| o_istore 7 <| b_X7_addMixes_66 F_J7_fill_53178 F_X2_left F_X7_mixLines J
set_option maxRecDepth 100000 in
theorem s_X7_addMixes_47 {l : Launch} {D : va_G} {cI cS cM : ClassId} {F_J7_fill_53178 F_X2_left F_X7_mixLines : KF} (h_J7_fill_53178 : k_snd l D cI cS cM yJ7_fill_53178 cJ7_fill_53178 4 none 1 2 F_J7_fill_53178) (h_X2_left : k_snd l D cI cS cM yX2_left cX2_left 3 (some .int) 1 2 F_X2_left) (h_X7_mixLines : k_snd l D cI cS cM yX7_mixLines cX7_mixLines 8 none 1 5 F_X7_mixLines) {J : List KC} (hJ : ∀ (i pc d : Nat), ([(6, 0), (66, 0)] : List (Nat × Nat))[i]? = some (pc, d) → KS l D cI cS cM yX7_addMixes.cls yX7_addMixes.name cX7_addMixes 8 none (k_rm 2 0 0) false pc d (k_jmp J i)) : KS l D cI cS cM yX7_addMixes.cls yX7_addMixes.name cX7_addMixes 8 none (k_rm 2 0 0) false 47 0 (b_X7_addMixes_47 F_J7_fill_53178 F_X2_left F_X7_mixLines J) :=
  s_aload_n dX7_addMixes_47 rfl <|
  s_get dX7_addMixes_48 (ci := 7) (sl := 11) (Cn := RX7) (Tf := TX7) (N := 12) rfl (by decide) kiX7 kw_6_11 <|
  s_push1 dX7_addMixes_51 (by decide) (by decide) <|
  s_callS0 dX7_addMixes_52 kw_18_1 kw_13_15 ok_J7_fill_53178 (by decide) (by decide) h_J7_fill_53178 (by decide) <|
  s_aload_n dX7_addMixes_55 rfl <|
  s_get dX7_addMixes_56 (ci := 7) (sl := 11) (Cn := RX7) (Tf := TX7) (N := 12) rfl (by decide) kiX7 kw_6_11 <|
  s_iload dX7_addMixes_59 <|
  s_push1 dX7_addMixes_61 (by decide) (by decide) <|
  s_iast dX7_addMixes_62 <|
  s_push1 dX7_addMixes_63 (by decide) (by decide) <|
  s_istore dX7_addMixes_64 (by decide) <|
  s_X7_addMixes_66 h_J7_fill_53178 h_X2_left h_X7_mixLines hJ
noncomputable def b_X7_addMixes_36 (F_J7_fill_53178 F_X2_left F_X7_mixLines : KF) (J : List KC) : KC := o_aload 0 <| o_get 7 6 <| o_aload 0 <| o_get 7 7 <| o_c2 s_lt (b_X7_addMixes_47 F_J7_fill_53178 F_X2_left F_X7_mixLines J) (b_X7_addMixes_133 F_J7_fill_53178 F_X2_left F_X7_mixLines J)
set_option maxRecDepth 100000 in
theorem s_X7_addMixes_36 {l : Launch} {D : va_G} {cI cS cM : ClassId} {F_J7_fill_53178 F_X2_left F_X7_mixLines : KF} (h_J7_fill_53178 : k_snd l D cI cS cM yJ7_fill_53178 cJ7_fill_53178 4 none 1 2 F_J7_fill_53178) (h_X2_left : k_snd l D cI cS cM yX2_left cX2_left 3 (some .int) 1 2 F_X2_left) (h_X7_mixLines : k_snd l D cI cS cM yX7_mixLines cX7_mixLines 8 none 1 5 F_X7_mixLines) {J : List KC} (hJ : ∀ (i pc d : Nat), ([(6, 0), (66, 0)] : List (Nat × Nat))[i]? = some (pc, d) → KS l D cI cS cM yX7_addMixes.cls yX7_addMixes.name cX7_addMixes 8 none (k_rm 2 0 0) false pc d (k_jmp J i)) : KS l D cI cS cM yX7_addMixes.cls yX7_addMixes.name cX7_addMixes 8 none (k_rm 2 0 0) false 36 0 (b_X7_addMixes_36 F_J7_fill_53178 F_X2_left F_X7_mixLines J) :=
  s_aload_n dX7_addMixes_36 rfl <|
  s_get dX7_addMixes_37 (ci := 7) (sl := 6) (Cn := RX7) (Tf := TX7) (N := 12) rfl (by decide) kiX7 kw_6_6 <|
  s_aload_n dX7_addMixes_40 rfl <|
  s_get dX7_addMixes_41 (ci := 7) (sl := 7) (Cn := RX7) (Tf := TX7) (N := 12) rfl (by decide) kiX7 kw_6_7 <|
  s_icmp_ge dX7_addMixes_44 (by decide) (s_X7_addMixes_133 h_J7_fill_53178 h_X2_left h_X7_mixLines hJ) (s_X7_addMixes_47 h_J7_fill_53178 h_X2_left h_X7_mixLines hJ)
noncomputable def b_X7_addMixes_30 (F_J7_fill_53178 F_X2_left F_X7_mixLines : KF) (J : List KC) : KC := o_iinc 5 1 <| b_X7_addMixes_133 F_J7_fill_53178 F_X2_left F_X7_mixLines J
set_option maxRecDepth 100000 in
theorem s_X7_addMixes_30 {l : Launch} {D : va_G} {cI cS cM : ClassId} {F_J7_fill_53178 F_X2_left F_X7_mixLines : KF} (h_J7_fill_53178 : k_snd l D cI cS cM yJ7_fill_53178 cJ7_fill_53178 4 none 1 2 F_J7_fill_53178) (h_X2_left : k_snd l D cI cS cM yX2_left cX2_left 3 (some .int) 1 2 F_X2_left) (h_X7_mixLines : k_snd l D cI cS cM yX7_mixLines cX7_mixLines 8 none 1 5 F_X7_mixLines) {J : List KC} (hJ : ∀ (i pc d : Nat), ([(6, 0), (66, 0)] : List (Nat × Nat))[i]? = some (pc, d) → KS l D cI cS cM yX7_addMixes.cls yX7_addMixes.name cX7_addMixes 8 none (k_rm 2 0 0) false pc d (k_jmp J i)) : KS l D cI cS cM yX7_addMixes.cls yX7_addMixes.name cX7_addMixes 8 none (k_rm 2 0 0) false 30 0 (b_X7_addMixes_30 F_J7_fill_53178 F_X2_left F_X7_mixLines J) :=
  s_iinc dX7_addMixes_30 (by decide) (by decide) <|
  s_goto dX7_addMixes_33 (by decide) (s_X7_addMixes_133 h_J7_fill_53178 h_X2_left h_X7_mixLines hJ)
noncomputable def b_X7_addMixes_18 (F_J7_fill_53178 F_X2_left F_X7_mixLines : KF) (J : List KC) : KC := o_aload 0 <| o_get 7 10 <| o_iload 5 <| o_iald <| o_iload 6 <| o_c2 Nat.beq (b_X7_addMixes_30 F_J7_fill_53178 F_X2_left F_X7_mixLines J) (b_X7_addMixes_36 F_J7_fill_53178 F_X2_left F_X7_mixLines J)
set_option maxRecDepth 100000 in
theorem s_X7_addMixes_18 {l : Launch} {D : va_G} {cI cS cM : ClassId} {F_J7_fill_53178 F_X2_left F_X7_mixLines : KF} (h_J7_fill_53178 : k_snd l D cI cS cM yJ7_fill_53178 cJ7_fill_53178 4 none 1 2 F_J7_fill_53178) (h_X2_left : k_snd l D cI cS cM yX2_left cX2_left 3 (some .int) 1 2 F_X2_left) (h_X7_mixLines : k_snd l D cI cS cM yX7_mixLines cX7_mixLines 8 none 1 5 F_X7_mixLines) {J : List KC} (hJ : ∀ (i pc d : Nat), ([(6, 0), (66, 0)] : List (Nat × Nat))[i]? = some (pc, d) → KS l D cI cS cM yX7_addMixes.cls yX7_addMixes.name cX7_addMixes 8 none (k_rm 2 0 0) false pc d (k_jmp J i)) : KS l D cI cS cM yX7_addMixes.cls yX7_addMixes.name cX7_addMixes 8 none (k_rm 2 0 0) false 18 0 (b_X7_addMixes_18 F_J7_fill_53178 F_X2_left F_X7_mixLines J) :=
  s_aload_n dX7_addMixes_18 rfl <|
  s_get dX7_addMixes_19 (ci := 7) (sl := 10) (Cn := RX7) (Tf := TX7) (N := 12) rfl (by decide) kiX7 kw_6_10 <|
  s_iload dX7_addMixes_22 <|
  s_iald dX7_addMixes_24 <|
  s_iload dX7_addMixes_25 <|
  s_icmp_ne dX7_addMixes_27 (by decide) (s_X7_addMixes_36 h_J7_fill_53178 h_X2_left h_X7_mixLines hJ) (s_X7_addMixes_30 h_J7_fill_53178 h_X2_left h_X7_mixLines hJ)
noncomputable def b_X7_addMixes_12 (F_J7_fill_53178 F_X2_left F_X7_mixLines : KF) (J : List KC) : KC := o_iload 5 <| o_iload 3 <| o_c2 s_lt (b_X7_addMixes_18 F_J7_fill_53178 F_X2_left F_X7_mixLines J) (b_X7_addMixes_36 F_J7_fill_53178 F_X2_left F_X7_mixLines J)
set_option maxRecDepth 100000 in
theorem s_X7_addMixes_12 {l : Launch} {D : va_G} {cI cS cM : ClassId} {F_J7_fill_53178 F_X2_left F_X7_mixLines : KF} (h_J7_fill_53178 : k_snd l D cI cS cM yJ7_fill_53178 cJ7_fill_53178 4 none 1 2 F_J7_fill_53178) (h_X2_left : k_snd l D cI cS cM yX2_left cX2_left 3 (some .int) 1 2 F_X2_left) (h_X7_mixLines : k_snd l D cI cS cM yX7_mixLines cX7_mixLines 8 none 1 5 F_X7_mixLines) {J : List KC} (hJ : ∀ (i pc d : Nat), ([(6, 0), (66, 0)] : List (Nat × Nat))[i]? = some (pc, d) → KS l D cI cS cM yX7_addMixes.cls yX7_addMixes.name cX7_addMixes 8 none (k_rm 2 0 0) false pc d (k_jmp J i)) : KS l D cI cS cM yX7_addMixes.cls yX7_addMixes.name cX7_addMixes 8 none (k_rm 2 0 0) false 12 0 (b_X7_addMixes_12 F_J7_fill_53178 F_X2_left F_X7_mixLines J) :=
  s_iload dX7_addMixes_12 <|
  s_iload_n dX7_addMixes_14 rfl <|
  s_icmp_ge dX7_addMixes_15 (by decide) (s_X7_addMixes_36 h_J7_fill_53178 h_X2_left h_X7_mixLines hJ) (s_X7_addMixes_18 h_J7_fill_53178 h_X2_left h_X7_mixLines hJ)
noncomputable def b_X7_addMixes_6 (F_J7_fill_53178 F_X2_left F_X7_mixLines : KF) (J : List KC) : KC := o_iload 6 <| o_iload 2 <| o_c2 s_lt (b_X7_addMixes_12 F_J7_fill_53178 F_X2_left F_X7_mixLines J) (b_X7_addMixes_139 F_J7_fill_53178 F_X2_left F_X7_mixLines J)
set_option maxRecDepth 100000 in
theorem s_X7_addMixes_6 {l : Launch} {D : va_G} {cI cS cM : ClassId} {F_J7_fill_53178 F_X2_left F_X7_mixLines : KF} (h_J7_fill_53178 : k_snd l D cI cS cM yJ7_fill_53178 cJ7_fill_53178 4 none 1 2 F_J7_fill_53178) (h_X2_left : k_snd l D cI cS cM yX2_left cX2_left 3 (some .int) 1 2 F_X2_left) (h_X7_mixLines : k_snd l D cI cS cM yX7_mixLines cX7_mixLines 8 none 1 5 F_X7_mixLines) {J : List KC} (hJ : ∀ (i pc d : Nat), ([(6, 0), (66, 0)] : List (Nat × Nat))[i]? = some (pc, d) → KS l D cI cS cM yX7_addMixes.cls yX7_addMixes.name cX7_addMixes 8 none (k_rm 2 0 0) false pc d (k_jmp J i)) : KS l D cI cS cM yX7_addMixes.cls yX7_addMixes.name cX7_addMixes 8 none (k_rm 2 0 0) false 6 0 (b_X7_addMixes_6 F_J7_fill_53178 F_X2_left F_X7_mixLines J) :=
  s_iload dX7_addMixes_6 <|
  s_iload_n dX7_addMixes_8 rfl <|
  s_icmp_ge dX7_addMixes_9 (by decide) (s_X7_addMixes_139 h_J7_fill_53178 h_X2_left h_X7_mixLines hJ) (s_X7_addMixes_12 h_J7_fill_53178 h_X2_left h_X7_mixLines hJ)
noncomputable def b_X7_addMixes_0 (F_J7_fill_53178 F_X2_left F_X7_mixLines : KF) (J : List KC) : KC := o_push 0 <| o_istore 5 <| o_push 0 <| o_istore 6 <| b_X7_addMixes_6 F_J7_fill_53178 F_X2_left F_X7_mixLines J
set_option maxRecDepth 100000 in
theorem s_X7_addMixes_0 {l : Launch} {D : va_G} {cI cS cM : ClassId} {F_J7_fill_53178 F_X2_left F_X7_mixLines : KF} (h_J7_fill_53178 : k_snd l D cI cS cM yJ7_fill_53178 cJ7_fill_53178 4 none 1 2 F_J7_fill_53178) (h_X2_left : k_snd l D cI cS cM yX2_left cX2_left 3 (some .int) 1 2 F_X2_left) (h_X7_mixLines : k_snd l D cI cS cM yX7_mixLines cX7_mixLines 8 none 1 5 F_X7_mixLines) {J : List KC} (hJ : ∀ (i pc d : Nat), ([(6, 0), (66, 0)] : List (Nat × Nat))[i]? = some (pc, d) → KS l D cI cS cM yX7_addMixes.cls yX7_addMixes.name cX7_addMixes 8 none (k_rm 2 0 0) false pc d (k_jmp J i)) : KS l D cI cS cM yX7_addMixes.cls yX7_addMixes.name cX7_addMixes 8 none (k_rm 2 0 0) false 0 0 (b_X7_addMixes_0 F_J7_fill_53178 F_X2_left F_X7_mixLines J) :=
  s_push1 dX7_addMixes_0 (by decide) (by decide) <|
  s_istore dX7_addMixes_1 (by decide) <|
  s_push1 dX7_addMixes_3 (by decide) (by decide) <|
  s_istore dX7_addMixes_4 (by decide) <|
  s_X7_addMixes_6 h_J7_fill_53178 h_X2_left h_X7_mixLines hJ
noncomputable def j_X7_addMixes (F_J7_fill_53178 F_X2_left F_X7_mixLines : KF) (J : List KC) : List KC := [b_X7_addMixes_6 F_J7_fill_53178 F_X2_left F_X7_mixLines J, b_X7_addMixes_66 F_J7_fill_53178 F_X2_left F_X7_mixLines J]
noncomputable def m_X7_addMixes (F_J7_fill_53178 F_X2_left F_X7_mixLines : KF) (n : Nat) : KF := k_fun [k_u, k_u, k_u] (b_X7_addMixes_0 F_J7_fill_53178 F_X2_left F_X7_mixLines (k_loop (j_X7_addMixes F_J7_fill_53178 F_X2_left F_X7_mixLines) n))
theorem r_X7_addMixes {l : Launch} {D : va_G} {cI cS cM : ClassId} {F_J7_fill_53178 F_X2_left F_X7_mixLines : KF} (h_J7_fill_53178 : k_snd l D cI cS cM yJ7_fill_53178 cJ7_fill_53178 4 none 1 2 F_J7_fill_53178) (h_X2_left : k_snd l D cI cS cM yX2_left cX2_left 3 (some .int) 1 2 F_X2_left) (h_X7_mixLines : k_snd l D cI cS cM yX7_mixLines cX7_mixLines 8 none 1 5 F_X7_mixLines) (n : Nat) : k_snd l D cI cS cM yX7_addMixes cX7_addMixes 8 none 2 5 (m_X7_addMixes F_J7_fill_53178 F_X2_left F_X7_mixLines n) :=
  k_method (by decide +kernel) (by simp) rfl (s_X7_addMixes_0 h_J7_fill_53178 h_X2_left h_X7_mixLines (k_loops (hs := [(6, 0), (66, 0)]) (fun J hJ i pc d h => match i, h with | 0, h => by cases h; exact s_X7_addMixes_6 h_J7_fill_53178 h_X2_left h_X7_mixLines hJ | 1, h => by cases h; exact s_X7_addMixes_66 h_J7_fill_53178 h_X2_left h_X7_mixLines hJ | _ + 2, h => by simp at h) n))
noncomputable def b_X7_begin_40 (F_J7_fill_53178 : KF) (J : List KC) : KC := o_aload 0 <| o_push 1 <| o_puti 7 4 <| o_aload 0 <| o_get 7 2 <| o_push 0 <| o_push 0 <| o_iast <| o_aload 0 <| o_get 7 2 <| o_push 1 <| o_aload 0 <| o_get 7 7 <| o_iast <| o_ret
set_option maxRecDepth 100000 in
theorem s_X7_begin_40 {l : Launch} {D : va_G} {cI cS cM : ClassId} {F_J7_fill_53178 : KF} (h_J7_fill_53178 : k_snd l D cI cS cM yJ7_fill_53178 cJ7_fill_53178 4 none 1 2 F_J7_fill_53178) {J : List KC} (hJ : ∀ (i pc d : Nat), ([(7, 0)] : List (Nat × Nat))[i]? = some (pc, d) → KS l D cI cS cM yX7_begin.cls yX7_begin.name cX7_begin 3 none (k_rm 2 0 0) false pc d (k_jmp J i)) : KS l D cI cS cM yX7_begin.cls yX7_begin.name cX7_begin 3 none (k_rm 2 0 0) false 40 0 (b_X7_begin_40 F_J7_fill_53178 J) :=
  s_aload_n dX7_begin_40 rfl <|
  s_push1 dX7_begin_41 (by decide) (by decide) <|
  s_puti dX7_begin_42 (ci := 7) (sl := 4) (Cn := RX7) (Tf := TX7) (N := 12) (tyf := tyX7) rfl (by decide) kiX7 tyX7_ok nmX7 kw_6_4 rfl rfl <|
  s_aload_n dX7_begin_45 rfl <|
  s_get dX7_begin_46 (ci := 7) (sl := 2) (Cn := RX7) (Tf := TX7) (N := 12) rfl (by decide) kiX7 kw_6_2 <|
  s_push1 dX7_begin_49 (by decide) (by decide) <|
  s_push1 dX7_begin_50 (by decide) (by decide) <|
  s_iast dX7_begin_51 <|
  s_aload_n dX7_begin_52 rfl <|
  s_get dX7_begin_53 (ci := 7) (sl := 2) (Cn := RX7) (Tf := TX7) (N := 12) rfl (by decide) kiX7 kw_6_2 <|
  s_push1 dX7_begin_56 (by decide) (by decide) <|
  s_aload_n dX7_begin_57 rfl <|
  s_get dX7_begin_58 (ci := 7) (sl := 7) (Cn := RX7) (Tf := TX7) (N := 12) rfl (by decide) kiX7 kw_6_7 <|
  s_iast dX7_begin_61 <|
  s_return dX7_begin_62 rfl
noncomputable def b_X7_begin_15 (F_J7_fill_53178 : KF) (J : List KC) : KC := o_aload 0 <| o_get 7 0 <| o_iload 2 <| o_aald <| o_push 0 <| o_cS0 2 F_J7_fill_53178 <| o_aload 0 <| o_get 7 0 <| o_iload 2 <| o_aald <| o_iload 2 <| o_push 1 <| o_iast <| o_iinc 2 1 <| k_jmp J 0
set_option maxRecDepth 100000 in
theorem s_X7_begin_15 {l : Launch} {D : va_G} {cI cS cM : ClassId} {F_J7_fill_53178 : KF} (h_J7_fill_53178 : k_snd l D cI cS cM yJ7_fill_53178 cJ7_fill_53178 4 none 1 2 F_J7_fill_53178) {J : List KC} (hJ : ∀ (i pc d : Nat), ([(7, 0)] : List (Nat × Nat))[i]? = some (pc, d) → KS l D cI cS cM yX7_begin.cls yX7_begin.name cX7_begin 3 none (k_rm 2 0 0) false pc d (k_jmp J i)) : KS l D cI cS cM yX7_begin.cls yX7_begin.name cX7_begin 3 none (k_rm 2 0 0) false 15 0 (b_X7_begin_15 F_J7_fill_53178 J) :=
  s_aload_n dX7_begin_15 rfl <|
  s_get dX7_begin_16 (ci := 7) (sl := 0) (Cn := RX7) (Tf := TX7) (N := 12) rfl (by decide) kiX7 kw_6_0 <|
  s_iload_n dX7_begin_19 rfl <|
  s_aald dX7_begin_20 <|
  s_push1 dX7_begin_21 (by decide) (by decide) <|
  s_callS0 dX7_begin_22 kw_18_1 kw_13_15 ok_J7_fill_53178 (by decide) (by decide) h_J7_fill_53178 (by decide) <|
  s_aload_n dX7_begin_25 rfl <|
  s_get dX7_begin_26 (ci := 7) (sl := 0) (Cn := RX7) (Tf := TX7) (N := 12) rfl (by decide) kiX7 kw_6_0 <|
  s_iload_n dX7_begin_29 rfl <|
  s_aald dX7_begin_30 <|
  s_iload_n dX7_begin_31 rfl <|
  s_push1 dX7_begin_32 (by decide) (by decide) <|
  s_iast dX7_begin_33 <|
  s_iinc dX7_begin_34 (by decide) (by decide) <|
  s_goto dX7_begin_37 (by decide) (hJ 0 _ _ rfl)
noncomputable def b_X7_begin_7 (F_J7_fill_53178 : KF) (J : List KC) : KC := o_iload 2 <| o_aload 0 <| o_get 7 7 <| o_c2 s_lt (b_X7_begin_15 F_J7_fill_53178 J) (b_X7_begin_40 F_J7_fill_53178 J)
set_option maxRecDepth 100000 in
theorem s_X7_begin_7 {l : Launch} {D : va_G} {cI cS cM : ClassId} {F_J7_fill_53178 : KF} (h_J7_fill_53178 : k_snd l D cI cS cM yJ7_fill_53178 cJ7_fill_53178 4 none 1 2 F_J7_fill_53178) {J : List KC} (hJ : ∀ (i pc d : Nat), ([(7, 0)] : List (Nat × Nat))[i]? = some (pc, d) → KS l D cI cS cM yX7_begin.cls yX7_begin.name cX7_begin 3 none (k_rm 2 0 0) false pc d (k_jmp J i)) : KS l D cI cS cM yX7_begin.cls yX7_begin.name cX7_begin 3 none (k_rm 2 0 0) false 7 0 (b_X7_begin_7 F_J7_fill_53178 J) :=
  s_iload_n dX7_begin_7 rfl <|
  s_aload_n dX7_begin_8 rfl <|
  s_get dX7_begin_9 (ci := 7) (sl := 7) (Cn := RX7) (Tf := TX7) (N := 12) rfl (by decide) kiX7 kw_6_7 <|
  s_icmp_ge dX7_begin_12 (by decide) (s_X7_begin_40 h_J7_fill_53178 hJ) (s_X7_begin_15 h_J7_fill_53178 hJ)
noncomputable def b_X7_begin_0 (F_J7_fill_53178 : KF) (J : List KC) : KC := o_aload 0 <| o_iload 1 <| o_puti 7 7 <| o_push 0 <| o_istore 2 <| b_X7_begin_7 F_J7_fill_53178 J
set_option maxRecDepth 100000 in
theorem s_X7_begin_0 {l : Launch} {D : va_G} {cI cS cM : ClassId} {F_J7_fill_53178 : KF} (h_J7_fill_53178 : k_snd l D cI cS cM yJ7_fill_53178 cJ7_fill_53178 4 none 1 2 F_J7_fill_53178) {J : List KC} (hJ : ∀ (i pc d : Nat), ([(7, 0)] : List (Nat × Nat))[i]? = some (pc, d) → KS l D cI cS cM yX7_begin.cls yX7_begin.name cX7_begin 3 none (k_rm 2 0 0) false pc d (k_jmp J i)) : KS l D cI cS cM yX7_begin.cls yX7_begin.name cX7_begin 3 none (k_rm 2 0 0) false 0 0 (b_X7_begin_0 F_J7_fill_53178 J) :=
  s_aload_n dX7_begin_0 rfl <|
  s_iload_n dX7_begin_1 rfl <|
  s_puti dX7_begin_2 (ci := 7) (sl := 7) (Cn := RX7) (Tf := TX7) (N := 12) (tyf := tyX7) rfl (by decide) kiX7 tyX7_ok nmX7 kw_6_7 rfl rfl <|
  s_push1 dX7_begin_5 (by decide) (by decide) <|
  s_istore_n dX7_begin_6 rfl (by decide) <|
  s_X7_begin_7 h_J7_fill_53178 hJ
noncomputable def j_X7_begin (F_J7_fill_53178 : KF) (J : List KC) : List KC := [b_X7_begin_7 F_J7_fill_53178 J]
noncomputable def m_X7_begin (F_J7_fill_53178 : KF) (n : Nat) : KF := k_fun [k_u] (b_X7_begin_0 F_J7_fill_53178 (k_loop (j_X7_begin F_J7_fill_53178) n))
theorem r_X7_begin {l : Launch} {D : va_G} {cI cS cM : ClassId} {F_J7_fill_53178 : KF} (h_J7_fill_53178 : k_snd l D cI cS cM yJ7_fill_53178 cJ7_fill_53178 4 none 1 2 F_J7_fill_53178) (n : Nat) : k_snd l D cI cS cM yX7_begin cX7_begin 3 none 2 2 (m_X7_begin F_J7_fill_53178 n) :=
  k_method (by decide +kernel) (by simp) rfl (s_X7_begin_0 h_J7_fill_53178 (k_loops (hs := [(7, 0)]) (fun J hJ i pc d h => match i, h with | 0, h => by cases h; exact s_X7_begin_7 h_J7_fill_53178 hJ | _ + 1, h => by simp at h) n))
noncomputable def b_X7_fillAction_105 (F_X6_pairPlace F_X2_left : KF) (J : List KC) : KC := o_ret
set_option maxRecDepth 100000 in
theorem s_X7_fillAction_105 {l : Launch} {D : va_G} {cI cS cM : ClassId} {F_X6_pairPlace F_X2_left : KF} (h_X6_pairPlace : k_snd l D cI cS cM yX6_pairPlace cX6_pairPlace 3 (some .int) 1 3 F_X6_pairPlace) (h_X2_left : k_snd l D cI cS cM yX2_left cX2_left 3 (some .int) 1 2 F_X2_left) {J : List KC} (hJ : ∀ (i pc d : Nat), ([(3, 0), (12, 0), (24, 0)] : List (Nat × Nat))[i]? = some (pc, d) → KS l D cI cS cM yX7_fillAction.cls yX7_fillAction.name cX7_fillAction 10 none (k_rm 2 0 0) false pc d (k_jmp J i)) : KS l D cI cS cM yX7_fillAction.cls yX7_fillAction.name cX7_fillAction 10 none (k_rm 2 0 0) false 105 0 (b_X7_fillAction_105 F_X6_pairPlace F_X2_left J) :=
  s_return dX7_fillAction_105 rfl
noncomputable def b_X7_fillAction_99 (F_X6_pairPlace F_X2_left : KF) (J : List KC) : KC := o_iinc 6 1 <| k_jmp J 0
set_option maxRecDepth 100000 in
theorem s_X7_fillAction_99 {l : Launch} {D : va_G} {cI cS cM : ClassId} {F_X6_pairPlace F_X2_left : KF} (h_X6_pairPlace : k_snd l D cI cS cM yX6_pairPlace cX6_pairPlace 3 (some .int) 1 3 F_X6_pairPlace) (h_X2_left : k_snd l D cI cS cM yX2_left cX2_left 3 (some .int) 1 2 F_X2_left) {J : List KC} (hJ : ∀ (i pc d : Nat), ([(3, 0), (12, 0), (24, 0)] : List (Nat × Nat))[i]? = some (pc, d) → KS l D cI cS cM yX7_fillAction.cls yX7_fillAction.name cX7_fillAction 10 none (k_rm 2 0 0) false pc d (k_jmp J i)) : KS l D cI cS cM yX7_fillAction.cls yX7_fillAction.name cX7_fillAction 10 none (k_rm 2 0 0) false 99 0 (b_X7_fillAction_99 F_X6_pairPlace F_X2_left J) :=
  s_iinc dX7_fillAction_99 (by decide) (by decide) <|
  s_goto dX7_fillAction_102 (by decide) (hJ 0 _ _ rfl)
noncomputable def b_X7_fillAction_76 (F_X6_pairPlace F_X2_left : KF) (J : List KC) : KC := o_aload 0 <| o_get 7 8 <| o_iload 6 <| o_aald <| o_iload 7 <| o_aload 5 <| o_iload 8 <| o_cV1 2 2 F_X2_left <| o_iast <| o_iinc 7 1 <| k_jmp J 1
set_option maxRecDepth 100000 in
theorem s_X7_fillAction_76 {l : Launch} {D : va_G} {cI cS cM : ClassId} {F_X6_pairPlace F_X2_left : KF} (h_X6_pairPlace : k_snd l D cI cS cM yX6_pairPlace cX6_pairPlace 3 (some .int) 1 3 F_X6_pairPlace) (h_X2_left : k_snd l D cI cS cM yX2_left cX2_left 3 (some .int) 1 2 F_X2_left) {J : List KC} (hJ : ∀ (i pc d : Nat), ([(3, 0), (12, 0), (24, 0)] : List (Nat × Nat))[i]? = some (pc, d) → KS l D cI cS cM yX7_fillAction.cls yX7_fillAction.name cX7_fillAction 10 none (k_rm 2 0 0) false pc d (k_jmp J i)) : KS l D cI cS cM yX7_fillAction.cls yX7_fillAction.name cX7_fillAction 10 none (k_rm 2 0 0) false 76 0 (b_X7_fillAction_76 F_X6_pairPlace F_X2_left J) :=
  s_aload_n dX7_fillAction_76 rfl <|
  s_get dX7_fillAction_77 (ci := 7) (sl := 8) (Cn := RX7) (Tf := TX7) (N := 12) rfl (by decide) kiX7 kw_6_8 <|
  s_iload dX7_fillAction_80 <|
  s_aald dX7_fillAction_82 <|
  s_iload dX7_fillAction_83 <|
  s_aload dX7_fillAction_85 <|
  s_iload dX7_fillAction_87 <|
  s_callV1 dX7_fillAction_89 kw_18_23 kw_16_23 kw_17_0 (ci := 2) rfl ok_X2_left (by decide) (by decide) h_X2_left (by decide) <|
  s_iast dX7_fillAction_92 <|
  s_iinc dX7_fillAction_93 (by decide) (by decide) <|
  s_goto dX7_fillAction_96 (by decide) (hJ 1 _ _ rfl)
noncomputable def b_X7_fillAction_33 (F_X6_pairPlace F_X2_left : KF) (J : List KC) : KC := o_iload 8 <| o_aload 4 <| o_get 6 9 <| o_iload 3 <| o_aload 0 <| o_get 7 10 <| o_iload 7 <| o_iald <| o_iload 9 <| o_cS1 3 F_X6_pairPlace <| o_iald <| o_aload 0 <| o_get 7 0 <| o_iload 1 <| o_iload 6 <| o_bin n_add <| o_aald <| o_iload 9 <| o_iald <| o_bin n_mul <| o_bin n_add <| o_istore 8 <| o_iinc 9 1 <| k_jmp J 2
set_option maxRecDepth 100000 in
theorem s_X7_fillAction_33 {l : Launch} {D : va_G} {cI cS cM : ClassId} {F_X6_pairPlace F_X2_left : KF} (h_X6_pairPlace : k_snd l D cI cS cM yX6_pairPlace cX6_pairPlace 3 (some .int) 1 3 F_X6_pairPlace) (h_X2_left : k_snd l D cI cS cM yX2_left cX2_left 3 (some .int) 1 2 F_X2_left) {J : List KC} (hJ : ∀ (i pc d : Nat), ([(3, 0), (12, 0), (24, 0)] : List (Nat × Nat))[i]? = some (pc, d) → KS l D cI cS cM yX7_fillAction.cls yX7_fillAction.name cX7_fillAction 10 none (k_rm 2 0 0) false pc d (k_jmp J i)) : KS l D cI cS cM yX7_fillAction.cls yX7_fillAction.name cX7_fillAction 10 none (k_rm 2 0 0) false 33 0 (b_X7_fillAction_33 F_X6_pairPlace F_X2_left J) :=
  s_iload dX7_fillAction_33 <|
  s_aload dX7_fillAction_35 <|
  s_get dX7_fillAction_37 (ci := 6) (sl := 9) (Cn := RX6) (Tf := TX6) (N := 11) rfl (by decide) kiX6 kw_19_10 <|
  s_iload_n dX7_fillAction_40 rfl <|
  s_aload_n dX7_fillAction_41 rfl <|
  s_get dX7_fillAction_42 (ci := 7) (sl := 10) (Cn := RX7) (Tf := TX7) (N := 12) rfl (by decide) kiX7 kw_6_10 <|
  s_iload dX7_fillAction_45 <|
  s_iald dX7_fillAction_47 <|
  s_iload dX7_fillAction_48 <|
  s_callS1 dX7_fillAction_50 kw_19_11 kw_16_5 ok_X6_pairPlace (by decide) (by decide) h_X6_pairPlace (by decide) <|
  s_iald dX7_fillAction_53 <|
  s_aload_n dX7_fillAction_54 rfl <|
  s_get dX7_fillAction_55 (ci := 7) (sl := 0) (Cn := RX7) (Tf := TX7) (N := 12) rfl (by decide) kiX7 kw_6_0 <|
  s_iload_n dX7_fillAction_58 rfl <|
  s_iload dX7_fillAction_59 <|
  s_iadd dX7_fillAction_61 <|
  s_aald dX7_fillAction_62 <|
  s_iload dX7_fillAction_63 <|
  s_iald dX7_fillAction_65 <|
  s_imul dX7_fillAction_66 <|
  s_iadd dX7_fillAction_67 <|
  s_istore dX7_fillAction_68 (by decide) <|
  s_iinc dX7_fillAction_70 (by decide) (by decide) <|
  s_goto dX7_fillAction_73 (by decide) (hJ 2 _ _ rfl)
noncomputable def b_X7_fillAction_24 (F_X6_pairPlace F_X2_left : KF) (J : List KC) : KC := o_iload 9 <| o_aload 0 <| o_get 7 7 <| o_c2 s_lt (b_X7_fillAction_33 F_X6_pairPlace F_X2_left J) (b_X7_fillAction_76 F_X6_pairPlace F_X2_left J)
set_option maxRecDepth 100000 in
theorem s_X7_fillAction_24 {l : Launch} {D : va_G} {cI cS cM : ClassId} {F_X6_pairPlace F_X2_left : KF} (h_X6_pairPlace : k_snd l D cI cS cM yX6_pairPlace cX6_pairPlace 3 (some .int) 1 3 F_X6_pairPlace) (h_X2_left : k_snd l D cI cS cM yX2_left cX2_left 3 (some .int) 1 2 F_X2_left) {J : List KC} (hJ : ∀ (i pc d : Nat), ([(3, 0), (12, 0), (24, 0)] : List (Nat × Nat))[i]? = some (pc, d) → KS l D cI cS cM yX7_fillAction.cls yX7_fillAction.name cX7_fillAction 10 none (k_rm 2 0 0) false pc d (k_jmp J i)) : KS l D cI cS cM yX7_fillAction.cls yX7_fillAction.name cX7_fillAction 10 none (k_rm 2 0 0) false 24 0 (b_X7_fillAction_24 F_X6_pairPlace F_X2_left J) :=
  s_iload dX7_fillAction_24 <|
  s_aload_n dX7_fillAction_26 rfl <|
  s_get dX7_fillAction_27 (ci := 7) (sl := 7) (Cn := RX7) (Tf := TX7) (N := 12) rfl (by decide) kiX7 kw_6_7 <|
  s_icmp_ge dX7_fillAction_30 (by decide) (s_X7_fillAction_76 h_X6_pairPlace h_X2_left hJ) (s_X7_fillAction_33 h_X6_pairPlace h_X2_left hJ)
noncomputable def b_X7_fillAction_18 (F_X6_pairPlace F_X2_left : KF) (J : List KC) : KC := o_push 0 <| o_istore 8 <| o_push 0 <| o_istore 9 <| b_X7_fillAction_24 F_X6_pairPlace F_X2_left J
set_option maxRecDepth 100000 in
theorem s_X7_fillAction_18 {l : Launch} {D : va_G} {cI cS cM : ClassId} {F_X6_pairPlace F_X2_left : KF} (h_X6_pairPlace : k_snd l D cI cS cM yX6_pairPlace cX6_pairPlace 3 (some .int) 1 3 F_X6_pairPlace) (h_X2_left : k_snd l D cI cS cM yX2_left cX2_left 3 (some .int) 1 2 F_X2_left) {J : List KC} (hJ : ∀ (i pc d : Nat), ([(3, 0), (12, 0), (24, 0)] : List (Nat × Nat))[i]? = some (pc, d) → KS l D cI cS cM yX7_fillAction.cls yX7_fillAction.name cX7_fillAction 10 none (k_rm 2 0 0) false pc d (k_jmp J i)) : KS l D cI cS cM yX7_fillAction.cls yX7_fillAction.name cX7_fillAction 10 none (k_rm 2 0 0) false 18 0 (b_X7_fillAction_18 F_X6_pairPlace F_X2_left J) :=
  s_push1 dX7_fillAction_18 (by decide) (by decide) <|
  s_istore dX7_fillAction_19 (by decide) <|
  s_push1 dX7_fillAction_21 (by decide) (by decide) <|
  s_istore dX7_fillAction_22 (by decide) <|
  s_X7_fillAction_24 h_X6_pairPlace h_X2_left hJ
noncomputable def b_X7_fillAction_12 (F_X6_pairPlace F_X2_left : KF) (J : List KC) : KC := o_iload 7 <| o_iload 2 <| o_c2 s_lt (b_X7_fillAction_18 F_X6_pairPlace F_X2_left J) (b_X7_fillAction_99 F_X6_pairPlace F_X2_left J)
set_option maxRecDepth 100000 in
theorem s_X7_fillAction_12 {l : Launch} {D : va_G} {cI cS cM : ClassId} {F_X6_pairPlace F_X2_left : KF} (h_X6_pairPlace : k_snd l D cI cS cM yX6_pairPlace cX6_pairPlace 3 (some .int) 1 3 F_X6_pairPlace) (h_X2_left : k_snd l D cI cS cM yX2_left cX2_left 3 (some .int) 1 2 F_X2_left) {J : List KC} (hJ : ∀ (i pc d : Nat), ([(3, 0), (12, 0), (24, 0)] : List (Nat × Nat))[i]? = some (pc, d) → KS l D cI cS cM yX7_fillAction.cls yX7_fillAction.name cX7_fillAction 10 none (k_rm 2 0 0) false pc d (k_jmp J i)) : KS l D cI cS cM yX7_fillAction.cls yX7_fillAction.name cX7_fillAction 10 none (k_rm 2 0 0) false 12 0 (b_X7_fillAction_12 F_X6_pairPlace F_X2_left J) :=
  s_iload dX7_fillAction_12 <|
  s_iload_n dX7_fillAction_14 rfl <|
  s_icmp_ge dX7_fillAction_15 (by decide) (s_X7_fillAction_99 h_X6_pairPlace h_X2_left hJ) (s_X7_fillAction_18 h_X6_pairPlace h_X2_left hJ)
noncomputable def b_X7_fillAction_9 (F_X6_pairPlace F_X2_left : KF) (J : List KC) : KC := o_push 0 <| o_istore 7 <| b_X7_fillAction_12 F_X6_pairPlace F_X2_left J
set_option maxRecDepth 100000 in
theorem s_X7_fillAction_9 {l : Launch} {D : va_G} {cI cS cM : ClassId} {F_X6_pairPlace F_X2_left : KF} (h_X6_pairPlace : k_snd l D cI cS cM yX6_pairPlace cX6_pairPlace 3 (some .int) 1 3 F_X6_pairPlace) (h_X2_left : k_snd l D cI cS cM yX2_left cX2_left 3 (some .int) 1 2 F_X2_left) {J : List KC} (hJ : ∀ (i pc d : Nat), ([(3, 0), (12, 0), (24, 0)] : List (Nat × Nat))[i]? = some (pc, d) → KS l D cI cS cM yX7_fillAction.cls yX7_fillAction.name cX7_fillAction 10 none (k_rm 2 0 0) false pc d (k_jmp J i)) : KS l D cI cS cM yX7_fillAction.cls yX7_fillAction.name cX7_fillAction 10 none (k_rm 2 0 0) false 9 0 (b_X7_fillAction_9 F_X6_pairPlace F_X2_left J) :=
  s_push1 dX7_fillAction_9 (by decide) (by decide) <|
  s_istore dX7_fillAction_10 (by decide) <|
  s_X7_fillAction_12 h_X6_pairPlace h_X2_left hJ
noncomputable def b_X7_fillAction_3 (F_X6_pairPlace F_X2_left : KF) (J : List KC) : KC := o_iload 6 <| o_iload 2 <| o_c2 s_lt (b_X7_fillAction_9 F_X6_pairPlace F_X2_left J) (b_X7_fillAction_105 F_X6_pairPlace F_X2_left J)
set_option maxRecDepth 100000 in
theorem s_X7_fillAction_3 {l : Launch} {D : va_G} {cI cS cM : ClassId} {F_X6_pairPlace F_X2_left : KF} (h_X6_pairPlace : k_snd l D cI cS cM yX6_pairPlace cX6_pairPlace 3 (some .int) 1 3 F_X6_pairPlace) (h_X2_left : k_snd l D cI cS cM yX2_left cX2_left 3 (some .int) 1 2 F_X2_left) {J : List KC} (hJ : ∀ (i pc d : Nat), ([(3, 0), (12, 0), (24, 0)] : List (Nat × Nat))[i]? = some (pc, d) → KS l D cI cS cM yX7_fillAction.cls yX7_fillAction.name cX7_fillAction 10 none (k_rm 2 0 0) false pc d (k_jmp J i)) : KS l D cI cS cM yX7_fillAction.cls yX7_fillAction.name cX7_fillAction 10 none (k_rm 2 0 0) false 3 0 (b_X7_fillAction_3 F_X6_pairPlace F_X2_left J) :=
  s_iload dX7_fillAction_3 <|
  s_iload_n dX7_fillAction_5 rfl <|
  s_icmp_ge dX7_fillAction_6 (by decide) (s_X7_fillAction_105 h_X6_pairPlace h_X2_left hJ) (s_X7_fillAction_9 h_X6_pairPlace h_X2_left hJ)
noncomputable def b_X7_fillAction_0 (F_X6_pairPlace F_X2_left : KF) (J : List KC) : KC := o_push 0 <| o_istore 6 <| b_X7_fillAction_3 F_X6_pairPlace F_X2_left J
set_option maxRecDepth 100000 in
theorem s_X7_fillAction_0 {l : Launch} {D : va_G} {cI cS cM : ClassId} {F_X6_pairPlace F_X2_left : KF} (h_X6_pairPlace : k_snd l D cI cS cM yX6_pairPlace cX6_pairPlace 3 (some .int) 1 3 F_X6_pairPlace) (h_X2_left : k_snd l D cI cS cM yX2_left cX2_left 3 (some .int) 1 2 F_X2_left) {J : List KC} (hJ : ∀ (i pc d : Nat), ([(3, 0), (12, 0), (24, 0)] : List (Nat × Nat))[i]? = some (pc, d) → KS l D cI cS cM yX7_fillAction.cls yX7_fillAction.name cX7_fillAction 10 none (k_rm 2 0 0) false pc d (k_jmp J i)) : KS l D cI cS cM yX7_fillAction.cls yX7_fillAction.name cX7_fillAction 10 none (k_rm 2 0 0) false 0 0 (b_X7_fillAction_0 F_X6_pairPlace F_X2_left J) :=
  s_push1 dX7_fillAction_0 (by decide) (by decide) <|
  s_istore dX7_fillAction_1 (by decide) <|
  s_X7_fillAction_3 h_X6_pairPlace h_X2_left hJ
noncomputable def j_X7_fillAction (F_X6_pairPlace F_X2_left : KF) (J : List KC) : List KC := [b_X7_fillAction_3 F_X6_pairPlace F_X2_left J, b_X7_fillAction_12 F_X6_pairPlace F_X2_left J, b_X7_fillAction_24 F_X6_pairPlace F_X2_left J]
noncomputable def m_X7_fillAction (F_X6_pairPlace F_X2_left : KF) (n : Nat) : KF := k_fun [k_u, k_u, k_u, k_u] (b_X7_fillAction_0 F_X6_pairPlace F_X2_left (k_loop (j_X7_fillAction F_X6_pairPlace F_X2_left) n))
theorem r_X7_fillAction {l : Launch} {D : va_G} {cI cS cM : ClassId} {F_X6_pairPlace F_X2_left : KF} (h_X6_pairPlace : k_snd l D cI cS cM yX6_pairPlace cX6_pairPlace 3 (some .int) 1 3 F_X6_pairPlace) (h_X2_left : k_snd l D cI cS cM yX2_left cX2_left 3 (some .int) 1 2 F_X2_left) (n : Nat) : k_snd l D cI cS cM yX7_fillAction cX7_fillAction 10 none 2 6 (m_X7_fillAction F_X6_pairPlace F_X2_left n) :=
  k_method (by decide +kernel) (by simp) rfl (s_X7_fillAction_0 h_X6_pairPlace h_X2_left (k_loops (hs := [(3, 0), (12, 0), (24, 0)]) (fun J hJ i pc d h => match i, h with | 0, h => by cases h; exact s_X7_fillAction_3 h_X6_pairPlace h_X2_left hJ | 1, h => by cases h; exact s_X7_fillAction_12 h_X6_pairPlace h_X2_left hJ | 2, h => by cases h; exact s_X7_fillAction_24 h_X6_pairPlace h_X2_left hJ | _ + 3, h => by simp at h) n))
noncomputable def b_X7_fillWork_76 (F_X2_left : KF) (J : List KC) : KC := o_ret
set_option maxRecDepth 100000 in
theorem s_X7_fillWork_76 {l : Launch} {D : va_G} {cI cS cM : ClassId} {F_X2_left : KF} (h_X2_left : k_snd l D cI cS cM yX2_left cX2_left 3 (some .int) 1 2 F_X2_left) {J : List KC} (hJ : ∀ (i pc d : Nat), ([(3, 0), (12, 0)] : List (Nat × Nat))[i]? = some (pc, d) → KS l D cI cS cM yX7_fillWork.cls yX7_fillWork.name cX7_fillWork 6 none (k_rm 2 0 0) false pc d (k_jmp J i)) : KS l D cI cS cM yX7_fillWork.cls yX7_fillWork.name cX7_fillWork 6 none (k_rm 2 0 0) false 76 0 (b_X7_fillWork_76 F_X2_left J) :=
  s_return dX7_fillWork_76 rfl
noncomputable def b_X7_fillWork_44 (F_X2_left : KF) (J : List KC) : KC := o_aload 0 <| o_get 7 9 <| o_iload 4 <| o_aald <| o_iload 4 <| o_aload 3 <| o_aload 0 <| o_get 7 8 <| o_iload 4 <| o_aald <| o_iload 4 <| o_iald <| o_iload 2 <| o_bin n_sub <| o_cV1 2 2 F_X2_left <| o_iast <| o_iinc 4 1 <| k_jmp J 0
set_option maxRecDepth 100000 in
theorem s_X7_fillWork_44 {l : Launch} {D : va_G} {cI cS cM : ClassId} {F_X2_left : KF} (h_X2_left : k_snd l D cI cS cM yX2_left cX2_left 3 (some .int) 1 2 F_X2_left) {J : List KC} (hJ : ∀ (i pc d : Nat), ([(3, 0), (12, 0)] : List (Nat × Nat))[i]? = some (pc, d) → KS l D cI cS cM yX7_fillWork.cls yX7_fillWork.name cX7_fillWork 6 none (k_rm 2 0 0) false pc d (k_jmp J i)) : KS l D cI cS cM yX7_fillWork.cls yX7_fillWork.name cX7_fillWork 6 none (k_rm 2 0 0) false 44 0 (b_X7_fillWork_44 F_X2_left J) :=
  s_aload_n dX7_fillWork_44 rfl <|
  s_get dX7_fillWork_45 (ci := 7) (sl := 9) (Cn := RX7) (Tf := TX7) (N := 12) rfl (by decide) kiX7 kw_6_9 <|
  s_iload dX7_fillWork_48 <|
  s_aald dX7_fillWork_50 <|
  s_iload dX7_fillWork_51 <|
  s_aload_n dX7_fillWork_53 rfl <|
  s_aload_n dX7_fillWork_54 rfl <|
  s_get dX7_fillWork_55 (ci := 7) (sl := 8) (Cn := RX7) (Tf := TX7) (N := 12) rfl (by decide) kiX7 kw_6_8 <|
  s_iload dX7_fillWork_58 <|
  s_aald dX7_fillWork_60 <|
  s_iload dX7_fillWork_61 <|
  s_iald dX7_fillWork_63 <|
  s_iload_n dX7_fillWork_64 rfl <|
  s_isub dX7_fillWork_65 <|
  s_callV1 dX7_fillWork_66 kw_18_23 kw_16_23 kw_17_0 (ci := 2) rfl ok_X2_left (by decide) (by decide) h_X2_left (by decide) <|
  s_iast dX7_fillWork_69 <|
  s_iinc dX7_fillWork_70 (by decide) (by decide) <|
  s_goto dX7_fillWork_73 (by decide) (hJ 0 _ _ rfl)
noncomputable def b_X7_fillWork_18 (F_X2_left : KF) (J : List KC) : KC := o_aload 0 <| o_get 7 9 <| o_iload 5 <| o_aald <| o_iload 4 <| o_aload 0 <| o_get 7 8 <| o_iload 4 <| o_aald <| o_iload 5 <| o_iald <| o_iast <| o_iinc 5 1 <| k_jmp J 1
set_option maxRecDepth 100000 in
theorem s_X7_fillWork_18 {l : Launch} {D : va_G} {cI cS cM : ClassId} {F_X2_left : KF} (h_X2_left : k_snd l D cI cS cM yX2_left cX2_left 3 (some .int) 1 2 F_X2_left) {J : List KC} (hJ : ∀ (i pc d : Nat), ([(3, 0), (12, 0)] : List (Nat × Nat))[i]? = some (pc, d) → KS l D cI cS cM yX7_fillWork.cls yX7_fillWork.name cX7_fillWork 6 none (k_rm 2 0 0) false pc d (k_jmp J i)) : KS l D cI cS cM yX7_fillWork.cls yX7_fillWork.name cX7_fillWork 6 none (k_rm 2 0 0) false 18 0 (b_X7_fillWork_18 F_X2_left J) :=
  s_aload_n dX7_fillWork_18 rfl <|
  s_get dX7_fillWork_19 (ci := 7) (sl := 9) (Cn := RX7) (Tf := TX7) (N := 12) rfl (by decide) kiX7 kw_6_9 <|
  s_iload dX7_fillWork_22 <|
  s_aald dX7_fillWork_24 <|
  s_iload dX7_fillWork_25 <|
  s_aload_n dX7_fillWork_27 rfl <|
  s_get dX7_fillWork_28 (ci := 7) (sl := 8) (Cn := RX7) (Tf := TX7) (N := 12) rfl (by decide) kiX7 kw_6_8 <|
  s_iload dX7_fillWork_31 <|
  s_aald dX7_fillWork_33 <|
  s_iload dX7_fillWork_34 <|
  s_iald dX7_fillWork_36 <|
  s_iast dX7_fillWork_37 <|
  s_iinc dX7_fillWork_38 (by decide) (by decide) <|
  s_goto dX7_fillWork_41 (by decide) (hJ 1 _ _ rfl)
noncomputable def b_X7_fillWork_12 (F_X2_left : KF) (J : List KC) : KC := o_iload 5 <| o_iload 1 <| o_c2 s_lt (b_X7_fillWork_18 F_X2_left J) (b_X7_fillWork_44 F_X2_left J)
set_option maxRecDepth 100000 in
theorem s_X7_fillWork_12 {l : Launch} {D : va_G} {cI cS cM : ClassId} {F_X2_left : KF} (h_X2_left : k_snd l D cI cS cM yX2_left cX2_left 3 (some .int) 1 2 F_X2_left) {J : List KC} (hJ : ∀ (i pc d : Nat), ([(3, 0), (12, 0)] : List (Nat × Nat))[i]? = some (pc, d) → KS l D cI cS cM yX7_fillWork.cls yX7_fillWork.name cX7_fillWork 6 none (k_rm 2 0 0) false pc d (k_jmp J i)) : KS l D cI cS cM yX7_fillWork.cls yX7_fillWork.name cX7_fillWork 6 none (k_rm 2 0 0) false 12 0 (b_X7_fillWork_12 F_X2_left J) :=
  s_iload dX7_fillWork_12 <|
  s_iload_n dX7_fillWork_14 rfl <|
  s_icmp_ge dX7_fillWork_15 (by decide) (s_X7_fillWork_44 h_X2_left hJ) (s_X7_fillWork_18 h_X2_left hJ)
noncomputable def b_X7_fillWork_9 (F_X2_left : KF) (J : List KC) : KC := o_push 0 <| o_istore 5 <| b_X7_fillWork_12 F_X2_left J
set_option maxRecDepth 100000 in
theorem s_X7_fillWork_9 {l : Launch} {D : va_G} {cI cS cM : ClassId} {F_X2_left : KF} (h_X2_left : k_snd l D cI cS cM yX2_left cX2_left 3 (some .int) 1 2 F_X2_left) {J : List KC} (hJ : ∀ (i pc d : Nat), ([(3, 0), (12, 0)] : List (Nat × Nat))[i]? = some (pc, d) → KS l D cI cS cM yX7_fillWork.cls yX7_fillWork.name cX7_fillWork 6 none (k_rm 2 0 0) false pc d (k_jmp J i)) : KS l D cI cS cM yX7_fillWork.cls yX7_fillWork.name cX7_fillWork 6 none (k_rm 2 0 0) false 9 0 (b_X7_fillWork_9 F_X2_left J) :=
  s_push1 dX7_fillWork_9 (by decide) (by decide) <|
  s_istore dX7_fillWork_10 (by decide) <|
  s_X7_fillWork_12 h_X2_left hJ
noncomputable def b_X7_fillWork_3 (F_X2_left : KF) (J : List KC) : KC := o_iload 4 <| o_iload 1 <| o_c2 s_lt (b_X7_fillWork_9 F_X2_left J) (b_X7_fillWork_76 F_X2_left J)
set_option maxRecDepth 100000 in
theorem s_X7_fillWork_3 {l : Launch} {D : va_G} {cI cS cM : ClassId} {F_X2_left : KF} (h_X2_left : k_snd l D cI cS cM yX2_left cX2_left 3 (some .int) 1 2 F_X2_left) {J : List KC} (hJ : ∀ (i pc d : Nat), ([(3, 0), (12, 0)] : List (Nat × Nat))[i]? = some (pc, d) → KS l D cI cS cM yX7_fillWork.cls yX7_fillWork.name cX7_fillWork 6 none (k_rm 2 0 0) false pc d (k_jmp J i)) : KS l D cI cS cM yX7_fillWork.cls yX7_fillWork.name cX7_fillWork 6 none (k_rm 2 0 0) false 3 0 (b_X7_fillWork_3 F_X2_left J) :=
  s_iload dX7_fillWork_3 <|
  s_iload_n dX7_fillWork_5 rfl <|
  s_icmp_ge dX7_fillWork_6 (by decide) (s_X7_fillWork_76 h_X2_left hJ) (s_X7_fillWork_9 h_X2_left hJ)
noncomputable def b_X7_fillWork_0 (F_X2_left : KF) (J : List KC) : KC := o_push 0 <| o_istore 4 <| b_X7_fillWork_3 F_X2_left J
set_option maxRecDepth 100000 in
theorem s_X7_fillWork_0 {l : Launch} {D : va_G} {cI cS cM : ClassId} {F_X2_left : KF} (h_X2_left : k_snd l D cI cS cM yX2_left cX2_left 3 (some .int) 1 2 F_X2_left) {J : List KC} (hJ : ∀ (i pc d : Nat), ([(3, 0), (12, 0)] : List (Nat × Nat))[i]? = some (pc, d) → KS l D cI cS cM yX7_fillWork.cls yX7_fillWork.name cX7_fillWork 6 none (k_rm 2 0 0) false pc d (k_jmp J i)) : KS l D cI cS cM yX7_fillWork.cls yX7_fillWork.name cX7_fillWork 6 none (k_rm 2 0 0) false 0 0 (b_X7_fillWork_0 F_X2_left J) :=
  s_push1 dX7_fillWork_0 (by decide) (by decide) <|
  s_istore dX7_fillWork_1 (by decide) <|
  s_X7_fillWork_3 h_X2_left hJ
noncomputable def j_X7_fillWork (F_X2_left : KF) (J : List KC) : List KC := [b_X7_fillWork_3 F_X2_left J, b_X7_fillWork_12 F_X2_left J]
noncomputable def m_X7_fillWork (F_X2_left : KF) (n : Nat) : KF := k_fun [k_u, k_u] (b_X7_fillWork_0 F_X2_left (k_loop (j_X7_fillWork F_X2_left) n))
theorem r_X7_fillWork {l : Launch} {D : va_G} {cI cS cM : ClassId} {F_X2_left : KF} (h_X2_left : k_snd l D cI cS cM yX2_left cX2_left 3 (some .int) 1 2 F_X2_left) (n : Nat) : k_snd l D cI cS cM yX7_fillWork cX7_fillWork 6 none 2 4 (m_X7_fillWork F_X2_left n) :=
  k_method (by decide +kernel) (by simp) rfl (s_X7_fillWork_0 h_X2_left (k_loops (hs := [(3, 0), (12, 0)]) (fun J hJ i pc d h => match i, h with | 0, h => by cases h; exact s_X7_fillWork_3 h_X2_left hJ | 1, h => by cases h; exact s_X7_fillWork_12 h_X2_left hJ | _ + 2, h => by simp at h) n))
noncomputable def b_X7_keepLine_79 : KC := o_ret
set_option maxRecDepth 100000 in
theorem s_X7_keepLine_79 {l : Launch} {D : va_G} {cI cS cM : ClassId} : KS l D cI cS cM yX7_keepLine.cls yX7_keepLine.name cX7_keepLine 2 none (k_rm 2 0 0) false 79 0 (b_X7_keepLine_79) :=
  s_return dX7_keepLine_79 rfl
noncomputable def b_X7_keepLine_22 : KC := o_aload 0 <| o_get 7 3 <| o_aload 0 <| o_get 7 5 <| o_aload 0 <| o_get 7 6 <| o_iast <| o_aload 0 <| o_dup <| o_get 7 5 <| o_push 1 <| o_bin n_add <| o_puti 7 5 <| o_aload 0 <| o_get 7 0 <| o_iload 1 <| o_aald <| o_push 0 <| o_aload 0 <| o_get 7 1 <| o_aload 0 <| o_get 7 6 <| o_aald <| o_push 0 <| o_aload 0 <| o_get 7 7 <| o_copy <| o_aload 0 <| o_dup <| o_get 7 6 <| o_push 1 <| o_bin n_add <| o_puti 7 6 <| b_X7_keepLine_79
set_option maxRecDepth 100000 in
theorem s_X7_keepLine_22 {l : Launch} {D : va_G} {cI cS cM : ClassId} : KS l D cI cS cM yX7_keepLine.cls yX7_keepLine.name cX7_keepLine 2 none (k_rm 2 0 0) false 22 0 (b_X7_keepLine_22) :=
  s_aload_n dX7_keepLine_22 rfl <|
  s_get dX7_keepLine_23 (ci := 7) (sl := 3) (Cn := RX7) (Tf := TX7) (N := 12) rfl (by decide) kiX7 kw_6_3 <|
  s_aload_n dX7_keepLine_26 rfl <|
  s_get dX7_keepLine_27 (ci := 7) (sl := 5) (Cn := RX7) (Tf := TX7) (N := 12) rfl (by decide) kiX7 kw_6_5 <|
  s_aload_n dX7_keepLine_30 rfl <|
  s_get dX7_keepLine_31 (ci := 7) (sl := 6) (Cn := RX7) (Tf := TX7) (N := 12) rfl (by decide) kiX7 kw_6_6 <|
  s_iast dX7_keepLine_34 <|
  s_aload_n dX7_keepLine_35 rfl <|
  s_dup dX7_keepLine_36 <|
  s_get dX7_keepLine_37 (ci := 7) (sl := 5) (Cn := RX7) (Tf := TX7) (N := 12) rfl (by decide) kiX7 kw_6_5 <|
  s_push1 dX7_keepLine_40 (by decide) (by decide) <|
  s_iadd dX7_keepLine_41 <|
  s_puti dX7_keepLine_42 (ci := 7) (sl := 5) (Cn := RX7) (Tf := TX7) (N := 12) (tyf := tyX7) rfl (by decide) kiX7 tyX7_ok nmX7 kw_6_5 rfl rfl <|
  s_aload_n dX7_keepLine_45 rfl <|
  s_get dX7_keepLine_46 (ci := 7) (sl := 0) (Cn := RX7) (Tf := TX7) (N := 12) rfl (by decide) kiX7 kw_6_0 <|
  s_iload_n dX7_keepLine_49 rfl <|
  s_aald dX7_keepLine_50 <|
  s_push1 dX7_keepLine_51 (by decide) (by decide) <|
  s_aload_n dX7_keepLine_52 rfl <|
  s_get dX7_keepLine_53 (ci := 7) (sl := 1) (Cn := RX7) (Tf := TX7) (N := 12) rfl (by decide) kiX7 kw_6_1 <|
  s_aload_n dX7_keepLine_56 rfl <|
  s_get dX7_keepLine_57 (ci := 7) (sl := 6) (Cn := RX7) (Tf := TX7) (N := 12) rfl (by decide) kiX7 kw_6_6 <|
  s_aald dX7_keepLine_60 <|
  s_push1 dX7_keepLine_61 (by decide) (by decide) <|
  s_aload_n dX7_keepLine_62 rfl <|
  s_get dX7_keepLine_63 (ci := 7) (sl := 7) (Cn := RX7) (Tf := TX7) (N := 12) rfl (by decide) kiX7 kw_6_7 <|
  s_copy dX7_keepLine_66 kw_18_11 kw_acn kw_acs kw_aci (by decide) (by decide) (by decide) <|
  s_aload_n dX7_keepLine_69 rfl <|
  s_dup dX7_keepLine_70 <|
  s_get dX7_keepLine_71 (ci := 7) (sl := 6) (Cn := RX7) (Tf := TX7) (N := 12) rfl (by decide) kiX7 kw_6_6 <|
  s_push1 dX7_keepLine_74 (by decide) (by decide) <|
  s_iadd dX7_keepLine_75 <|
  s_puti dX7_keepLine_76 (ci := 7) (sl := 6) (Cn := RX7) (Tf := TX7) (N := 12) (tyf := tyX7) rfl (by decide) kiX7 tyX7_ok nmX7 kw_6_6 rfl rfl <|
  s_X7_keepLine_79
noncomputable def b_X7_keepLine_11 : KC := o_aload 0 <| o_get 7 6 <| o_aload 0 <| o_get 7 7 <| o_c2 s_lt (b_X7_keepLine_22) (b_X7_keepLine_79)
set_option maxRecDepth 100000 in
theorem s_X7_keepLine_11 {l : Launch} {D : va_G} {cI cS cM : ClassId} : KS l D cI cS cM yX7_keepLine.cls yX7_keepLine.name cX7_keepLine 2 none (k_rm 2 0 0) false 11 0 (b_X7_keepLine_11) :=
  s_aload_n dX7_keepLine_11 rfl <|
  s_get dX7_keepLine_12 (ci := 7) (sl := 6) (Cn := RX7) (Tf := TX7) (N := 12) rfl (by decide) kiX7 kw_6_6 <|
  s_aload_n dX7_keepLine_15 rfl <|
  s_get dX7_keepLine_16 (ci := 7) (sl := 7) (Cn := RX7) (Tf := TX7) (N := 12) rfl (by decide) kiX7 kw_6_7 <|
  s_icmp_ge dX7_keepLine_19 (by decide) (s_X7_keepLine_79) (s_X7_keepLine_22)
noncomputable def b_X7_keepLine_0 : KC := o_aload 0 <| o_get 7 5 <| o_aload 0 <| o_get 7 7 <| o_c2 s_lt (b_X7_keepLine_11) (b_X7_keepLine_79)
set_option maxRecDepth 100000 in
theorem s_X7_keepLine_0 {l : Launch} {D : va_G} {cI cS cM : ClassId} : KS l D cI cS cM yX7_keepLine.cls yX7_keepLine.name cX7_keepLine 2 none (k_rm 2 0 0) false 0 0 (b_X7_keepLine_0) :=
  s_aload_n dX7_keepLine_0 rfl <|
  s_get dX7_keepLine_1 (ci := 7) (sl := 5) (Cn := RX7) (Tf := TX7) (N := 12) rfl (by decide) kiX7 kw_6_5 <|
  s_aload_n dX7_keepLine_4 rfl <|
  s_get dX7_keepLine_5 (ci := 7) (sl := 7) (Cn := RX7) (Tf := TX7) (N := 12) rfl (by decide) kiX7 kw_6_7 <|
  s_icmp_ge dX7_keepLine_8 (by decide) (s_X7_keepLine_79) (s_X7_keepLine_11)
noncomputable def m_X7_keepLine : KF := k_fun [] (b_X7_keepLine_0)
theorem r_X7_keepLine {l : Launch} {D : va_G} {cI cS cM : ClassId} : k_snd l D cI cS cM yX7_keepLine cX7_keepLine 2 none 2 2 (m_X7_keepLine) :=
  k_method (by decide +kernel) (by simp) rfl (s_X7_keepLine_0)
noncomputable def b_X7_reduce_156 (F_X7_lineWith F_X2_left F_X7_scale F_X7_clearColumn : KF) (J : List KC) : KC := o_iload 6 <| o_iret
set_option maxRecDepth 100000 in
theorem s_X7_reduce_156 {l : Launch} {D : va_G} {cI cS cM : ClassId} {F_X7_lineWith F_X2_left F_X7_scale F_X7_clearColumn : KF} (h_X7_lineWith : k_snd l D cI cS cM yX7_lineWith cX7_lineWith 5 (some .int) 1 4 F_X7_lineWith) (h_X2_left : k_snd l D cI cS cM yX2_left cX2_left 3 (some .int) 1 2 F_X2_left) (h_X7_scale : k_snd l D cI cS cM yX7_scale cX7_scale 6 none 1 5 F_X7_scale) (h_X7_clearColumn : k_snd l D cI cS cM yX7_clearColumn cX7_clearColumn 7 none 1 5 F_X7_clearColumn) {J : List KC} (hJ : ∀ (i pc d : Nat), ([(6, 0), (97, 0)] : List (Nat × Nat))[i]? = some (pc, d) → KS l D cI cS cM yX7_reduce.cls yX7_reduce.name cX7_reduce 11 (some .int) (k_rm 2 0 0) false pc d (k_jmp J i)) : KS l D cI cS cM yX7_reduce.cls yX7_reduce.name cX7_reduce 11 (some .int) (k_rm 2 0 0) false 156 0 (b_X7_reduce_156 F_X7_lineWith F_X2_left F_X7_scale F_X7_clearColumn J) :=
  s_iload dX7_reduce_156 <|
  s_ireturn dX7_reduce_158 rfl
noncomputable def b_X7_reduce_150 (F_X7_lineWith F_X2_left F_X7_scale F_X7_clearColumn : KF) (J : List KC) : KC := o_iinc 7 1 <| k_jmp J 0
set_option maxRecDepth 100000 in
theorem s_X7_reduce_150 {l : Launch} {D : va_G} {cI cS cM : ClassId} {F_X7_lineWith F_X2_left F_X7_scale F_X7_clearColumn : KF} (h_X7_lineWith : k_snd l D cI cS cM yX7_lineWith cX7_lineWith 5 (some .int) 1 4 F_X7_lineWith) (h_X2_left : k_snd l D cI cS cM yX2_left cX2_left 3 (some .int) 1 2 F_X2_left) (h_X7_scale : k_snd l D cI cS cM yX7_scale cX7_scale 6 none 1 5 F_X7_scale) (h_X7_clearColumn : k_snd l D cI cS cM yX7_clearColumn cX7_clearColumn 7 none 1 5 F_X7_clearColumn) {J : List KC} (hJ : ∀ (i pc d : Nat), ([(6, 0), (97, 0)] : List (Nat × Nat))[i]? = some (pc, d) → KS l D cI cS cM yX7_reduce.cls yX7_reduce.name cX7_reduce 11 (some .int) (k_rm 2 0 0) false pc d (k_jmp J i)) : KS l D cI cS cM yX7_reduce.cls yX7_reduce.name cX7_reduce 11 (some .int) (k_rm 2 0 0) false 150 0 (b_X7_reduce_150 F_X7_lineWith F_X2_left F_X7_scale F_X7_clearColumn J) :=
  s_iinc dX7_reduce_150 (by decide) (by decide) <|
  s_goto dX7_reduce_153 (by decide) (hJ 0 _ _ rfl)
noncomputable def b_X7_reduce_138 (F_X7_lineWith F_X2_left F_X7_scale F_X7_clearColumn : KF) (J : List KC) : KC := o_aload 0 <| o_get 7 10 <| o_iload 6 <| o_iload 7 <| o_iast <| o_iinc 6 1 <| b_X7_reduce_150 F_X7_lineWith F_X2_left F_X7_scale F_X7_clearColumn J
set_option maxRecDepth 100000 in
theorem s_X7_reduce_138 {l : Launch} {D : va_G} {cI cS cM : ClassId} {F_X7_lineWith F_X2_left F_X7_scale F_X7_clearColumn : KF} (h_X7_lineWith : k_snd l D cI cS cM yX7_lineWith cX7_lineWith 5 (some .int) 1 4 F_X7_lineWith) (h_X2_left : k_snd l D cI cS cM yX2_left cX2_left 3 (some .int) 1 2 F_X2_left) (h_X7_scale : k_snd l D cI cS cM yX7_scale cX7_scale 6 none 1 5 F_X7_scale) (h_X7_clearColumn : k_snd l D cI cS cM yX7_clearColumn cX7_clearColumn 7 none 1 5 F_X7_clearColumn) {J : List KC} (hJ : ∀ (i pc d : Nat), ([(6, 0), (97, 0)] : List (Nat × Nat))[i]? = some (pc, d) → KS l D cI cS cM yX7_reduce.cls yX7_reduce.name cX7_reduce 11 (some .int) (k_rm 2 0 0) false pc d (k_jmp J i)) : KS l D cI cS cM yX7_reduce.cls yX7_reduce.name cX7_reduce 11 (some .int) (k_rm 2 0 0) false 138 0 (b_X7_reduce_138 F_X7_lineWith F_X2_left F_X7_scale F_X7_clearColumn J) :=
  s_aload_n dX7_reduce_138 rfl <|
  s_get dX7_reduce_139 (ci := 7) (sl := 10) (Cn := RX7) (Tf := TX7) (N := 12) rfl (by decide) kiX7 kw_6_10 <|
  s_iload dX7_reduce_142 <|
  s_iload dX7_reduce_144 <|
  s_iast dX7_reduce_146 <|
  s_iinc dX7_reduce_147 (by decide) (by decide) <|
  s_X7_reduce_150 h_X7_lineWith h_X2_left h_X7_scale h_X7_clearColumn hJ
noncomputable def b_X7_reduce_132 (F_X7_lineWith F_X2_left F_X7_scale F_X7_clearColumn : KF) (J : List KC) : KC := o_iinc 10 1 <| k_jmp J 1
set_option maxRecDepth 100000 in
theorem s_X7_reduce_132 {l : Launch} {D : va_G} {cI cS cM : ClassId} {F_X7_lineWith F_X2_left F_X7_scale F_X7_clearColumn : KF} (h_X7_lineWith : k_snd l D cI cS cM yX7_lineWith cX7_lineWith 5 (some .int) 1 4 F_X7_lineWith) (h_X2_left : k_snd l D cI cS cM yX2_left cX2_left 3 (some .int) 1 2 F_X2_left) (h_X7_scale : k_snd l D cI cS cM yX7_scale cX7_scale 6 none 1 5 F_X7_scale) (h_X7_clearColumn : k_snd l D cI cS cM yX7_clearColumn cX7_clearColumn 7 none 1 5 F_X7_clearColumn) {J : List KC} (hJ : ∀ (i pc d : Nat), ([(6, 0), (97, 0)] : List (Nat × Nat))[i]? = some (pc, d) → KS l D cI cS cM yX7_reduce.cls yX7_reduce.name cX7_reduce 11 (some .int) (k_rm 2 0 0) false pc d (k_jmp J i)) : KS l D cI cS cM yX7_reduce.cls yX7_reduce.name cX7_reduce 11 (some .int) (k_rm 2 0 0) false 132 0 (b_X7_reduce_132 F_X7_lineWith F_X2_left F_X7_scale F_X7_clearColumn J) :=
  s_iinc dX7_reduce_132 (by decide) (by decide) <|
  s_goto dX7_reduce_135 (by decide) (hJ 1 _ _ rfl)
noncomputable def b_X7_reduce_114 (F_X7_lineWith F_X2_left F_X7_scale F_X7_clearColumn : KF) (J : List KC) : KC := o_aload 1 <| o_iload 10 <| o_aald <| o_aload 9 <| o_iload 7 <| o_iload 4 <| o_aload 5 <| o_get 2 0 <| o_cS0 5 F_X7_clearColumn <| b_X7_reduce_132 F_X7_lineWith F_X2_left F_X7_scale F_X7_clearColumn J
set_option maxRecDepth 100000 in
theorem s_X7_reduce_114 {l : Launch} {D : va_G} {cI cS cM : ClassId} {F_X7_lineWith F_X2_left F_X7_scale F_X7_clearColumn : KF} (h_X7_lineWith : k_snd l D cI cS cM yX7_lineWith cX7_lineWith 5 (some .int) 1 4 F_X7_lineWith) (h_X2_left : k_snd l D cI cS cM yX2_left cX2_left 3 (some .int) 1 2 F_X2_left) (h_X7_scale : k_snd l D cI cS cM yX7_scale cX7_scale 6 none 1 5 F_X7_scale) (h_X7_clearColumn : k_snd l D cI cS cM yX7_clearColumn cX7_clearColumn 7 none 1 5 F_X7_clearColumn) {J : List KC} (hJ : ∀ (i pc d : Nat), ([(6, 0), (97, 0)] : List (Nat × Nat))[i]? = some (pc, d) → KS l D cI cS cM yX7_reduce.cls yX7_reduce.name cX7_reduce 11 (some .int) (k_rm 2 0 0) false pc d (k_jmp J i)) : KS l D cI cS cM yX7_reduce.cls yX7_reduce.name cX7_reduce 11 (some .int) (k_rm 2 0 0) false 114 0 (b_X7_reduce_114 F_X7_lineWith F_X2_left F_X7_scale F_X7_clearColumn J) :=
  s_aload_n dX7_reduce_114 rfl <|
  s_iload dX7_reduce_115 <|
  s_aald dX7_reduce_117 <|
  s_aload dX7_reduce_118 <|
  s_iload dX7_reduce_120 <|
  s_iload dX7_reduce_122 <|
  s_aload dX7_reduce_124 <|
  s_get dX7_reduce_126 (ci := 2) (sl := 0) (Cn := RX2) (Tf := TX2) (N := 4) rfl (by decide) kiX2 kw_18_6 <|
  s_callS0 dX7_reduce_129 kw_19_3 kw_19_4 ok_X7_clearColumn (by decide) (by decide) h_X7_clearColumn (by decide) <|
  s_X7_reduce_132 h_X7_lineWith h_X2_left h_X7_scale h_X7_clearColumn hJ
noncomputable def b_X7_reduce_105 (F_X7_lineWith F_X2_left F_X7_scale F_X7_clearColumn : KF) (J : List KC) : KC := o_iload 10 <| o_iload 2 <| o_iload 6 <| o_bin n_add <| o_c2 Nat.beq (b_X7_reduce_132 F_X7_lineWith F_X2_left F_X7_scale F_X7_clearColumn J) (b_X7_reduce_114 F_X7_lineWith F_X2_left F_X7_scale F_X7_clearColumn J)
set_option maxRecDepth 100000 in
theorem s_X7_reduce_105 {l : Launch} {D : va_G} {cI cS cM : ClassId} {F_X7_lineWith F_X2_left F_X7_scale F_X7_clearColumn : KF} (h_X7_lineWith : k_snd l D cI cS cM yX7_lineWith cX7_lineWith 5 (some .int) 1 4 F_X7_lineWith) (h_X2_left : k_snd l D cI cS cM yX2_left cX2_left 3 (some .int) 1 2 F_X2_left) (h_X7_scale : k_snd l D cI cS cM yX7_scale cX7_scale 6 none 1 5 F_X7_scale) (h_X7_clearColumn : k_snd l D cI cS cM yX7_clearColumn cX7_clearColumn 7 none 1 5 F_X7_clearColumn) {J : List KC} (hJ : ∀ (i pc d : Nat), ([(6, 0), (97, 0)] : List (Nat × Nat))[i]? = some (pc, d) → KS l D cI cS cM yX7_reduce.cls yX7_reduce.name cX7_reduce 11 (some .int) (k_rm 2 0 0) false pc d (k_jmp J i)) : KS l D cI cS cM yX7_reduce.cls yX7_reduce.name cX7_reduce 11 (some .int) (k_rm 2 0 0) false 105 0 (b_X7_reduce_105 F_X7_lineWith F_X2_left F_X7_scale F_X7_clearColumn J) :=
  s_iload dX7_reduce_105 <|
  s_iload_n dX7_reduce_107 rfl <|
  s_iload dX7_reduce_108 <|
  s_iadd dX7_reduce_110 <|
  s_icmp_eq dX7_reduce_111 (by decide) (s_X7_reduce_132 h_X7_lineWith h_X2_left h_X7_scale h_X7_clearColumn hJ) (s_X7_reduce_114 h_X7_lineWith h_X2_left h_X7_scale h_X7_clearColumn hJ)
noncomputable def b_X7_reduce_97 (F_X7_lineWith F_X2_left F_X7_scale F_X7_clearColumn : KF) (J : List KC) : KC := o_iload 10 <| o_iload 2 <| o_iload 3 <| o_bin n_add <| o_c2 s_lt (b_X7_reduce_105 F_X7_lineWith F_X2_left F_X7_scale F_X7_clearColumn J) (b_X7_reduce_138 F_X7_lineWith F_X2_left F_X7_scale F_X7_clearColumn J)
set_option maxRecDepth 100000 in
theorem s_X7_reduce_97 {l : Launch} {D : va_G} {cI cS cM : ClassId} {F_X7_lineWith F_X2_left F_X7_scale F_X7_clearColumn : KF} (h_X7_lineWith : k_snd l D cI cS cM yX7_lineWith cX7_lineWith 5 (some .int) 1 4 F_X7_lineWith) (h_X2_left : k_snd l D cI cS cM yX2_left cX2_left 3 (some .int) 1 2 F_X2_left) (h_X7_scale : k_snd l D cI cS cM yX7_scale cX7_scale 6 none 1 5 F_X7_scale) (h_X7_clearColumn : k_snd l D cI cS cM yX7_clearColumn cX7_clearColumn 7 none 1 5 F_X7_clearColumn) {J : List KC} (hJ : ∀ (i pc d : Nat), ([(6, 0), (97, 0)] : List (Nat × Nat))[i]? = some (pc, d) → KS l D cI cS cM yX7_reduce.cls yX7_reduce.name cX7_reduce 11 (some .int) (k_rm 2 0 0) false pc d (k_jmp J i)) : KS l D cI cS cM yX7_reduce.cls yX7_reduce.name cX7_reduce 11 (some .int) (k_rm 2 0 0) false 97 0 (b_X7_reduce_97 F_X7_lineWith F_X2_left F_X7_scale F_X7_clearColumn J) :=
  s_iload dX7_reduce_97 <|
  s_iload_n dX7_reduce_99 rfl <|
  s_iload_n dX7_reduce_100 rfl <|
  s_iadd dX7_reduce_101 <|
  s_icmp_ge dX7_reduce_102 (by decide) (s_X7_reduce_138 h_X7_lineWith h_X2_left h_X7_scale h_X7_clearColumn hJ) (s_X7_reduce_105 h_X7_lineWith h_X2_left h_X7_scale h_X7_clearColumn hJ)
noncomputable def b_X7_reduce_40 (F_X7_lineWith F_X2_left F_X7_scale F_X7_clearColumn : KF) (J : List KC) : KC := o_aload 1 <| o_iload 8 <| o_aald <| o_astore 9 <| o_aload 1 <| o_iload 8 <| o_aload 1 <| o_iload 2 <| o_iload 6 <| o_bin n_add <| o_aald <| o_aast 5 <| o_aload 1 <| o_iload 2 <| o_iload 6 <| o_bin n_add <| o_aload 9 <| o_aast 5 <| o_aload 9 <| o_iload 7 <| o_iload 4 <| o_aload 5 <| o_get 2 2 <| o_aload 5 <| o_aload 9 <| o_iload 7 <| o_iald <| o_cV1 2 2 F_X2_left <| o_iald <| o_aload 5 <| o_get 2 0 <| o_cS0 5 F_X7_scale <| o_iload 2 <| o_istore 10 <| b_X7_reduce_97 F_X7_lineWith F_X2_left F_X7_scale F_X7_clearColumn J
set_option maxRecDepth 100000 in
theorem s_X7_reduce_40 {l : Launch} {D : va_G} {cI cS cM : ClassId} {F_X7_lineWith F_X2_left F_X7_scale F_X7_clearColumn : KF} (h_X7_lineWith : k_snd l D cI cS cM yX7_lineWith cX7_lineWith 5 (some .int) 1 4 F_X7_lineWith) (h_X2_left : k_snd l D cI cS cM yX2_left cX2_left 3 (some .int) 1 2 F_X2_left) (h_X7_scale : k_snd l D cI cS cM yX7_scale cX7_scale 6 none 1 5 F_X7_scale) (h_X7_clearColumn : k_snd l D cI cS cM yX7_clearColumn cX7_clearColumn 7 none 1 5 F_X7_clearColumn) {J : List KC} (hJ : ∀ (i pc d : Nat), ([(6, 0), (97, 0)] : List (Nat × Nat))[i]? = some (pc, d) → KS l D cI cS cM yX7_reduce.cls yX7_reduce.name cX7_reduce 11 (some .int) (k_rm 2 0 0) false pc d (k_jmp J i)) : KS l D cI cS cM yX7_reduce.cls yX7_reduce.name cX7_reduce 11 (some .int) (k_rm 2 0 0) false 40 0 (b_X7_reduce_40 F_X7_lineWith F_X2_left F_X7_scale F_X7_clearColumn J) :=
  s_aload_n dX7_reduce_40 rfl <|
  s_iload dX7_reduce_41 <|
  s_aald dX7_reduce_43 <|
  s_astore dX7_reduce_44 (by decide) <|
  s_aload_n dX7_reduce_46 rfl <|
  s_iload dX7_reduce_47 <|
  s_aload_n dX7_reduce_49 rfl <|
  s_iload_n dX7_reduce_50 rfl <|
  s_iload dX7_reduce_51 <|
  s_iadd dX7_reduce_53 <|
  s_aald dX7_reduce_54 <|
  s_aast dX7_reduce_55 <|
  s_aload_n dX7_reduce_56 rfl <|
  s_iload_n dX7_reduce_57 rfl <|
  s_iload dX7_reduce_58 <|
  s_iadd dX7_reduce_60 <|
  s_aload dX7_reduce_61 <|
  s_aast dX7_reduce_63 <|
  s_aload dX7_reduce_64 <|
  s_iload dX7_reduce_66 <|
  s_iload dX7_reduce_68 <|
  s_aload dX7_reduce_70 <|
  s_get dX7_reduce_72 (ci := 2) (sl := 2) (Cn := RX2) (Tf := TX2) (N := 4) rfl (by decide) kiX2 kw_18_19 <|
  s_aload dX7_reduce_75 <|
  s_aload dX7_reduce_77 <|
  s_iload dX7_reduce_79 <|
  s_iald dX7_reduce_81 <|
  s_callV1 dX7_reduce_82 kw_18_23 kw_16_23 kw_17_0 (ci := 2) rfl ok_X2_left (by decide) (by decide) h_X2_left (by decide) <|
  s_iald dX7_reduce_85 <|
  s_aload dX7_reduce_86 <|
  s_get dX7_reduce_88 (ci := 2) (sl := 0) (Cn := RX2) (Tf := TX2) (N := 4) rfl (by decide) kiX2 kw_18_6 <|
  s_callS0 dX7_reduce_91 kw_19_0 kw_19_1 ok_X7_scale (by decide) (by decide) h_X7_scale (by decide) <|
  s_iload_n dX7_reduce_94 rfl <|
  s_istore dX7_reduce_95 (by decide) <|
  s_X7_reduce_97 h_X7_lineWith h_X2_left h_X7_scale h_X7_clearColumn hJ
noncomputable def b_X7_reduce_19 (F_X7_lineWith F_X2_left F_X7_scale F_X7_clearColumn : KF) (J : List KC) : KC := o_aload 1 <| o_iload 2 <| o_iload 6 <| o_bin n_add <| o_iload 2 <| o_iload 3 <| o_bin n_add <| o_iload 7 <| o_cS1 4 F_X7_lineWith <| o_istore 8 <| o_iload 8 <| o_push 4294967295 <| o_c2 Nat.beq (b_X7_reduce_150 F_X7_lineWith F_X2_left F_X7_scale F_X7_clearColumn J) (b_X7_reduce_40 F_X7_lineWith F_X2_left F_X7_scale F_X7_clearColumn J)
set_option maxRecDepth 100000 in
theorem s_X7_reduce_19 {l : Launch} {D : va_G} {cI cS cM : ClassId} {F_X7_lineWith F_X2_left F_X7_scale F_X7_clearColumn : KF} (h_X7_lineWith : k_snd l D cI cS cM yX7_lineWith cX7_lineWith 5 (some .int) 1 4 F_X7_lineWith) (h_X2_left : k_snd l D cI cS cM yX2_left cX2_left 3 (some .int) 1 2 F_X2_left) (h_X7_scale : k_snd l D cI cS cM yX7_scale cX7_scale 6 none 1 5 F_X7_scale) (h_X7_clearColumn : k_snd l D cI cS cM yX7_clearColumn cX7_clearColumn 7 none 1 5 F_X7_clearColumn) {J : List KC} (hJ : ∀ (i pc d : Nat), ([(6, 0), (97, 0)] : List (Nat × Nat))[i]? = some (pc, d) → KS l D cI cS cM yX7_reduce.cls yX7_reduce.name cX7_reduce 11 (some .int) (k_rm 2 0 0) false pc d (k_jmp J i)) : KS l D cI cS cM yX7_reduce.cls yX7_reduce.name cX7_reduce 11 (some .int) (k_rm 2 0 0) false 19 0 (b_X7_reduce_19 F_X7_lineWith F_X2_left F_X7_scale F_X7_clearColumn J) :=
  s_aload_n dX7_reduce_19 rfl <|
  s_iload_n dX7_reduce_20 rfl <|
  s_iload dX7_reduce_21 <|
  s_iadd dX7_reduce_23 <|
  s_iload_n dX7_reduce_24 rfl <|
  s_iload_n dX7_reduce_25 rfl <|
  s_iadd dX7_reduce_26 <|
  s_iload dX7_reduce_27 <|
  s_callS1 dX7_reduce_29 kw_18_20 kw_18_21 ok_X7_lineWith (by decide) (by decide) h_X7_lineWith (by decide) <|
  s_istore dX7_reduce_32 (by decide) <|
  s_iload dX7_reduce_34 <|
  s_push1 dX7_reduce_36 (by decide) (by decide) <|
  s_icmp_eq dX7_reduce_37 (by decide) (s_X7_reduce_150 h_X7_lineWith h_X2_left h_X7_scale h_X7_clearColumn hJ) (s_X7_reduce_40 h_X7_lineWith h_X2_left h_X7_scale h_X7_clearColumn hJ)
noncomputable def b_X7_reduce_13 (F_X7_lineWith F_X2_left F_X7_scale F_X7_clearColumn : KF) (J : List KC) : KC := o_iload 6 <| o_iload 3 <| o_c2 s_lt (b_X7_reduce_19 F_X7_lineWith F_X2_left F_X7_scale F_X7_clearColumn J) (b_X7_reduce_156 F_X7_lineWith F_X2_left F_X7_scale F_X7_clearColumn J)
set_option maxRecDepth 100000 in
theorem s_X7_reduce_13 {l : Launch} {D : va_G} {cI cS cM : ClassId} {F_X7_lineWith F_X2_left F_X7_scale F_X7_clearColumn : KF} (h_X7_lineWith : k_snd l D cI cS cM yX7_lineWith cX7_lineWith 5 (some .int) 1 4 F_X7_lineWith) (h_X2_left : k_snd l D cI cS cM yX2_left cX2_left 3 (some .int) 1 2 F_X2_left) (h_X7_scale : k_snd l D cI cS cM yX7_scale cX7_scale 6 none 1 5 F_X7_scale) (h_X7_clearColumn : k_snd l D cI cS cM yX7_clearColumn cX7_clearColumn 7 none 1 5 F_X7_clearColumn) {J : List KC} (hJ : ∀ (i pc d : Nat), ([(6, 0), (97, 0)] : List (Nat × Nat))[i]? = some (pc, d) → KS l D cI cS cM yX7_reduce.cls yX7_reduce.name cX7_reduce 11 (some .int) (k_rm 2 0 0) false pc d (k_jmp J i)) : KS l D cI cS cM yX7_reduce.cls yX7_reduce.name cX7_reduce 11 (some .int) (k_rm 2 0 0) false 13 0 (b_X7_reduce_13 F_X7_lineWith F_X2_left F_X7_scale F_X7_clearColumn J) :=
  s_iload dX7_reduce_13 <|
  s_iload_n dX7_reduce_15 rfl <|
  s_icmp_ge dX7_reduce_16 (by decide) (s_X7_reduce_156 h_X7_lineWith h_X2_left h_X7_scale h_X7_clearColumn hJ) (s_X7_reduce_19 h_X7_lineWith h_X2_left h_X7_scale h_X7_clearColumn hJ)
noncomputable def b_X7_reduce_6 (F_X7_lineWith F_X2_left F_X7_scale F_X7_clearColumn : KF) (J : List KC) : KC := o_iload 7 <| o_iload 4 <| o_c2 s_lt (b_X7_reduce_13 F_X7_lineWith F_X2_left F_X7_scale F_X7_clearColumn J) (b_X7_reduce_156 F_X7_lineWith F_X2_left F_X7_scale F_X7_clearColumn J)
set_option maxRecDepth 100000 in
theorem s_X7_reduce_6 {l : Launch} {D : va_G} {cI cS cM : ClassId} {F_X7_lineWith F_X2_left F_X7_scale F_X7_clearColumn : KF} (h_X7_lineWith : k_snd l D cI cS cM yX7_lineWith cX7_lineWith 5 (some .int) 1 4 F_X7_lineWith) (h_X2_left : k_snd l D cI cS cM yX2_left cX2_left 3 (some .int) 1 2 F_X2_left) (h_X7_scale : k_snd l D cI cS cM yX7_scale cX7_scale 6 none 1 5 F_X7_scale) (h_X7_clearColumn : k_snd l D cI cS cM yX7_clearColumn cX7_clearColumn 7 none 1 5 F_X7_clearColumn) {J : List KC} (hJ : ∀ (i pc d : Nat), ([(6, 0), (97, 0)] : List (Nat × Nat))[i]? = some (pc, d) → KS l D cI cS cM yX7_reduce.cls yX7_reduce.name cX7_reduce 11 (some .int) (k_rm 2 0 0) false pc d (k_jmp J i)) : KS l D cI cS cM yX7_reduce.cls yX7_reduce.name cX7_reduce 11 (some .int) (k_rm 2 0 0) false 6 0 (b_X7_reduce_6 F_X7_lineWith F_X2_left F_X7_scale F_X7_clearColumn J) :=
  s_iload dX7_reduce_6 <|
  s_iload dX7_reduce_8 <|
  s_icmp_ge dX7_reduce_10 (by decide) (s_X7_reduce_156 h_X7_lineWith h_X2_left h_X7_scale h_X7_clearColumn hJ) (s_X7_reduce_13 h_X7_lineWith h_X2_left h_X7_scale h_X7_clearColumn hJ)
noncomputable def b_X7_reduce_0 (F_X7_lineWith F_X2_left F_X7_scale F_X7_clearColumn : KF) (J : List KC) : KC := o_push 0 <| o_istore 6 <| o_push 0 <| o_istore 7 <| b_X7_reduce_6 F_X7_lineWith F_X2_left F_X7_scale F_X7_clearColumn J
set_option maxRecDepth 100000 in
theorem s_X7_reduce_0 {l : Launch} {D : va_G} {cI cS cM : ClassId} {F_X7_lineWith F_X2_left F_X7_scale F_X7_clearColumn : KF} (h_X7_lineWith : k_snd l D cI cS cM yX7_lineWith cX7_lineWith 5 (some .int) 1 4 F_X7_lineWith) (h_X2_left : k_snd l D cI cS cM yX2_left cX2_left 3 (some .int) 1 2 F_X2_left) (h_X7_scale : k_snd l D cI cS cM yX7_scale cX7_scale 6 none 1 5 F_X7_scale) (h_X7_clearColumn : k_snd l D cI cS cM yX7_clearColumn cX7_clearColumn 7 none 1 5 F_X7_clearColumn) {J : List KC} (hJ : ∀ (i pc d : Nat), ([(6, 0), (97, 0)] : List (Nat × Nat))[i]? = some (pc, d) → KS l D cI cS cM yX7_reduce.cls yX7_reduce.name cX7_reduce 11 (some .int) (k_rm 2 0 0) false pc d (k_jmp J i)) : KS l D cI cS cM yX7_reduce.cls yX7_reduce.name cX7_reduce 11 (some .int) (k_rm 2 0 0) false 0 0 (b_X7_reduce_0 F_X7_lineWith F_X2_left F_X7_scale F_X7_clearColumn J) :=
  s_push1 dX7_reduce_0 (by decide) (by decide) <|
  s_istore dX7_reduce_1 (by decide) <|
  s_push1 dX7_reduce_3 (by decide) (by decide) <|
  s_istore dX7_reduce_4 (by decide) <|
  s_X7_reduce_6 h_X7_lineWith h_X2_left h_X7_scale h_X7_clearColumn hJ
noncomputable def j_X7_reduce (F_X7_lineWith F_X2_left F_X7_scale F_X7_clearColumn : KF) (J : List KC) : List KC := [b_X7_reduce_6 F_X7_lineWith F_X2_left F_X7_scale F_X7_clearColumn J, b_X7_reduce_97 F_X7_lineWith F_X2_left F_X7_scale F_X7_clearColumn J]
noncomputable def m_X7_reduce (F_X7_lineWith F_X2_left F_X7_scale F_X7_clearColumn : KF) (n : Nat) : KF := k_fun [k_u, k_u, k_u, k_u, k_u] (b_X7_reduce_0 F_X7_lineWith F_X2_left F_X7_scale F_X7_clearColumn (k_loop (j_X7_reduce F_X7_lineWith F_X2_left F_X7_scale F_X7_clearColumn) n))
theorem r_X7_reduce {l : Launch} {D : va_G} {cI cS cM : ClassId} {F_X7_lineWith F_X2_left F_X7_scale F_X7_clearColumn : KF} (h_X7_lineWith : k_snd l D cI cS cM yX7_lineWith cX7_lineWith 5 (some .int) 1 4 F_X7_lineWith) (h_X2_left : k_snd l D cI cS cM yX2_left cX2_left 3 (some .int) 1 2 F_X2_left) (h_X7_scale : k_snd l D cI cS cM yX7_scale cX7_scale 6 none 1 5 F_X7_scale) (h_X7_clearColumn : k_snd l D cI cS cM yX7_clearColumn cX7_clearColumn 7 none 1 5 F_X7_clearColumn) (n : Nat) : k_snd l D cI cS cM yX7_reduce cX7_reduce 11 (some .int) 2 6 (m_X7_reduce F_X7_lineWith F_X2_left F_X7_scale F_X7_clearColumn n) :=
  k_method (by decide +kernel) (by simp) rfl (s_X7_reduce_0 h_X7_lineWith h_X2_left h_X7_scale h_X7_clearColumn (k_loops (hs := [(6, 0), (97, 0)]) (fun J hJ i pc d h => match i, h with | 0, h => by cases h; exact s_X7_reduce_6 h_X7_lineWith h_X2_left h_X7_scale h_X7_clearColumn hJ | 1, h => by cases h; exact s_X7_reduce_97 h_X7_lineWith h_X2_left h_X7_scale h_X7_clearColumn hJ | _ + 2, h => by simp at h) n))
noncomputable def b_X7_copyLine_43 (F_X2_divided : KF) (J : List KC) : KC := o_ret
set_option maxRecDepth 100000 in
theorem s_X7_copyLine_43 {l : Launch} {D : va_G} {cI cS cM : ClassId} {F_X2_divided : KF} (h_X2_divided : k_snd l D cI cS cM yX2_divided cX2_divided 3 (some .int) 2 3 F_X2_divided) {J : List KC} (hJ : ∀ (i pc d : Nat), ([(3, 0)] : List (Nat × Nat))[i]? = some (pc, d) → KS l D cI cS cM yX7_copyLine.cls yX7_copyLine.name cX7_copyLine 5 none (k_rm 3 0 0) false pc d (k_jmp J i)) : KS l D cI cS cM yX7_copyLine.cls yX7_copyLine.name cX7_copyLine 5 none (k_rm 3 0 0) false 43 0 (b_X7_copyLine_43 F_X2_divided J) :=
  s_return dX7_copyLine_43 rfl
noncomputable def b_X7_copyLine_12 (F_X2_divided : KF) (J : List KC) : KC := o_aload 2 <| o_iload 4 <| o_aload 3 <| o_aload 0 <| o_get 7 0 <| o_iload 1 <| o_aald <| o_iload 4 <| o_iald <| o_aload 0 <| o_get 7 0 <| o_iload 1 <| o_aald <| o_push 0 <| o_iald <| o_cV1 3 2 F_X2_divided <| o_iast <| o_iinc 4 1 <| k_jmp J 0
set_option maxRecDepth 100000 in
theorem s_X7_copyLine_12 {l : Launch} {D : va_G} {cI cS cM : ClassId} {F_X2_divided : KF} (h_X2_divided : k_snd l D cI cS cM yX2_divided cX2_divided 3 (some .int) 2 3 F_X2_divided) {J : List KC} (hJ : ∀ (i pc d : Nat), ([(3, 0)] : List (Nat × Nat))[i]? = some (pc, d) → KS l D cI cS cM yX7_copyLine.cls yX7_copyLine.name cX7_copyLine 5 none (k_rm 3 0 0) false pc d (k_jmp J i)) : KS l D cI cS cM yX7_copyLine.cls yX7_copyLine.name cX7_copyLine 5 none (k_rm 3 0 0) false 12 0 (b_X7_copyLine_12 F_X2_divided J) :=
  s_aload_n dX7_copyLine_12 rfl <|
  s_iload dX7_copyLine_13 <|
  s_aload_n dX7_copyLine_15 rfl <|
  s_aload_n dX7_copyLine_16 rfl <|
  s_get dX7_copyLine_17 (ci := 7) (sl := 0) (Cn := RX7) (Tf := TX7) (N := 12) rfl (by decide) kiX7 kw_6_0 <|
  s_iload_n dX7_copyLine_20 rfl <|
  s_aald dX7_copyLine_21 <|
  s_iload dX7_copyLine_22 <|
  s_iald dX7_copyLine_24 <|
  s_aload_n dX7_copyLine_25 rfl <|
  s_get dX7_copyLine_26 (ci := 7) (sl := 0) (Cn := RX7) (Tf := TX7) (N := 12) rfl (by decide) kiX7 kw_6_0 <|
  s_iload_n dX7_copyLine_29 rfl <|
  s_aald dX7_copyLine_30 <|
  s_push1 dX7_copyLine_31 (by decide) (by decide) <|
  s_iald dX7_copyLine_32 <|
  s_callV1 dX7_copyLine_33 kw_20_8 kw_20_9 kw_20_10 (ci := 2) rfl ok_X2_divided (by decide) (by decide) h_X2_divided (by decide) <|
  s_iast dX7_copyLine_36 <|
  s_iinc dX7_copyLine_37 (by decide) (by decide) <|
  s_goto dX7_copyLine_40 (by decide) (hJ 0 _ _ rfl)
noncomputable def b_X7_copyLine_3 (F_X2_divided : KF) (J : List KC) : KC := o_iload 4 <| o_aload 0 <| o_get 7 7 <| o_c2 s_lt (b_X7_copyLine_12 F_X2_divided J) (b_X7_copyLine_43 F_X2_divided J)
set_option maxRecDepth 100000 in
theorem s_X7_copyLine_3 {l : Launch} {D : va_G} {cI cS cM : ClassId} {F_X2_divided : KF} (h_X2_divided : k_snd l D cI cS cM yX2_divided cX2_divided 3 (some .int) 2 3 F_X2_divided) {J : List KC} (hJ : ∀ (i pc d : Nat), ([(3, 0)] : List (Nat × Nat))[i]? = some (pc, d) → KS l D cI cS cM yX7_copyLine.cls yX7_copyLine.name cX7_copyLine 5 none (k_rm 3 0 0) false pc d (k_jmp J i)) : KS l D cI cS cM yX7_copyLine.cls yX7_copyLine.name cX7_copyLine 5 none (k_rm 3 0 0) false 3 0 (b_X7_copyLine_3 F_X2_divided J) :=
  s_iload dX7_copyLine_3 <|
  s_aload_n dX7_copyLine_5 rfl <|
  s_get dX7_copyLine_6 (ci := 7) (sl := 7) (Cn := RX7) (Tf := TX7) (N := 12) rfl (by decide) kiX7 kw_6_7 <|
  s_icmp_ge dX7_copyLine_9 (by decide) (s_X7_copyLine_43 h_X2_divided hJ) (s_X7_copyLine_12 h_X2_divided hJ)
noncomputable def b_X7_copyLine_0 (F_X2_divided : KF) (J : List KC) : KC := o_push 0 <| o_istore 4 <| b_X7_copyLine_3 F_X2_divided J
set_option maxRecDepth 100000 in
theorem s_X7_copyLine_0 {l : Launch} {D : va_G} {cI cS cM : ClassId} {F_X2_divided : KF} (h_X2_divided : k_snd l D cI cS cM yX2_divided cX2_divided 3 (some .int) 2 3 F_X2_divided) {J : List KC} (hJ : ∀ (i pc d : Nat), ([(3, 0)] : List (Nat × Nat))[i]? = some (pc, d) → KS l D cI cS cM yX7_copyLine.cls yX7_copyLine.name cX7_copyLine 5 none (k_rm 3 0 0) false pc d (k_jmp J i)) : KS l D cI cS cM yX7_copyLine.cls yX7_copyLine.name cX7_copyLine 5 none (k_rm 3 0 0) false 0 0 (b_X7_copyLine_0 F_X2_divided J) :=
  s_push1 dX7_copyLine_0 (by decide) (by decide) <|
  s_istore dX7_copyLine_1 (by decide) <|
  s_X7_copyLine_3 h_X2_divided hJ
noncomputable def j_X7_copyLine (F_X2_divided : KF) (J : List KC) : List KC := [b_X7_copyLine_3 F_X2_divided J]
noncomputable def m_X7_copyLine (F_X2_divided : KF) (n : Nat) : KF := k_fun [k_u] (b_X7_copyLine_0 F_X2_divided (k_loop (j_X7_copyLine F_X2_divided) n))
theorem r_X7_copyLine {l : Launch} {D : va_G} {cI cS cM : ClassId} {F_X2_divided : KF} (h_X2_divided : k_snd l D cI cS cM yX2_divided cX2_divided 3 (some .int) 2 3 F_X2_divided) (n : Nat) : k_snd l D cI cS cM yX7_copyLine cX7_copyLine 5 none 3 4 (m_X7_copyLine F_X2_divided n) :=
  k_method (by decide +kernel) (by simp) rfl (s_X7_copyLine_0 h_X2_divided (k_loops (hs := [(3, 0)]) (fun J hJ i pc d h => match i, h with | 0, h => by cases h; exact s_X7_copyLine_3 h_X2_divided hJ | _ + 1, h => by simp at h) n))
noncomputable def b_X7_splitSpace_182 (F_X7_keepLine F_X7_reduce F_X7_fillAction F_X7_fillWork F_X7_addMixes : KF) (J : List KC) : KC := o_ret
set_option maxRecDepth 100000 in
theorem s_X7_splitSpace_182 {l : Launch} {D : va_G} {cI cS cM : ClassId} {F_X7_keepLine F_X7_reduce F_X7_fillAction F_X7_fillWork F_X7_addMixes : KF} (h_X7_keepLine : k_snd l D cI cS cM yX7_keepLine cX7_keepLine 2 none 2 2 F_X7_keepLine) (h_X7_reduce : k_snd l D cI cS cM yX7_reduce cX7_reduce 11 (some .int) 2 6 F_X7_reduce) (h_X7_fillAction : k_snd l D cI cS cM yX7_fillAction cX7_fillAction 10 none 2 6 F_X7_fillAction) (h_X7_fillWork : k_snd l D cI cS cM yX7_fillWork cX7_fillWork 6 none 2 4 F_X7_fillWork) (h_X7_addMixes : k_snd l D cI cS cM yX7_addMixes cX7_addMixes 8 none 2 5 F_X7_addMixes) {J : List KC} (hJ : ∀ (i pc d : Nat), ([(77, 0)] : List (Nat × Nat))[i]? = some (pc, d) → KS l D cI cS cM yX7_splitSpace.cls yX7_splitSpace.name cX7_splitSpace 10 none (k_rm 3 0 0) false pc d (k_jmp J i)) : KS l D cI cS cM yX7_splitSpace.cls yX7_splitSpace.name cX7_splitSpace 10 none (k_rm 3 0 0) false 182 0 (b_X7_splitSpace_182 F_X7_keepLine F_X7_reduce F_X7_fillAction F_X7_fillWork F_X7_addMixes J) :=
  s_return dX7_splitSpace_182 rfl
noncomputable def b_X7_splitSpace_176 (F_X7_keepLine F_X7_reduce F_X7_fillAction F_X7_fillWork F_X7_addMixes : KF) (J : List KC) : KC := o_iinc 8 1 <| k_jmp J 0
set_option maxRecDepth 100000 in
theorem s_X7_splitSpace_176 {l : Launch} {D : va_G} {cI cS cM : ClassId} {F_X7_keepLine F_X7_reduce F_X7_fillAction F_X7_fillWork F_X7_addMixes : KF} (h_X7_keepLine : k_snd l D cI cS cM yX7_keepLine cX7_keepLine 2 none 2 2 F_X7_keepLine) (h_X7_reduce : k_snd l D cI cS cM yX7_reduce cX7_reduce 11 (some .int) 2 6 F_X7_reduce) (h_X7_fillAction : k_snd l D cI cS cM yX7_fillAction cX7_fillAction 10 none 2 6 F_X7_fillAction) (h_X7_fillWork : k_snd l D cI cS cM yX7_fillWork cX7_fillWork 6 none 2 4 F_X7_fillWork) (h_X7_addMixes : k_snd l D cI cS cM yX7_addMixes cX7_addMixes 8 none 2 5 F_X7_addMixes) {J : List KC} (hJ : ∀ (i pc d : Nat), ([(77, 0)] : List (Nat × Nat))[i]? = some (pc, d) → KS l D cI cS cM yX7_splitSpace.cls yX7_splitSpace.name cX7_splitSpace 10 none (k_rm 3 0 0) false pc d (k_jmp J i)) : KS l D cI cS cM yX7_splitSpace.cls yX7_splitSpace.name cX7_splitSpace 10 none (k_rm 3 0 0) false 176 0 (b_X7_splitSpace_176 F_X7_keepLine F_X7_reduce F_X7_fillAction F_X7_fillWork F_X7_addMixes J) :=
  s_iinc dX7_splitSpace_176 (by decide) (by decide) <|
  s_goto dX7_splitSpace_179 (by decide) (hJ 0 _ _ rfl)
noncomputable def b_X7_splitSpace_141 (F_X7_keepLine F_X7_reduce F_X7_fillAction F_X7_fillWork F_X7_addMixes : KF) (J : List KC) : KC := o_aload 0 <| o_get 7 3 <| o_aload 0 <| o_get 7 5 <| o_aload 0 <| o_get 7 6 <| o_iast <| o_aload 0 <| o_dup <| o_get 7 5 <| o_push 1 <| o_bin n_add <| o_puti 7 5 <| o_aload 0 <| o_iload 5 <| o_iload 6 <| o_iload 9 <| o_aload 4 <| o_cV0 5 7 F_X7_addMixes <| b_X7_splitSpace_176 F_X7_keepLine F_X7_reduce F_X7_fillAction F_X7_fillWork F_X7_addMixes J
set_option maxRecDepth 100000 in
theorem s_X7_splitSpace_141 {l : Launch} {D : va_G} {cI cS cM : ClassId} {F_X7_keepLine F_X7_reduce F_X7_fillAction F_X7_fillWork F_X7_addMixes : KF} (h_X7_keepLine : k_snd l D cI cS cM yX7_keepLine cX7_keepLine 2 none 2 2 F_X7_keepLine) (h_X7_reduce : k_snd l D cI cS cM yX7_reduce cX7_reduce 11 (some .int) 2 6 F_X7_reduce) (h_X7_fillAction : k_snd l D cI cS cM yX7_fillAction cX7_fillAction 10 none 2 6 F_X7_fillAction) (h_X7_fillWork : k_snd l D cI cS cM yX7_fillWork cX7_fillWork 6 none 2 4 F_X7_fillWork) (h_X7_addMixes : k_snd l D cI cS cM yX7_addMixes cX7_addMixes 8 none 2 5 F_X7_addMixes) {J : List KC} (hJ : ∀ (i pc d : Nat), ([(77, 0)] : List (Nat × Nat))[i]? = some (pc, d) → KS l D cI cS cM yX7_splitSpace.cls yX7_splitSpace.name cX7_splitSpace 10 none (k_rm 3 0 0) false pc d (k_jmp J i)) : KS l D cI cS cM yX7_splitSpace.cls yX7_splitSpace.name cX7_splitSpace 10 none (k_rm 3 0 0) false 141 0 (b_X7_splitSpace_141 F_X7_keepLine F_X7_reduce F_X7_fillAction F_X7_fillWork F_X7_addMixes J) :=
  s_aload_n dX7_splitSpace_141 rfl <|
  s_get dX7_splitSpace_142 (ci := 7) (sl := 3) (Cn := RX7) (Tf := TX7) (N := 12) rfl (by decide) kiX7 kw_6_3 <|
  s_aload_n dX7_splitSpace_145 rfl <|
  s_get dX7_splitSpace_146 (ci := 7) (sl := 5) (Cn := RX7) (Tf := TX7) (N := 12) rfl (by decide) kiX7 kw_6_5 <|
  s_aload_n dX7_splitSpace_149 rfl <|
  s_get dX7_splitSpace_150 (ci := 7) (sl := 6) (Cn := RX7) (Tf := TX7) (N := 12) rfl (by decide) kiX7 kw_6_6 <|
  s_iast dX7_splitSpace_153 <|
  s_aload_n dX7_splitSpace_154 rfl <|
  s_dup dX7_splitSpace_155 <|
  s_get dX7_splitSpace_156 (ci := 7) (sl := 5) (Cn := RX7) (Tf := TX7) (N := 12) rfl (by decide) kiX7 kw_6_5 <|
  s_push1 dX7_splitSpace_159 (by decide) (by decide) <|
  s_iadd dX7_splitSpace_160 <|
  s_puti dX7_splitSpace_161 (ci := 7) (sl := 5) (Cn := RX7) (Tf := TX7) (N := 12) (tyf := tyX7) rfl (by decide) kiX7 tyX7_ok nmX7 kw_6_5 rfl rfl <|
  s_aload_n dX7_splitSpace_164 rfl <|
  s_iload dX7_splitSpace_165 <|
  s_iload dX7_splitSpace_167 <|
  s_iload dX7_splitSpace_169 <|
  s_aload dX7_splitSpace_171 <|
  s_callV0 dX7_splitSpace_173 kw_19_16 kw_19_17 kw_19_18 (ci := 7) rfl ok_X7_addMixes (by decide) (by decide) h_X7_addMixes (by decide) <|
  s_X7_splitSpace_176 h_X7_keepLine h_X7_reduce h_X7_fillAction h_X7_fillWork h_X7_addMixes hJ
noncomputable def b_X7_splitSpace_130 (F_X7_keepLine F_X7_reduce F_X7_fillAction F_X7_fillWork F_X7_addMixes : KF) (J : List KC) : KC := o_aload 0 <| o_get 7 5 <| o_aload 0 <| o_get 7 7 <| o_c2 s_lt (b_X7_splitSpace_141 F_X7_keepLine F_X7_reduce F_X7_fillAction F_X7_fillWork F_X7_addMixes J) (b_X7_splitSpace_176 F_X7_keepLine F_X7_reduce F_X7_fillAction F_X7_fillWork F_X7_addMixes J)
set_option maxRecDepth 100000 in
theorem s_X7_splitSpace_130 {l : Launch} {D : va_G} {cI cS cM : ClassId} {F_X7_keepLine F_X7_reduce F_X7_fillAction F_X7_fillWork F_X7_addMixes : KF} (h_X7_keepLine : k_snd l D cI cS cM yX7_keepLine cX7_keepLine 2 none 2 2 F_X7_keepLine) (h_X7_reduce : k_snd l D cI cS cM yX7_reduce cX7_reduce 11 (some .int) 2 6 F_X7_reduce) (h_X7_fillAction : k_snd l D cI cS cM yX7_fillAction cX7_fillAction 10 none 2 6 F_X7_fillAction) (h_X7_fillWork : k_snd l D cI cS cM yX7_fillWork cX7_fillWork 6 none 2 4 F_X7_fillWork) (h_X7_addMixes : k_snd l D cI cS cM yX7_addMixes cX7_addMixes 8 none 2 5 F_X7_addMixes) {J : List KC} (hJ : ∀ (i pc d : Nat), ([(77, 0)] : List (Nat × Nat))[i]? = some (pc, d) → KS l D cI cS cM yX7_splitSpace.cls yX7_splitSpace.name cX7_splitSpace 10 none (k_rm 3 0 0) false pc d (k_jmp J i)) : KS l D cI cS cM yX7_splitSpace.cls yX7_splitSpace.name cX7_splitSpace 10 none (k_rm 3 0 0) false 130 0 (b_X7_splitSpace_130 F_X7_keepLine F_X7_reduce F_X7_fillAction F_X7_fillWork F_X7_addMixes J) :=
  s_aload_n dX7_splitSpace_130 rfl <|
  s_get dX7_splitSpace_131 (ci := 7) (sl := 5) (Cn := RX7) (Tf := TX7) (N := 12) rfl (by decide) kiX7 kw_6_5 <|
  s_aload_n dX7_splitSpace_134 rfl <|
  s_get dX7_splitSpace_135 (ci := 7) (sl := 7) (Cn := RX7) (Tf := TX7) (N := 12) rfl (by decide) kiX7 kw_6_7 <|
  s_icmp_ge dX7_splitSpace_138 (by decide) (s_X7_splitSpace_176 h_X7_keepLine h_X7_reduce h_X7_fillAction h_X7_fillWork h_X7_addMixes hJ) (s_X7_splitSpace_141 h_X7_keepLine h_X7_reduce h_X7_fillAction h_X7_fillWork h_X7_addMixes hJ)
noncomputable def b_X7_splitSpace_96 (F_X7_keepLine F_X7_reduce F_X7_fillAction F_X7_fillWork F_X7_addMixes : KF) (J : List KC) : KC := o_aload 0 <| o_iload 6 <| o_iload 8 <| o_aload 4 <| o_cV0 4 7 F_X7_fillWork <| o_aload 0 <| o_aload 0 <| o_get 7 9 <| o_push 0 <| o_iload 6 <| o_iload 6 <| o_aload 4 <| o_cV1 6 7 F_X7_reduce <| o_istore 9 <| o_iload 9 <| o_iload 6 <| o_c2 s_lt (b_X7_splitSpace_130 F_X7_keepLine F_X7_reduce F_X7_fillAction F_X7_fillWork F_X7_addMixes J) (b_X7_splitSpace_176 F_X7_keepLine F_X7_reduce F_X7_fillAction F_X7_fillWork F_X7_addMixes J)
set_option maxRecDepth 100000 in
theorem s_X7_splitSpace_96 {l : Launch} {D : va_G} {cI cS cM : ClassId} {F_X7_keepLine F_X7_reduce F_X7_fillAction F_X7_fillWork F_X7_addMixes : KF} (h_X7_keepLine : k_snd l D cI cS cM yX7_keepLine cX7_keepLine 2 none 2 2 F_X7_keepLine) (h_X7_reduce : k_snd l D cI cS cM yX7_reduce cX7_reduce 11 (some .int) 2 6 F_X7_reduce) (h_X7_fillAction : k_snd l D cI cS cM yX7_fillAction cX7_fillAction 10 none 2 6 F_X7_fillAction) (h_X7_fillWork : k_snd l D cI cS cM yX7_fillWork cX7_fillWork 6 none 2 4 F_X7_fillWork) (h_X7_addMixes : k_snd l D cI cS cM yX7_addMixes cX7_addMixes 8 none 2 5 F_X7_addMixes) {J : List KC} (hJ : ∀ (i pc d : Nat), ([(77, 0)] : List (Nat × Nat))[i]? = some (pc, d) → KS l D cI cS cM yX7_splitSpace.cls yX7_splitSpace.name cX7_splitSpace 10 none (k_rm 3 0 0) false pc d (k_jmp J i)) : KS l D cI cS cM yX7_splitSpace.cls yX7_splitSpace.name cX7_splitSpace 10 none (k_rm 3 0 0) false 96 0 (b_X7_splitSpace_96 F_X7_keepLine F_X7_reduce F_X7_fillAction F_X7_fillWork F_X7_addMixes J) :=
  s_aload_n dX7_splitSpace_96 rfl <|
  s_iload dX7_splitSpace_97 <|
  s_iload dX7_splitSpace_99 <|
  s_aload dX7_splitSpace_101 <|
  s_callV0 dX7_splitSpace_103 kw_19_12 kw_19_13 kw_19_14 (ci := 7) rfl ok_X7_fillWork (by decide) (by decide) h_X7_fillWork (by decide) <|
  s_aload_n dX7_splitSpace_106 rfl <|
  s_aload_n dX7_splitSpace_107 rfl <|
  s_get dX7_splitSpace_108 (ci := 7) (sl := 9) (Cn := RX7) (Tf := TX7) (N := 12) rfl (by decide) kiX7 kw_6_9 <|
  s_push1 dX7_splitSpace_111 (by decide) (by decide) <|
  s_iload dX7_splitSpace_112 <|
  s_iload dX7_splitSpace_114 <|
  s_aload dX7_splitSpace_116 <|
  s_callV1 dX7_splitSpace_118 kw_18_15 kw_18_16 kw_18_17 (ci := 7) rfl ok_X7_reduce (by decide) (by decide) h_X7_reduce (by decide) <|
  s_istore dX7_splitSpace_121 (by decide) <|
  s_iload dX7_splitSpace_123 <|
  s_iload dX7_splitSpace_125 <|
  s_icmp_ge dX7_splitSpace_127 (by decide) (s_X7_splitSpace_176 h_X7_keepLine h_X7_reduce h_X7_fillAction h_X7_fillWork h_X7_addMixes hJ) (s_X7_splitSpace_130 h_X7_keepLine h_X7_reduce h_X7_fillAction h_X7_fillWork h_X7_addMixes hJ)
noncomputable def b_X7_splitSpace_87 (F_X7_keepLine F_X7_reduce F_X7_fillAction F_X7_fillWork F_X7_addMixes : KF) (J : List KC) : KC := o_aload 0 <| o_get 7 6 <| o_iload 7 <| o_c2 s_lt (b_X7_splitSpace_96 F_X7_keepLine F_X7_reduce F_X7_fillAction F_X7_fillWork F_X7_addMixes J) (b_X7_splitSpace_182 F_X7_keepLine F_X7_reduce F_X7_fillAction F_X7_fillWork F_X7_addMixes J)
set_option maxRecDepth 100000 in
theorem s_X7_splitSpace_87 {l : Launch} {D : va_G} {cI cS cM : ClassId} {F_X7_keepLine F_X7_reduce F_X7_fillAction F_X7_fillWork F_X7_addMixes : KF} (h_X7_keepLine : k_snd l D cI cS cM yX7_keepLine cX7_keepLine 2 none 2 2 F_X7_keepLine) (h_X7_reduce : k_snd l D cI cS cM yX7_reduce cX7_reduce 11 (some .int) 2 6 F_X7_reduce) (h_X7_fillAction : k_snd l D cI cS cM yX7_fillAction cX7_fillAction 10 none 2 6 F_X7_fillAction) (h_X7_fillWork : k_snd l D cI cS cM yX7_fillWork cX7_fillWork 6 none 2 4 F_X7_fillWork) (h_X7_addMixes : k_snd l D cI cS cM yX7_addMixes cX7_addMixes 8 none 2 5 F_X7_addMixes) {J : List KC} (hJ : ∀ (i pc d : Nat), ([(77, 0)] : List (Nat × Nat))[i]? = some (pc, d) → KS l D cI cS cM yX7_splitSpace.cls yX7_splitSpace.name cX7_splitSpace 10 none (k_rm 3 0 0) false pc d (k_jmp J i)) : KS l D cI cS cM yX7_splitSpace.cls yX7_splitSpace.name cX7_splitSpace 10 none (k_rm 3 0 0) false 87 0 (b_X7_splitSpace_87 F_X7_keepLine F_X7_reduce F_X7_fillAction F_X7_fillWork F_X7_addMixes J) :=
  s_aload_n dX7_splitSpace_87 rfl <|
  s_get dX7_splitSpace_88 (ci := 7) (sl := 6) (Cn := RX7) (Tf := TX7) (N := 12) rfl (by decide) kiX7 kw_6_6 <|
  s_iload dX7_splitSpace_91 <|
  s_icmp_ge dX7_splitSpace_93 (by decide) (s_X7_splitSpace_182 h_X7_keepLine h_X7_reduce h_X7_fillAction h_X7_fillWork h_X7_addMixes hJ) (s_X7_splitSpace_96 h_X7_keepLine h_X7_reduce h_X7_fillAction h_X7_fillWork h_X7_addMixes hJ)
noncomputable def b_X7_splitSpace_77 (F_X7_keepLine F_X7_reduce F_X7_fillAction F_X7_fillWork F_X7_addMixes : KF) (J : List KC) : KC := o_iload 8 <| o_aload 4 <| o_get 2 0 <| o_c2 s_lt (b_X7_splitSpace_87 F_X7_keepLine F_X7_reduce F_X7_fillAction F_X7_fillWork F_X7_addMixes J) (b_X7_splitSpace_182 F_X7_keepLine F_X7_reduce F_X7_fillAction F_X7_fillWork F_X7_addMixes J)
set_option maxRecDepth 100000 in
theorem s_X7_splitSpace_77 {l : Launch} {D : va_G} {cI cS cM : ClassId} {F_X7_keepLine F_X7_reduce F_X7_fillAction F_X7_fillWork F_X7_addMixes : KF} (h_X7_keepLine : k_snd l D cI cS cM yX7_keepLine cX7_keepLine 2 none 2 2 F_X7_keepLine) (h_X7_reduce : k_snd l D cI cS cM yX7_reduce cX7_reduce 11 (some .int) 2 6 F_X7_reduce) (h_X7_fillAction : k_snd l D cI cS cM yX7_fillAction cX7_fillAction 10 none 2 6 F_X7_fillAction) (h_X7_fillWork : k_snd l D cI cS cM yX7_fillWork cX7_fillWork 6 none 2 4 F_X7_fillWork) (h_X7_addMixes : k_snd l D cI cS cM yX7_addMixes cX7_addMixes 8 none 2 5 F_X7_addMixes) {J : List KC} (hJ : ∀ (i pc d : Nat), ([(77, 0)] : List (Nat × Nat))[i]? = some (pc, d) → KS l D cI cS cM yX7_splitSpace.cls yX7_splitSpace.name cX7_splitSpace 10 none (k_rm 3 0 0) false pc d (k_jmp J i)) : KS l D cI cS cM yX7_splitSpace.cls yX7_splitSpace.name cX7_splitSpace 10 none (k_rm 3 0 0) false 77 0 (b_X7_splitSpace_77 F_X7_keepLine F_X7_reduce F_X7_fillAction F_X7_fillWork F_X7_addMixes J) :=
  s_iload dX7_splitSpace_77 <|
  s_aload dX7_splitSpace_79 <|
  s_get dX7_splitSpace_81 (ci := 2) (sl := 0) (Cn := RX2) (Tf := TX2) (N := 4) rfl (by decide) kiX2 kw_18_6 <|
  s_icmp_ge dX7_splitSpace_84 (by decide) (s_X7_splitSpace_182 h_X7_keepLine h_X7_reduce h_X7_fillAction h_X7_fillWork h_X7_addMixes hJ) (s_X7_splitSpace_87 h_X7_keepLine h_X7_reduce h_X7_fillAction h_X7_fillWork h_X7_addMixes hJ)
noncomputable def b_X7_splitSpace_34 (F_X7_keepLine F_X7_reduce F_X7_fillAction F_X7_fillWork F_X7_addMixes : KF) (J : List KC) : KC := o_aload 0 <| o_aload 0 <| o_get 7 0 <| o_iload 5 <| o_iload 6 <| o_aload 0 <| o_get 7 7 <| o_aload 4 <| o_cV1 6 7 F_X7_reduce <| o_pop <| o_aload 0 <| o_iload 5 <| o_iload 6 <| o_iload 2 <| o_aload 3 <| o_aload 4 <| o_cV0 6 7 F_X7_fillAction <| o_aload 0 <| o_get 7 6 <| o_iload 6 <| o_bin n_add <| o_istore 7 <| o_push 0 <| o_istore 8 <| b_X7_splitSpace_77 F_X7_keepLine F_X7_reduce F_X7_fillAction F_X7_fillWork F_X7_addMixes J
set_option maxRecDepth 100000 in
theorem s_X7_splitSpace_34 {l : Launch} {D : va_G} {cI cS cM : ClassId} {F_X7_keepLine F_X7_reduce F_X7_fillAction F_X7_fillWork F_X7_addMixes : KF} (h_X7_keepLine : k_snd l D cI cS cM yX7_keepLine cX7_keepLine 2 none 2 2 F_X7_keepLine) (h_X7_reduce : k_snd l D cI cS cM yX7_reduce cX7_reduce 11 (some .int) 2 6 F_X7_reduce) (h_X7_fillAction : k_snd l D cI cS cM yX7_fillAction cX7_fillAction 10 none 2 6 F_X7_fillAction) (h_X7_fillWork : k_snd l D cI cS cM yX7_fillWork cX7_fillWork 6 none 2 4 F_X7_fillWork) (h_X7_addMixes : k_snd l D cI cS cM yX7_addMixes cX7_addMixes 8 none 2 5 F_X7_addMixes) {J : List KC} (hJ : ∀ (i pc d : Nat), ([(77, 0)] : List (Nat × Nat))[i]? = some (pc, d) → KS l D cI cS cM yX7_splitSpace.cls yX7_splitSpace.name cX7_splitSpace 10 none (k_rm 3 0 0) false pc d (k_jmp J i)) : KS l D cI cS cM yX7_splitSpace.cls yX7_splitSpace.name cX7_splitSpace 10 none (k_rm 3 0 0) false 34 0 (b_X7_splitSpace_34 F_X7_keepLine F_X7_reduce F_X7_fillAction F_X7_fillWork F_X7_addMixes J) :=
  s_aload_n dX7_splitSpace_34 rfl <|
  s_aload_n dX7_splitSpace_35 rfl <|
  s_get dX7_splitSpace_36 (ci := 7) (sl := 0) (Cn := RX7) (Tf := TX7) (N := 12) rfl (by decide) kiX7 kw_6_0 <|
  s_iload dX7_splitSpace_39 <|
  s_iload dX7_splitSpace_41 <|
  s_aload_n dX7_splitSpace_43 rfl <|
  s_get dX7_splitSpace_44 (ci := 7) (sl := 7) (Cn := RX7) (Tf := TX7) (N := 12) rfl (by decide) kiX7 kw_6_7 <|
  s_aload dX7_splitSpace_47 <|
  s_callV1 dX7_splitSpace_49 kw_18_15 kw_18_16 kw_18_17 (ci := 7) rfl ok_X7_reduce (by decide) (by decide) h_X7_reduce (by decide) <|
  s_pop dX7_splitSpace_52 <|
  s_aload_n dX7_splitSpace_53 rfl <|
  s_iload dX7_splitSpace_54 <|
  s_iload dX7_splitSpace_56 <|
  s_iload_n dX7_splitSpace_58 rfl <|
  s_aload_n dX7_splitSpace_59 rfl <|
  s_aload dX7_splitSpace_60 <|
  s_callV0 dX7_splitSpace_62 kw_19_6 kw_19_7 kw_19_8 (ci := 7) rfl ok_X7_fillAction (by decide) (by decide) h_X7_fillAction (by decide) <|
  s_aload_n dX7_splitSpace_65 rfl <|
  s_get dX7_splitSpace_66 (ci := 7) (sl := 6) (Cn := RX7) (Tf := TX7) (N := 12) rfl (by decide) kiX7 kw_6_6 <|
  s_iload dX7_splitSpace_69 <|
  s_iadd dX7_splitSpace_71 <|
  s_istore dX7_splitSpace_72 (by decide) <|
  s_push1 dX7_splitSpace_74 (by decide) (by decide) <|
  s_istore dX7_splitSpace_75 (by decide) <|
  s_X7_splitSpace_77 h_X7_keepLine h_X7_reduce h_X7_fillAction h_X7_fillWork h_X7_addMixes hJ
noncomputable def b_X7_splitSpace_27 (F_X7_keepLine F_X7_reduce F_X7_fillAction F_X7_fillWork F_X7_addMixes : KF) (J : List KC) : KC := o_aload 0 <| o_iload 5 <| o_cV0 2 7 F_X7_keepLine <| o_ret
set_option maxRecDepth 100000 in
theorem s_X7_splitSpace_27 {l : Launch} {D : va_G} {cI cS cM : ClassId} {F_X7_keepLine F_X7_reduce F_X7_fillAction F_X7_fillWork F_X7_addMixes : KF} (h_X7_keepLine : k_snd l D cI cS cM yX7_keepLine cX7_keepLine 2 none 2 2 F_X7_keepLine) (h_X7_reduce : k_snd l D cI cS cM yX7_reduce cX7_reduce 11 (some .int) 2 6 F_X7_reduce) (h_X7_fillAction : k_snd l D cI cS cM yX7_fillAction cX7_fillAction 10 none 2 6 F_X7_fillAction) (h_X7_fillWork : k_snd l D cI cS cM yX7_fillWork cX7_fillWork 6 none 2 4 F_X7_fillWork) (h_X7_addMixes : k_snd l D cI cS cM yX7_addMixes cX7_addMixes 8 none 2 5 F_X7_addMixes) {J : List KC} (hJ : ∀ (i pc d : Nat), ([(77, 0)] : List (Nat × Nat))[i]? = some (pc, d) → KS l D cI cS cM yX7_splitSpace.cls yX7_splitSpace.name cX7_splitSpace 10 none (k_rm 3 0 0) false pc d (k_jmp J i)) : KS l D cI cS cM yX7_splitSpace.cls yX7_splitSpace.name cX7_splitSpace 10 none (k_rm 3 0 0) false 27 0 (b_X7_splitSpace_27 F_X7_keepLine F_X7_reduce F_X7_fillAction F_X7_fillWork F_X7_addMixes J) :=
  s_aload_n dX7_splitSpace_27 rfl <|
  s_iload dX7_splitSpace_28 <|
  s_callV0 dX7_splitSpace_30 kw_18_7 kw_18_8 kw_18_9 (ci := 7) rfl ok_X7_keepLine (by decide) (by decide) h_X7_keepLine (by decide) <|
  s_return dX7_splitSpace_33 rfl
noncomputable def b_X7_splitSpace_0 (F_X7_keepLine F_X7_reduce F_X7_fillAction F_X7_fillWork F_X7_addMixes : KF) (J : List KC) : KC := o_aload 0 <| o_get 7 2 <| o_iload 1 <| o_iald <| o_istore 5 <| o_aload 0 <| o_get 7 2 <| o_iload 1 <| o_push 1 <| o_bin n_add <| o_iald <| o_iload 5 <| o_bin n_sub <| o_istore 6 <| o_iload 6 <| o_push 1 <| o_c2 Nat.beq (b_X7_splitSpace_27 F_X7_keepLine F_X7_reduce F_X7_fillAction F_X7_fillWork F_X7_addMixes J) (b_X7_splitSpace_34 F_X7_keepLine F_X7_reduce F_X7_fillAction F_X7_fillWork F_X7_addMixes J)
set_option maxRecDepth 100000 in
theorem s_X7_splitSpace_0 {l : Launch} {D : va_G} {cI cS cM : ClassId} {F_X7_keepLine F_X7_reduce F_X7_fillAction F_X7_fillWork F_X7_addMixes : KF} (h_X7_keepLine : k_snd l D cI cS cM yX7_keepLine cX7_keepLine 2 none 2 2 F_X7_keepLine) (h_X7_reduce : k_snd l D cI cS cM yX7_reduce cX7_reduce 11 (some .int) 2 6 F_X7_reduce) (h_X7_fillAction : k_snd l D cI cS cM yX7_fillAction cX7_fillAction 10 none 2 6 F_X7_fillAction) (h_X7_fillWork : k_snd l D cI cS cM yX7_fillWork cX7_fillWork 6 none 2 4 F_X7_fillWork) (h_X7_addMixes : k_snd l D cI cS cM yX7_addMixes cX7_addMixes 8 none 2 5 F_X7_addMixes) {J : List KC} (hJ : ∀ (i pc d : Nat), ([(77, 0)] : List (Nat × Nat))[i]? = some (pc, d) → KS l D cI cS cM yX7_splitSpace.cls yX7_splitSpace.name cX7_splitSpace 10 none (k_rm 3 0 0) false pc d (k_jmp J i)) : KS l D cI cS cM yX7_splitSpace.cls yX7_splitSpace.name cX7_splitSpace 10 none (k_rm 3 0 0) false 0 0 (b_X7_splitSpace_0 F_X7_keepLine F_X7_reduce F_X7_fillAction F_X7_fillWork F_X7_addMixes J) :=
  s_aload_n dX7_splitSpace_0 rfl <|
  s_get dX7_splitSpace_1 (ci := 7) (sl := 2) (Cn := RX7) (Tf := TX7) (N := 12) rfl (by decide) kiX7 kw_6_2 <|
  s_iload_n dX7_splitSpace_4 rfl <|
  s_iald dX7_splitSpace_5 <|
  s_istore dX7_splitSpace_6 (by decide) <|
  s_aload_n dX7_splitSpace_8 rfl <|
  s_get dX7_splitSpace_9 (ci := 7) (sl := 2) (Cn := RX7) (Tf := TX7) (N := 12) rfl (by decide) kiX7 kw_6_2 <|
  s_iload_n dX7_splitSpace_12 rfl <|
  s_push1 dX7_splitSpace_13 (by decide) (by decide) <|
  s_iadd dX7_splitSpace_14 <|
  s_iald dX7_splitSpace_15 <|
  s_iload dX7_splitSpace_16 <|
  s_isub dX7_splitSpace_18 <|
  s_istore dX7_splitSpace_19 (by decide) <|
  s_iload dX7_splitSpace_21 <|
  s_push1 dX7_splitSpace_23 (by decide) (by decide) <|
  s_icmp_ne dX7_splitSpace_24 (by decide) (s_X7_splitSpace_34 h_X7_keepLine h_X7_reduce h_X7_fillAction h_X7_fillWork h_X7_addMixes hJ) (s_X7_splitSpace_27 h_X7_keepLine h_X7_reduce h_X7_fillAction h_X7_fillWork h_X7_addMixes hJ)
noncomputable def j_X7_splitSpace (F_X7_keepLine F_X7_reduce F_X7_fillAction F_X7_fillWork F_X7_addMixes : KF) (J : List KC) : List KC := [b_X7_splitSpace_77 F_X7_keepLine F_X7_reduce F_X7_fillAction F_X7_fillWork F_X7_addMixes J]
noncomputable def m_X7_splitSpace (F_X7_keepLine F_X7_reduce F_X7_fillAction F_X7_fillWork F_X7_addMixes : KF) (n : Nat) : KF := k_fun [k_u, k_u, k_u, k_u, k_u] (b_X7_splitSpace_0 F_X7_keepLine F_X7_reduce F_X7_fillAction F_X7_fillWork F_X7_addMixes (k_loop (j_X7_splitSpace F_X7_keepLine F_X7_reduce F_X7_fillAction F_X7_fillWork F_X7_addMixes) n))
theorem r_X7_splitSpace {l : Launch} {D : va_G} {cI cS cM : ClassId} {F_X7_keepLine F_X7_reduce F_X7_fillAction F_X7_fillWork F_X7_addMixes : KF} (h_X7_keepLine : k_snd l D cI cS cM yX7_keepLine cX7_keepLine 2 none 2 2 F_X7_keepLine) (h_X7_reduce : k_snd l D cI cS cM yX7_reduce cX7_reduce 11 (some .int) 2 6 F_X7_reduce) (h_X7_fillAction : k_snd l D cI cS cM yX7_fillAction cX7_fillAction 10 none 2 6 F_X7_fillAction) (h_X7_fillWork : k_snd l D cI cS cM yX7_fillWork cX7_fillWork 6 none 2 4 F_X7_fillWork) (h_X7_addMixes : k_snd l D cI cS cM yX7_addMixes cX7_addMixes 8 none 2 5 F_X7_addMixes) (n : Nat) : k_snd l D cI cS cM yX7_splitSpace cX7_splitSpace 10 none 3 5 (m_X7_splitSpace F_X7_keepLine F_X7_reduce F_X7_fillAction F_X7_fillWork F_X7_addMixes n) :=
  k_method (by decide +kernel) (by simp) rfl (s_X7_splitSpace_0 h_X7_keepLine h_X7_reduce h_X7_fillAction h_X7_fillWork h_X7_addMixes (k_loops (hs := [(77, 0)]) (fun J hJ i pc d h => match i, h with | 0, h => by cases h; exact s_X7_splitSpace_77 h_X7_keepLine h_X7_reduce h_X7_fillAction h_X7_fillWork h_X7_addMixes hJ | _ + 1, h => by simp at h) n))
noncomputable def b_X7_takeApart_76 (F_X7_begin F_X7_splitSpace F_X7_takeNext : KF) (J : List KC) : KC := o_ret
set_option maxRecDepth 100000 in
theorem s_X7_takeApart_76 {l : Launch} {D : va_G} {cI cS cM : ClassId} {F_X7_begin F_X7_splitSpace F_X7_takeNext : KF} (h_X7_begin : k_snd l D cI cS cM yX7_begin cX7_begin 3 none 2 2 F_X7_begin) (h_X7_splitSpace : k_snd l D cI cS cM yX7_splitSpace cX7_splitSpace 10 none 3 5 F_X7_splitSpace) (h_X7_takeNext : k_snd l D cI cS cM yX7_takeNext cX7_takeNext 3 none 1 1 F_X7_takeNext) {J : List KC} (hJ : ∀ (i pc d : Nat), ([(10, 0), (42, 0)] : List (Nat × Nat))[i]? = some (pc, d) → KS l D cI cS cM yX7_takeApart.cls yX7_takeApart.name cX7_takeApart 5 none (k_rm 4 0 0) false pc d (k_jmp J i)) : KS l D cI cS cM yX7_takeApart.cls yX7_takeApart.name cX7_takeApart 5 none (k_rm 4 0 0) false 76 0 (b_X7_takeApart_76 F_X7_begin F_X7_splitSpace F_X7_takeNext J) :=
  s_return dX7_takeApart_76 rfl
noncomputable def b_X7_takeApart_66 (F_X7_begin F_X7_splitSpace F_X7_takeNext : KF) (J : List KC) : KC := o_aload 0 <| o_cV0 1 7 F_X7_takeNext <| o_iinc 3 1 <| k_jmp J 0
set_option maxRecDepth 100000 in
theorem s_X7_takeApart_66 {l : Launch} {D : va_G} {cI cS cM : ClassId} {F_X7_begin F_X7_splitSpace F_X7_takeNext : KF} (h_X7_begin : k_snd l D cI cS cM yX7_begin cX7_begin 3 none 2 2 F_X7_begin) (h_X7_splitSpace : k_snd l D cI cS cM yX7_splitSpace cX7_splitSpace 10 none 3 5 F_X7_splitSpace) (h_X7_takeNext : k_snd l D cI cS cM yX7_takeNext cX7_takeNext 3 none 1 1 F_X7_takeNext) {J : List KC} (hJ : ∀ (i pc d : Nat), ([(10, 0), (42, 0)] : List (Nat × Nat))[i]? = some (pc, d) → KS l D cI cS cM yX7_takeApart.cls yX7_takeApart.name cX7_takeApart 5 none (k_rm 4 0 0) false pc d (k_jmp J i)) : KS l D cI cS cM yX7_takeApart.cls yX7_takeApart.name cX7_takeApart 5 none (k_rm 4 0 0) false 66 0 (b_X7_takeApart_66 F_X7_begin F_X7_splitSpace F_X7_takeNext J) :=
  s_aload_n dX7_takeApart_66 rfl <|
  s_callV0 dX7_takeApart_67 kw_20_0 kw_20_1 kw_20_2 (ci := 7) rfl ok_X7_takeNext (by decide) (by decide) h_X7_takeNext (by decide) <|
  s_iinc dX7_takeApart_70 (by decide) (by decide) <|
  s_goto dX7_takeApart_73 (by decide) (hJ 0 _ _ rfl)
noncomputable def b_X7_takeApart_51 (F_X7_begin F_X7_splitSpace F_X7_takeNext : KF) (J : List KC) : KC := o_aload 0 <| o_iload 4 <| o_iload 3 <| o_aload 1 <| o_aload 2 <| o_cV0 5 7 F_X7_splitSpace <| o_iinc 4 1 <| k_jmp J 1
set_option maxRecDepth 100000 in
theorem s_X7_takeApart_51 {l : Launch} {D : va_G} {cI cS cM : ClassId} {F_X7_begin F_X7_splitSpace F_X7_takeNext : KF} (h_X7_begin : k_snd l D cI cS cM yX7_begin cX7_begin 3 none 2 2 F_X7_begin) (h_X7_splitSpace : k_snd l D cI cS cM yX7_splitSpace cX7_splitSpace 10 none 3 5 F_X7_splitSpace) (h_X7_takeNext : k_snd l D cI cS cM yX7_takeNext cX7_takeNext 3 none 1 1 F_X7_takeNext) {J : List KC} (hJ : ∀ (i pc d : Nat), ([(10, 0), (42, 0)] : List (Nat × Nat))[i]? = some (pc, d) → KS l D cI cS cM yX7_takeApart.cls yX7_takeApart.name cX7_takeApart 5 none (k_rm 4 0 0) false pc d (k_jmp J i)) : KS l D cI cS cM yX7_takeApart.cls yX7_takeApart.name cX7_takeApart 5 none (k_rm 4 0 0) false 51 0 (b_X7_takeApart_51 F_X7_begin F_X7_splitSpace F_X7_takeNext J) :=
  s_aload_n dX7_takeApart_51 rfl <|
  s_iload dX7_takeApart_52 <|
  s_iload_n dX7_takeApart_54 rfl <|
  s_aload_n dX7_takeApart_55 rfl <|
  s_aload_n dX7_takeApart_56 rfl <|
  s_callV0 dX7_takeApart_57 kw_18_2 kw_18_3 kw_18_4 (ci := 7) rfl ok_X7_splitSpace (by decide) (by decide) h_X7_splitSpace (by decide) <|
  s_iinc dX7_takeApart_60 (by decide) (by decide) <|
  s_goto dX7_takeApart_63 (by decide) (hJ 1 _ _ rfl)
noncomputable def b_X7_takeApart_42 (F_X7_begin F_X7_splitSpace F_X7_takeNext : KF) (J : List KC) : KC := o_iload 4 <| o_aload 0 <| o_get 7 4 <| o_c2 s_lt (b_X7_takeApart_51 F_X7_begin F_X7_splitSpace F_X7_takeNext J) (b_X7_takeApart_66 F_X7_begin F_X7_splitSpace F_X7_takeNext J)
set_option maxRecDepth 100000 in
theorem s_X7_takeApart_42 {l : Launch} {D : va_G} {cI cS cM : ClassId} {F_X7_begin F_X7_splitSpace F_X7_takeNext : KF} (h_X7_begin : k_snd l D cI cS cM yX7_begin cX7_begin 3 none 2 2 F_X7_begin) (h_X7_splitSpace : k_snd l D cI cS cM yX7_splitSpace cX7_splitSpace 10 none 3 5 F_X7_splitSpace) (h_X7_takeNext : k_snd l D cI cS cM yX7_takeNext cX7_takeNext 3 none 1 1 F_X7_takeNext) {J : List KC} (hJ : ∀ (i pc d : Nat), ([(10, 0), (42, 0)] : List (Nat × Nat))[i]? = some (pc, d) → KS l D cI cS cM yX7_takeApart.cls yX7_takeApart.name cX7_takeApart 5 none (k_rm 4 0 0) false pc d (k_jmp J i)) : KS l D cI cS cM yX7_takeApart.cls yX7_takeApart.name cX7_takeApart 5 none (k_rm 4 0 0) false 42 0 (b_X7_takeApart_42 F_X7_begin F_X7_splitSpace F_X7_takeNext J) :=
  s_iload dX7_takeApart_42 <|
  s_aload_n dX7_takeApart_44 rfl <|
  s_get dX7_takeApart_45 (ci := 7) (sl := 4) (Cn := RX7) (Tf := TX7) (N := 12) rfl (by decide) kiX7 kw_6_4 <|
  s_icmp_ge dX7_takeApart_48 (by decide) (s_X7_takeApart_66 h_X7_begin h_X7_splitSpace h_X7_takeNext hJ) (s_X7_takeApart_51 h_X7_begin h_X7_splitSpace h_X7_takeNext hJ)
noncomputable def b_X7_takeApart_29 (F_X7_begin F_X7_splitSpace F_X7_takeNext : KF) (J : List KC) : KC := o_aload 0 <| o_push 0 <| o_puti 7 5 <| o_aload 0 <| o_push 0 <| o_puti 7 6 <| o_push 0 <| o_istore 4 <| b_X7_takeApart_42 F_X7_begin F_X7_splitSpace F_X7_takeNext J
set_option maxRecDepth 100000 in
theorem s_X7_takeApart_29 {l : Launch} {D : va_G} {cI cS cM : ClassId} {F_X7_begin F_X7_splitSpace F_X7_takeNext : KF} (h_X7_begin : k_snd l D cI cS cM yX7_begin cX7_begin 3 none 2 2 F_X7_begin) (h_X7_splitSpace : k_snd l D cI cS cM yX7_splitSpace cX7_splitSpace 10 none 3 5 F_X7_splitSpace) (h_X7_takeNext : k_snd l D cI cS cM yX7_takeNext cX7_takeNext 3 none 1 1 F_X7_takeNext) {J : List KC} (hJ : ∀ (i pc d : Nat), ([(10, 0), (42, 0)] : List (Nat × Nat))[i]? = some (pc, d) → KS l D cI cS cM yX7_takeApart.cls yX7_takeApart.name cX7_takeApart 5 none (k_rm 4 0 0) false pc d (k_jmp J i)) : KS l D cI cS cM yX7_takeApart.cls yX7_takeApart.name cX7_takeApart 5 none (k_rm 4 0 0) false 29 0 (b_X7_takeApart_29 F_X7_begin F_X7_splitSpace F_X7_takeNext J) :=
  s_aload_n dX7_takeApart_29 rfl <|
  s_push1 dX7_takeApart_30 (by decide) (by decide) <|
  s_puti dX7_takeApart_31 (ci := 7) (sl := 5) (Cn := RX7) (Tf := TX7) (N := 12) (tyf := tyX7) rfl (by decide) kiX7 tyX7_ok nmX7 kw_6_5 rfl rfl <|
  s_aload_n dX7_takeApart_34 rfl <|
  s_push1 dX7_takeApart_35 (by decide) (by decide) <|
  s_puti dX7_takeApart_36 (ci := 7) (sl := 6) (Cn := RX7) (Tf := TX7) (N := 12) (tyf := tyX7) rfl (by decide) kiX7 tyX7_ok nmX7 kw_6_6 rfl rfl <|
  s_push1 dX7_takeApart_39 (by decide) (by decide) <|
  s_istore dX7_takeApart_40 (by decide) <|
  s_X7_takeApart_42 h_X7_begin h_X7_splitSpace h_X7_takeNext hJ
noncomputable def b_X7_takeApart_18 (F_X7_begin F_X7_splitSpace F_X7_takeNext : KF) (J : List KC) : KC := o_aload 0 <| o_get 7 4 <| o_aload 0 <| o_get 7 7 <| o_c2 s_lt (b_X7_takeApart_29 F_X7_begin F_X7_splitSpace F_X7_takeNext J) (b_X7_takeApart_76 F_X7_begin F_X7_splitSpace F_X7_takeNext J)
set_option maxRecDepth 100000 in
theorem s_X7_takeApart_18 {l : Launch} {D : va_G} {cI cS cM : ClassId} {F_X7_begin F_X7_splitSpace F_X7_takeNext : KF} (h_X7_begin : k_snd l D cI cS cM yX7_begin cX7_begin 3 none 2 2 F_X7_begin) (h_X7_splitSpace : k_snd l D cI cS cM yX7_splitSpace cX7_splitSpace 10 none 3 5 F_X7_splitSpace) (h_X7_takeNext : k_snd l D cI cS cM yX7_takeNext cX7_takeNext 3 none 1 1 F_X7_takeNext) {J : List KC} (hJ : ∀ (i pc d : Nat), ([(10, 0), (42, 0)] : List (Nat × Nat))[i]? = some (pc, d) → KS l D cI cS cM yX7_takeApart.cls yX7_takeApart.name cX7_takeApart 5 none (k_rm 4 0 0) false pc d (k_jmp J i)) : KS l D cI cS cM yX7_takeApart.cls yX7_takeApart.name cX7_takeApart 5 none (k_rm 4 0 0) false 18 0 (b_X7_takeApart_18 F_X7_begin F_X7_splitSpace F_X7_takeNext J) :=
  s_aload_n dX7_takeApart_18 rfl <|
  s_get dX7_takeApart_19 (ci := 7) (sl := 4) (Cn := RX7) (Tf := TX7) (N := 12) rfl (by decide) kiX7 kw_6_4 <|
  s_aload_n dX7_takeApart_22 rfl <|
  s_get dX7_takeApart_23 (ci := 7) (sl := 7) (Cn := RX7) (Tf := TX7) (N := 12) rfl (by decide) kiX7 kw_6_7 <|
  s_icmp_ge dX7_takeApart_26 (by decide) (s_X7_takeApart_76 h_X7_begin h_X7_splitSpace h_X7_takeNext hJ) (s_X7_takeApart_29 h_X7_begin h_X7_splitSpace h_X7_takeNext hJ)
noncomputable def b_X7_takeApart_10 (F_X7_begin F_X7_splitSpace F_X7_takeNext : KF) (J : List KC) : KC := o_iload 3 <| o_aload 0 <| o_get 7 7 <| o_c2 s_lt (b_X7_takeApart_18 F_X7_begin F_X7_splitSpace F_X7_takeNext J) (b_X7_takeApart_76 F_X7_begin F_X7_splitSpace F_X7_takeNext J)
set_option maxRecDepth 100000 in
theorem s_X7_takeApart_10 {l : Launch} {D : va_G} {cI cS cM : ClassId} {F_X7_begin F_X7_splitSpace F_X7_takeNext : KF} (h_X7_begin : k_snd l D cI cS cM yX7_begin cX7_begin 3 none 2 2 F_X7_begin) (h_X7_splitSpace : k_snd l D cI cS cM yX7_splitSpace cX7_splitSpace 10 none 3 5 F_X7_splitSpace) (h_X7_takeNext : k_snd l D cI cS cM yX7_takeNext cX7_takeNext 3 none 1 1 F_X7_takeNext) {J : List KC} (hJ : ∀ (i pc d : Nat), ([(10, 0), (42, 0)] : List (Nat × Nat))[i]? = some (pc, d) → KS l D cI cS cM yX7_takeApart.cls yX7_takeApart.name cX7_takeApart 5 none (k_rm 4 0 0) false pc d (k_jmp J i)) : KS l D cI cS cM yX7_takeApart.cls yX7_takeApart.name cX7_takeApart 5 none (k_rm 4 0 0) false 10 0 (b_X7_takeApart_10 F_X7_begin F_X7_splitSpace F_X7_takeNext J) :=
  s_iload_n dX7_takeApart_10 rfl <|
  s_aload_n dX7_takeApart_11 rfl <|
  s_get dX7_takeApart_12 (ci := 7) (sl := 7) (Cn := RX7) (Tf := TX7) (N := 12) rfl (by decide) kiX7 kw_6_7 <|
  s_icmp_ge dX7_takeApart_15 (by decide) (s_X7_takeApart_76 h_X7_begin h_X7_splitSpace h_X7_takeNext hJ) (s_X7_takeApart_18 h_X7_begin h_X7_splitSpace h_X7_takeNext hJ)
noncomputable def b_X7_takeApart_0 (F_X7_begin F_X7_splitSpace F_X7_takeNext : KF) (J : List KC) : KC := o_aload 0 <| o_aload 1 <| o_get 6 1 <| o_cV0 2 7 F_X7_begin <| o_push 1 <| o_istore 3 <| b_X7_takeApart_10 F_X7_begin F_X7_splitSpace F_X7_takeNext J
set_option maxRecDepth 100000 in
theorem s_X7_takeApart_0 {l : Launch} {D : va_G} {cI cS cM : ClassId} {F_X7_begin F_X7_splitSpace F_X7_takeNext : KF} (h_X7_begin : k_snd l D cI cS cM yX7_begin cX7_begin 3 none 2 2 F_X7_begin) (h_X7_splitSpace : k_snd l D cI cS cM yX7_splitSpace cX7_splitSpace 10 none 3 5 F_X7_splitSpace) (h_X7_takeNext : k_snd l D cI cS cM yX7_takeNext cX7_takeNext 3 none 1 1 F_X7_takeNext) {J : List KC} (hJ : ∀ (i pc d : Nat), ([(10, 0), (42, 0)] : List (Nat × Nat))[i]? = some (pc, d) → KS l D cI cS cM yX7_takeApart.cls yX7_takeApart.name cX7_takeApart 5 none (k_rm 4 0 0) false pc d (k_jmp J i)) : KS l D cI cS cM yX7_takeApart.cls yX7_takeApart.name cX7_takeApart 5 none (k_rm 4 0 0) false 0 0 (b_X7_takeApart_0 F_X7_begin F_X7_splitSpace F_X7_takeNext J) :=
  s_aload_n dX7_takeApart_0 rfl <|
  s_aload_n dX7_takeApart_1 rfl <|
  s_get dX7_takeApart_2 (ci := 6) (sl := 1) (Cn := RX6) (Tf := TX6) (N := 11) rfl (by decide) kiX6 kw_17_20 <|
  s_callV0 dX7_takeApart_5 kw_17_21 kw_17_22 kw_17_23 (ci := 7) rfl ok_X7_begin (by decide) (by decide) h_X7_begin (by decide) <|
  s_push1 dX7_takeApart_8 (by decide) (by decide) <|
  s_istore_n dX7_takeApart_9 rfl (by decide) <|
  s_X7_takeApart_10 h_X7_begin h_X7_splitSpace h_X7_takeNext hJ
noncomputable def j_X7_takeApart (F_X7_begin F_X7_splitSpace F_X7_takeNext : KF) (J : List KC) : List KC := [b_X7_takeApart_10 F_X7_begin F_X7_splitSpace F_X7_takeNext J, b_X7_takeApart_42 F_X7_begin F_X7_splitSpace F_X7_takeNext J]
noncomputable def m_X7_takeApart (F_X7_begin F_X7_splitSpace F_X7_takeNext : KF) (n : Nat) : KF := k_fun [k_u, k_u] (b_X7_takeApart_0 F_X7_begin F_X7_splitSpace F_X7_takeNext (k_loop (j_X7_takeApart F_X7_begin F_X7_splitSpace F_X7_takeNext) n))
theorem r_X7_takeApart {l : Launch} {D : va_G} {cI cS cM : ClassId} {F_X7_begin F_X7_splitSpace F_X7_takeNext : KF} (h_X7_begin : k_snd l D cI cS cM yX7_begin cX7_begin 3 none 2 2 F_X7_begin) (h_X7_splitSpace : k_snd l D cI cS cM yX7_splitSpace cX7_splitSpace 10 none 3 5 F_X7_splitSpace) (h_X7_takeNext : k_snd l D cI cS cM yX7_takeNext cX7_takeNext 3 none 1 1 F_X7_takeNext) (n : Nat) : k_snd l D cI cS cM yX7_takeApart cX7_takeApart 5 none 4 3 (m_X7_takeApart F_X7_begin F_X7_splitSpace F_X7_takeNext n) :=
  k_method (by decide +kernel) (by simp) rfl (s_X7_takeApart_0 h_X7_begin h_X7_splitSpace h_X7_takeNext (k_loops (hs := [(10, 0), (42, 0)]) (fun J hJ i pc d h => match i, h with | 0, h => by cases h; exact s_X7_takeApart_10 h_X7_begin h_X7_splitSpace h_X7_takeNext hJ | 1, h => by cases h; exact s_X7_takeApart_42 h_X7_begin h_X7_splitSpace h_X7_takeNext hJ | _ + 2, h => by simp at h) n))
