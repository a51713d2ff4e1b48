noncomputable def b_X8_isBelow_14 : KC := o_zret
set_option maxRecDepth 100000 in
theorem s_X8_isBelow_14 {l : Launch} {D : va_G} {cI cS cM : ClassId} : KS l D cI cS cM yX8_isBelow.cls yX8_isBelow.name cX8_isBelow 2 (some .boolean) (k_rm 1 0 0) false 14 1 (b_X8_isBelow_14) :=
  s_zreturn dX8_isBelow_14 rfl
noncomputable def b_X8_isBelow_13 : KC := o_push 0 <| b_X8_isBelow_14
set_option maxRecDepth 100000 in
theorem s_X8_isBelow_13 {l : Launch} {D : va_G} {cI cS cM : ClassId} : KS l D cI cS cM yX8_isBelow.cls yX8_isBelow.name cX8_isBelow 2 (some .boolean) (k_rm 1 0 0) false 13 0 (b_X8_isBelow_13) :=
  s_push1 dX8_isBelow_13 (by decide) (by decide) <|
  s_X8_isBelow_14
noncomputable def b_X8_isBelow_9 : KC := o_push 1 <| b_X8_isBelow_14
set_option maxRecDepth 100000 in
theorem s_X8_isBelow_9 {l : Launch} {D : va_G} {cI cS cM : ClassId} : KS l D cI cS cM yX8_isBelow.cls yX8_isBelow.name cX8_isBelow 2 (some .boolean) (k_rm 1 0 0) false 9 0 (b_X8_isBelow_9) :=
  s_push1 dX8_isBelow_9 (by decide) (by decide) <|
  s_goto dX8_isBelow_10 (by decide) (s_X8_isBelow_14)
noncomputable def b_X8_isBelow_4 : KC := o_iload 0 <| o_iload 1 <| o_c2 s_lt (b_X8_isBelow_9) (b_X8_isBelow_13)
set_option maxRecDepth 100000 in
theorem s_X8_isBelow_4 {l : Launch} {D : va_G} {cI cS cM : ClassId} : KS l D cI cS cM yX8_isBelow.cls yX8_isBelow.name cX8_isBelow 2 (some .boolean) (k_rm 1 0 0) false 4 0 (b_X8_isBelow_4) :=
  s_iload_n dX8_isBelow_4 rfl <|
  s_iload_n dX8_isBelow_5 rfl <|
  s_icmp_ge dX8_isBelow_6 (by decide) (s_X8_isBelow_13) (s_X8_isBelow_9)
noncomputable def b_X8_isBelow_0 : KC := o_iload 0 <| o_c1 g_lt (b_X8_isBelow_13) (b_X8_isBelow_4)
set_option maxRecDepth 100000 in
theorem s_X8_isBelow_0 {l : Launch} {D : va_G} {cI cS cM : ClassId} : KS l D cI cS cM yX8_isBelow.cls yX8_isBelow.name cX8_isBelow 2 (some .boolean) (k_rm 1 0 0) false 0 0 (b_X8_isBelow_0) :=
  s_iload_n dX8_isBelow_0 rfl <|
  s_if_lt dX8_isBelow_1 (by decide) (s_X8_isBelow_13) (s_X8_isBelow_4)
noncomputable def m_X8_isBelow : KF := k_fun [] (b_X8_isBelow_0)
theorem r_X8_isBelow {l : Launch} {D : va_G} {cI cS cM : ClassId} : k_snd l D cI cS cM yX8_isBelow cX8_isBelow 2 (some .boolean) 1 2 (m_X8_isBelow) :=
  k_method (by decide +kernel) (by simp) rfl (s_X8_isBelow_0)
noncomputable def b_X5_copyFrom_41 (J : List KC) : KC := o_ret
set_option maxRecDepth 100000 in
theorem s_X5_copyFrom_41 {l : Launch} {D : va_G} {cI cS cM : ClassId} {J : List KC} (hJ : ∀ (i pc d : Nat), ([(18, 0)] : List (Nat × Nat))[i]? = some (pc, d) → KS l D cI cS cM yX5_copyFrom.cls yX5_copyFrom.name cX5_copyFrom 3 none (k_rm 1 0 0) false pc d (k_jmp J i)) : KS l D cI cS cM yX5_copyFrom.cls yX5_copyFrom.name cX5_copyFrom 3 none (k_rm 1 0 0) false 41 0 (b_X5_copyFrom_41 J) :=
  s_return dX5_copyFrom_41 rfl
noncomputable def b_X5_copyFrom_23 (J : List KC) : KC := o_aload 0 <| o_get 5 2 <| o_iload 2 <| o_aload 1 <| o_get 5 2 <| o_iload 2 <| o_iald <| o_iast <| o_iinc 2 1 <| k_jmp J 0
set_option maxRecDepth 100000 in
theorem s_X5_copyFrom_23 {l : Launch} {D : va_G} {cI cS cM : ClassId} {J : List KC} (hJ : ∀ (i pc d : Nat), ([(18, 0)] : List (Nat × Nat))[i]? = some (pc, d) → KS l D cI cS cM yX5_copyFrom.cls yX5_copyFrom.name cX5_copyFrom 3 none (k_rm 1 0 0) false pc d (k_jmp J i)) : KS l D cI cS cM yX5_copyFrom.cls yX5_copyFrom.name cX5_copyFrom 3 none (k_rm 1 0 0) false 23 0 (b_X5_copyFrom_23 J) :=
  s_aload_n dX5_copyFrom_23 rfl <|
  s_get dX5_copyFrom_24 (ci := 5) (sl := 2) (Cn := RX5) (Tf := TX5) (N := 3) rfl (by decide) kiX5 kw_2_14 <|
  s_iload_n dX5_copyFrom_27 rfl <|
  s_aload_n dX5_copyFrom_28 rfl <|
  s_get dX5_copyFrom_29 (ci := 5) (sl := 2) (Cn := RX5) (Tf := TX5) (N := 3) rfl (by decide) kiX5 kw_2_14 <|
  s_iload_n dX5_copyFrom_32 rfl <|
  s_iald dX5_copyFrom_33 <|
  s_iast dX5_copyFrom_34 <|
  s_iinc dX5_copyFrom_35 (by decide) (by decide) <|
  s_goto dX5_copyFrom_38 (by decide) (hJ 0 _ _ rfl)
noncomputable def b_X5_copyFrom_18 (J : List KC) : KC := o_iload 2 <| o_push 3 <| o_c2 s_lt (b_X5_copyFrom_23 J) (b_X5_copyFrom_41 J)
set_option maxRecDepth 100000 in
theorem s_X5_copyFrom_18 {l : Launch} {D : va_G} {cI cS cM : ClassId} {J : List KC} (hJ : ∀ (i pc d : Nat), ([(18, 0)] : List (Nat × Nat))[i]? = some (pc, d) → KS l D cI cS cM yX5_copyFrom.cls yX5_copyFrom.name cX5_copyFrom 3 none (k_rm 1 0 0) false pc d (k_jmp J i)) : KS l D cI cS cM yX5_copyFrom.cls yX5_copyFrom.name cX5_copyFrom 3 none (k_rm 1 0 0) false 18 0 (b_X5_copyFrom_18 J) :=
  s_iload_n dX5_copyFrom_18 rfl <|
  s_push1 dX5_copyFrom_19 (by decide) (by decide) <|
  s_icmp_ge dX5_copyFrom_20 (by decide) (s_X5_copyFrom_41 hJ) (s_X5_copyFrom_23 hJ)
noncomputable def b_X5_copyFrom_0 (J : List KC) : KC := o_aload 0 <| o_aload 1 <| o_get 5 0 <| o_puti 5 0 <| o_aload 0 <| o_aload 1 <| o_get 5 1 <| o_puti 5 1 <| o_push 0 <| o_istore 2 <| b_X5_copyFrom_18 J
set_option maxRecDepth 100000 in
theorem s_X5_copyFrom_0 {l : Launch} {D : va_G} {cI cS cM : ClassId} {J : List KC} (hJ : ∀ (i pc d : Nat), ([(18, 0)] : List (Nat × Nat))[i]? = some (pc, d) → KS l D cI cS cM yX5_copyFrom.cls yX5_copyFrom.name cX5_copyFrom 3 none (k_rm 1 0 0) false pc d (k_jmp J i)) : KS l D cI cS cM yX5_copyFrom.cls yX5_copyFrom.name cX5_copyFrom 3 none (k_rm 1 0 0) false 0 0 (b_X5_copyFrom_0 J) :=
  s_aload_n dX5_copyFrom_0 rfl <|
  s_aload_n dX5_copyFrom_1 rfl <|
  s_get dX5_copyFrom_2 (ci := 5) (sl := 0) (Cn := RX5) (Tf := TX5) (N := 3) rfl (by decide) kiX5 kw_2_12 <|
  s_puti dX5_copyFrom_5 (ci := 5) (sl := 0) (Cn := RX5) (Tf := TX5) (N := 3) (tyf := tyX5) rfl (by decide) kiX5 tyX5_ok nmX5 kw_2_12 rfl rfl <|
  s_aload_n dX5_copyFrom_8 rfl <|
  s_aload_n dX5_copyFrom_9 rfl <|
  s_get dX5_copyFrom_10 (ci := 5) (sl := 1) (Cn := RX5) (Tf := TX5) (N := 3) rfl (by decide) kiX5 kw_2_13 <|
  s_puti dX5_copyFrom_13 (ci := 5) (sl := 1) (Cn := RX5) (Tf := TX5) (N := 3) (tyf := tyX5) rfl (by decide) kiX5 tyX5_ok nmX5 kw_2_13 rfl rfl <|
  s_push1 dX5_copyFrom_16 (by decide) (by decide) <|
  s_istore_n dX5_copyFrom_17 rfl (by decide) <|
  s_X5_copyFrom_18 hJ
noncomputable def j_X5_copyFrom (J : List KC) : List KC := [b_X5_copyFrom_18 J]
noncomputable def m_X5_copyFrom (n : Nat) : KF := k_fun [k_u] (b_X5_copyFrom_0 (k_loop (j_X5_copyFrom) n))
theorem r_X5_copyFrom {l : Launch} {D : va_G} {cI cS cM : ClassId} (n : Nat) : k_snd l D cI cS cM yX5_copyFrom cX5_copyFrom 3 none 1 2 (m_X5_copyFrom n) :=
  k_method (by decide +kernel) (by simp) rfl (s_X5_copyFrom_0 (k_loops (hs := [(18, 0)]) (fun J hJ i pc d h => match i, h with | 0, h => by cases h; exact s_X5_copyFrom_18 hJ | _ + 1, h => by simp at h) n))
noncomputable def b_X5_isMove_75 (J : List KC) : KC := o_zret
set_option maxRecDepth 100000 in
theorem s_X5_isMove_75 {l : Launch} {D : va_G} {cI cS cM : ClassId} {J : List KC} (hJ : ∀ (i pc d : Nat), ([(13, 0)] : List (Nat × Nat))[i]? = some (pc, d) → KS l D cI cS cM yX5_isMove.cls yX5_isMove.name cX5_isMove 6 (some .boolean) (k_rm 1 0 0) false pc d (k_jmp J i)) : KS l D cI cS cM yX5_isMove.cls yX5_isMove.name cX5_isMove 6 (some .boolean) (k_rm 1 0 0) false 75 1 (b_X5_isMove_75 J) :=
  s_zreturn dX5_isMove_75 rfl
noncomputable def b_X5_isMove_74 (J : List KC) : KC := o_push 0 <| b_X5_isMove_75 J
set_option maxRecDepth 100000 in
theorem s_X5_isMove_74 {l : Launch} {D : va_G} {cI cS cM : ClassId} {J : List KC} (hJ : ∀ (i pc d : Nat), ([(13, 0)] : List (Nat × Nat))[i]? = some (pc, d) → KS l D cI cS cM yX5_isMove.cls yX5_isMove.name cX5_isMove 6 (some .boolean) (k_rm 1 0 0) false pc d (k_jmp J i)) : KS l D cI cS cM yX5_isMove.cls yX5_isMove.name cX5_isMove 6 (some .boolean) (k_rm 1 0 0) false 74 0 (b_X5_isMove_74 J) :=
  s_push1 dX5_isMove_74 (by decide) (by decide) <|
  s_X5_isMove_75 hJ
noncomputable def b_X5_isMove_70 (J : List KC) : KC := o_push 1 <| b_X5_isMove_75 J
set_option maxRecDepth 100000 in
theorem s_X5_isMove_70 {l : Launch} {D : va_G} {cI cS cM : ClassId} {J : List KC} (hJ : ∀ (i pc d : Nat), ([(13, 0)] : List (Nat × Nat))[i]? = some (pc, d) → KS l D cI cS cM yX5_isMove.cls yX5_isMove.name cX5_isMove 6 (some .boolean) (k_rm 1 0 0) false pc d (k_jmp J i)) : KS l D cI cS cM yX5_isMove.cls yX5_isMove.name cX5_isMove 6 (some .boolean) (k_rm 1 0 0) false 70 0 (b_X5_isMove_70 J) :=
  s_push1 dX5_isMove_70 (by decide) (by decide) <|
  s_goto dX5_isMove_71 (by decide) (s_X5_isMove_75 hJ)
noncomputable def b_X5_isMove_66 (J : List KC) : KC := o_iload 2 <| o_c1 g_eq (b_X5_isMove_70 J) (b_X5_isMove_74 J)
set_option maxRecDepth 100000 in
theorem s_X5_isMove_66 {l : Launch} {D : va_G} {cI cS cM : ClassId} {J : List KC} (hJ : ∀ (i pc d : Nat), ([(13, 0)] : List (Nat × Nat))[i]? = some (pc, d) → KS l D cI cS cM yX5_isMove.cls yX5_isMove.name cX5_isMove 6 (some .boolean) (k_rm 1 0 0) false pc d (k_jmp J i)) : KS l D cI cS cM yX5_isMove.cls yX5_isMove.name cX5_isMove 6 (some .boolean) (k_rm 1 0 0) false 66 0 (b_X5_isMove_66 J) :=
  s_iload_n dX5_isMove_66 rfl <|
  s_if_ne dX5_isMove_67 (by decide) (s_X5_isMove_74 hJ) (s_X5_isMove_70 hJ)
noncomputable def b_X5_isMove_48 (J : List KC) : KC := o_iload 3 <| o_push 1 <| o_iload 5 <| o_shl <| o_bin n_or <| o_istore 3 <| o_iload 2 <| o_push 10 <| o_div n_div <| o_istore 2 <| o_iinc 4 1 <| k_jmp J 0
set_option maxRecDepth 100000 in
theorem s_X5_isMove_48 {l : Launch} {D : va_G} {cI cS cM : ClassId} {J : List KC} (hJ : ∀ (i pc d : Nat), ([(13, 0)] : List (Nat × Nat))[i]? = some (pc, d) → KS l D cI cS cM yX5_isMove.cls yX5_isMove.name cX5_isMove 6 (some .boolean) (k_rm 1 0 0) false pc d (k_jmp J i)) : KS l D cI cS cM yX5_isMove.cls yX5_isMove.name cX5_isMove 6 (some .boolean) (k_rm 1 0 0) false 48 0 (b_X5_isMove_48 J) :=
  s_iload_n dX5_isMove_48 rfl <|
  s_push1 dX5_isMove_49 (by decide) (by decide) <|
  s_iload dX5_isMove_50 <|
  s_ishl dX5_isMove_52 <|
  s_ior dX5_isMove_53 <|
  s_istore_n dX5_isMove_54 rfl (by decide) <|
  s_iload_n dX5_isMove_55 rfl <|
  s_push2 dX5_isMove_56 (by decide) (by decide) <|
  s_idiv dX5_isMove_58 <|
  s_istore_n dX5_isMove_59 rfl (by decide) <|
  s_iinc dX5_isMove_60 (by decide) (by decide) <|
  s_goto dX5_isMove_63 (by decide) (hJ 0 _ _ rfl)
noncomputable def b_X5_isMove_46 (J : List KC) : KC := o_push 0 <| o_zret
set_option maxRecDepth 100000 in
theorem s_X5_isMove_46 {l : Launch} {D : va_G} {cI cS cM : ClassId} {J : List KC} (hJ : ∀ (i pc d : Nat), ([(13, 0)] : List (Nat × Nat))[i]? = some (pc, d) → KS l D cI cS cM yX5_isMove.cls yX5_isMove.name cX5_isMove 6 (some .boolean) (k_rm 1 0 0) false pc d (k_jmp J i)) : KS l D cI cS cM yX5_isMove.cls yX5_isMove.name cX5_isMove 6 (some .boolean) (k_rm 1 0 0) false 46 0 (b_X5_isMove_46 J) :=
  s_push1 dX5_isMove_46 (by decide) (by decide) <|
  s_zreturn dX5_isMove_47 rfl
noncomputable def b_X5_isMove_37 (J : List KC) : KC := o_iload 3 <| o_iload 5 <| o_shr <| o_push 1 <| o_bin n_and <| o_c1 g_eq (b_X5_isMove_48 J) (b_X5_isMove_46 J)
set_option maxRecDepth 100000 in
theorem s_X5_isMove_37 {l : Launch} {D : va_G} {cI cS cM : ClassId} {J : List KC} (hJ : ∀ (i pc d : Nat), ([(13, 0)] : List (Nat × Nat))[i]? = some (pc, d) → KS l D cI cS cM yX5_isMove.cls yX5_isMove.name cX5_isMove 6 (some .boolean) (k_rm 1 0 0) false pc d (k_jmp J i)) : KS l D cI cS cM yX5_isMove.cls yX5_isMove.name cX5_isMove 6 (some .boolean) (k_rm 1 0 0) false 37 0 (b_X5_isMove_37 J) :=
  s_iload_n dX5_isMove_37 rfl <|
  s_iload dX5_isMove_38 <|
  s_ishr dX5_isMove_40 <|
  s_push1 dX5_isMove_41 (by decide) (by decide) <|
  s_iand dX5_isMove_42 <|
  s_if_eq dX5_isMove_43 (by decide) (s_X5_isMove_48 hJ) (s_X5_isMove_46 hJ)
noncomputable def b_X5_isMove_22 (J : List KC) : KC := o_iload 2 <| o_push 10 <| o_div n_rem <| o_istore 5 <| o_iload 5 <| o_aload 0 <| o_get 5 0 <| o_c2 s_lt (b_X5_isMove_37 J) (b_X5_isMove_46 J)
set_option maxRecDepth 100000 in
theorem s_X5_isMove_22 {l : Launch} {D : va_G} {cI cS cM : ClassId} {J : List KC} (hJ : ∀ (i pc d : Nat), ([(13, 0)] : List (Nat × Nat))[i]? = some (pc, d) → KS l D cI cS cM yX5_isMove.cls yX5_isMove.name cX5_isMove 6 (some .boolean) (k_rm 1 0 0) false pc d (k_jmp J i)) : KS l D cI cS cM yX5_isMove.cls yX5_isMove.name cX5_isMove 6 (some .boolean) (k_rm 1 0 0) false 22 0 (b_X5_isMove_22 J) :=
  s_iload_n dX5_isMove_22 rfl <|
  s_push2 dX5_isMove_23 (by decide) (by decide) <|
  s_irem dX5_isMove_25 <|
  s_istore dX5_isMove_26 (by decide) <|
  s_iload dX5_isMove_28 <|
  s_aload_n dX5_isMove_30 rfl <|
  s_get dX5_isMove_31 (ci := 5) (sl := 0) (Cn := RX5) (Tf := TX5) (N := 3) rfl (by decide) kiX5 kw_2_12 <|
  s_icmp_ge dX5_isMove_34 (by decide) (s_X5_isMove_46 hJ) (s_X5_isMove_37 hJ)
noncomputable def b_X5_isMove_13 (J : List KC) : KC := o_iload 4 <| o_aload 0 <| o_get 5 0 <| o_c2 s_lt (b_X5_isMove_22 J) (b_X5_isMove_66 J)
set_option maxRecDepth 100000 in
theorem s_X5_isMove_13 {l : Launch} {D : va_G} {cI cS cM : ClassId} {J : List KC} (hJ : ∀ (i pc d : Nat), ([(13, 0)] : List (Nat × Nat))[i]? = some (pc, d) → KS l D cI cS cM yX5_isMove.cls yX5_isMove.name cX5_isMove 6 (some .boolean) (k_rm 1 0 0) false pc d (k_jmp J i)) : KS l D cI cS cM yX5_isMove.cls yX5_isMove.name cX5_isMove 6 (some .boolean) (k_rm 1 0 0) false 13 0 (b_X5_isMove_13 J) :=
  s_iload dX5_isMove_13 <|
  s_aload_n dX5_isMove_15 rfl <|
  s_get dX5_isMove_16 (ci := 5) (sl := 0) (Cn := RX5) (Tf := TX5) (N := 3) rfl (by decide) kiX5 kw_2_12 <|
  s_icmp_ge dX5_isMove_19 (by decide) (s_X5_isMove_66 hJ) (s_X5_isMove_22 hJ)
noncomputable def b_X5_isMove_6 (J : List KC) : KC := o_iload 1 <| o_istore 2 <| o_push 0 <| o_istore 3 <| o_push 0 <| o_istore 4 <| b_X5_isMove_13 J
set_option maxRecDepth 100000 in
theorem s_X5_isMove_6 {l : Launch} {D : va_G} {cI cS cM : ClassId} {J : List KC} (hJ : ∀ (i pc d : Nat), ([(13, 0)] : List (Nat × Nat))[i]? = some (pc, d) → KS l D cI cS cM yX5_isMove.cls yX5_isMove.name cX5_isMove 6 (some .boolean) (k_rm 1 0 0) false pc d (k_jmp J i)) : KS l D cI cS cM yX5_isMove.cls yX5_isMove.name cX5_isMove 6 (some .boolean) (k_rm 1 0 0) false 6 0 (b_X5_isMove_6 J) :=
  s_iload_n dX5_isMove_6 rfl <|
  s_istore_n dX5_isMove_7 rfl (by decide) <|
  s_push1 dX5_isMove_8 (by decide) (by decide) <|
  s_istore_n dX5_isMove_9 rfl (by decide) <|
  s_push1 dX5_isMove_10 (by decide) (by decide) <|
  s_istore dX5_isMove_11 (by decide) <|
  s_X5_isMove_13 hJ
noncomputable def b_X5_isMove_4 (J : List KC) : KC := o_push 0 <| o_zret
set_option maxRecDepth 100000 in
theorem s_X5_isMove_4 {l : Launch} {D : va_G} {cI cS cM : ClassId} {J : List KC} (hJ : ∀ (i pc d : Nat), ([(13, 0)] : List (Nat × Nat))[i]? = some (pc, d) → KS l D cI cS cM yX5_isMove.cls yX5_isMove.name cX5_isMove 6 (some .boolean) (k_rm 1 0 0) false pc d (k_jmp J i)) : KS l D cI cS cM yX5_isMove.cls yX5_isMove.name cX5_isMove 6 (some .boolean) (k_rm 1 0 0) false 4 0 (b_X5_isMove_4 J) :=
  s_push1 dX5_isMove_4 (by decide) (by decide) <|
  s_zreturn dX5_isMove_5 rfl
noncomputable def b_X5_isMove_0 (J : List KC) : KC := o_iload 1 <| o_c1 g_lt (b_X5_isMove_4 J) (b_X5_isMove_6 J)
set_option maxRecDepth 100000 in
theorem s_X5_isMove_0 {l : Launch} {D : va_G} {cI cS cM : ClassId} {J : List KC} (hJ : ∀ (i pc d : Nat), ([(13, 0)] : List (Nat × Nat))[i]? = some (pc, d) → KS l D cI cS cM yX5_isMove.cls yX5_isMove.name cX5_isMove 6 (some .boolean) (k_rm 1 0 0) false pc d (k_jmp J i)) : KS l D cI cS cM yX5_isMove.cls yX5_isMove.name cX5_isMove 6 (some .boolean) (k_rm 1 0 0) false 0 0 (b_X5_isMove_0 J) :=
  s_iload_n dX5_isMove_0 rfl <|
  s_if_ge dX5_isMove_1 (by decide) (s_X5_isMove_6 hJ) (s_X5_isMove_4 hJ)
noncomputable def j_X5_isMove (J : List KC) : List KC := [b_X5_isMove_13 J]
noncomputable def m_X5_isMove (n : Nat) : KF := k_fun [k_u, k_u, k_u, k_u] (b_X5_isMove_0 (k_loop (j_X5_isMove) n))
theorem r_X5_isMove {l : Launch} {D : va_G} {cI cS cM : ClassId} (n : Nat) : k_snd l D cI cS cM yX5_isMove cX5_isMove 6 (some .boolean) 1 2 (m_X5_isMove n) :=
  k_method (by decide +kernel) (by simp) rfl (s_X5_isMove_0 (k_loops (hs := [(13, 0)]) (fun J hJ i pc d h => match i, h with | 0, h => by cases h; exact s_X5_isMove_13 hJ | _ + 1, h => by simp at h) n))
noncomputable def b_X5_setPoints_13 : KC := o_aload 0 <| o_get 5 0 <| o_istore 2 <| o_aload 0 <| o_iload 1 <| o_puti 5 0 <| o_aload 0 <| o_push 0 <| o_puti 5 1 <| o_iload 2 <| o_iret
set_option maxRecDepth 100000 in
theorem s_X5_setPoints_13 {l : Launch} {D : va_G} {cI cS cM : ClassId} : KS l D cI cS cM yX5_setPoints.cls yX5_setPoints.name cX5_setPoints 3 (some .int) (k_rm 1 0 0) false 13 0 (b_X5_setPoints_13) :=
  s_aload_n dX5_setPoints_13 rfl <|
  s_get dX5_setPoints_14 (ci := 5) (sl := 0) (Cn := RX5) (Tf := TX5) (N := 3) rfl (by decide) kiX5 kw_2_12 <|
  s_istore_n dX5_setPoints_17 rfl (by decide) <|
  s_aload_n dX5_setPoints_18 rfl <|
  s_iload_n dX5_setPoints_19 rfl <|
  s_puti dX5_setPoints_20 (ci := 5) (sl := 0) (Cn := RX5) (Tf := TX5) (N := 3) (tyf := tyX5) rfl (by decide) kiX5 tyX5_ok nmX5 kw_2_12 rfl rfl <|
  s_aload_n dX5_setPoints_23 rfl <|
  s_push1 dX5_setPoints_24 (by decide) (by decide) <|
  s_puti dX5_setPoints_25 (ci := 5) (sl := 1) (Cn := RX5) (Tf := TX5) (N := 3) (tyf := tyX5) rfl (by decide) kiX5 tyX5_ok nmX5 kw_2_13 rfl rfl <|
  s_iload_n dX5_setPoints_28 rfl <|
  s_ireturn dX5_setPoints_29 rfl
noncomputable def b_X5_setPoints_10 : KC := o_push 4294967294 <| o_iret
set_option maxRecDepth 100000 in
theorem s_X5_setPoints_10 {l : Launch} {D : va_G} {cI cS cM : ClassId} : KS l D cI cS cM yX5_setPoints.cls yX5_setPoints.name cX5_setPoints 3 (some .int) (k_rm 1 0 0) false 10 0 (b_X5_setPoints_10) :=
  s_push2 dX5_setPoints_10 (by decide) (by decide) <|
  s_ireturn dX5_setPoints_12 rfl
noncomputable def b_X5_setPoints_5 : KC := o_iload 1 <| o_push 5 <| o_c2 s_gt (b_X5_setPoints_10) (b_X5_setPoints_13)
set_option maxRecDepth 100000 in
theorem s_X5_setPoints_5 {l : Launch} {D : va_G} {cI cS cM : ClassId} : KS l D cI cS cM yX5_setPoints.cls yX5_setPoints.name cX5_setPoints 3 (some .int) (k_rm 1 0 0) false 5 0 (b_X5_setPoints_5) :=
  s_iload_n dX5_setPoints_5 rfl <|
  s_push1 dX5_setPoints_6 (by decide) (by decide) <|
  s_icmp_le dX5_setPoints_7 (by decide) (s_X5_setPoints_13) (s_X5_setPoints_10)
noncomputable def b_X5_setPoints_0 : KC := o_iload 1 <| o_push 1 <| o_c2 s_lt (b_X5_setPoints_10) (b_X5_setPoints_5)
set_option maxRecDepth 100000 in
theorem s_X5_setPoints_0 {l : Launch} {D : va_G} {cI cS cM : ClassId} : KS l D cI cS cM yX5_setPoints.cls yX5_setPoints.name cX5_setPoints 3 (some .int) (k_rm 1 0 0) false 0 0 (b_X5_setPoints_0) :=
  s_iload_n dX5_setPoints_0 rfl <|
  s_push1 dX5_setPoints_1 (by decide) (by decide) <|
  s_icmp_lt dX5_setPoints_2 (by decide) (s_X5_setPoints_10) (s_X5_setPoints_5)
noncomputable def m_X5_setPoints : KF := k_fun [k_u] (b_X5_setPoints_0)
theorem r_X5_setPoints {l : Launch} {D : va_G} {cI cS cM : ClassId} : k_snd l D cI cS cM yX5_setPoints cX5_setPoints 3 (some .int) 1 2 (m_X5_setPoints) :=
  k_method (by decide +kernel) (by simp) rfl (s_X5_setPoints_0)
noncomputable def b_X5_addGenerator_22 (F_X5_isMove : KF) : KC := o_aload 0 <| o_get 5 2 <| o_aload 0 <| o_get 5 1 <| o_iload 1 <| o_iast <| o_aload 0 <| o_dup <| o_get 5 1 <| o_push 1 <| o_bin n_add <| o_puti 5 1 <| o_aload 0 <| o_get 5 1 <| o_push 1 <| o_bin n_sub <| o_iret
set_option maxRecDepth 100000 in
theorem s_X5_addGenerator_22 {l : Launch} {D : va_G} {cI cS cM : ClassId} {F_X5_isMove : KF} (h_X5_isMove : k_snd l D cI cS cM yX5_isMove cX5_isMove 6 (some .boolean) 1 2 F_X5_isMove) : KS l D cI cS cM yX5_addGenerator.cls yX5_addGenerator.name cX5_addGenerator 2 (some .int) (k_rm 2 0 0) false 22 0 (b_X5_addGenerator_22 F_X5_isMove) :=
  s_aload_n dX5_addGenerator_22 rfl <|
  s_get dX5_addGenerator_23 (ci := 5) (sl := 2) (Cn := RX5) (Tf := TX5) (N := 3) rfl (by decide) kiX5 kw_2_14 <|
  s_aload_n dX5_addGenerator_26 rfl <|
  s_get dX5_addGenerator_27 (ci := 5) (sl := 1) (Cn := RX5) (Tf := TX5) (N := 3) rfl (by decide) kiX5 kw_2_13 <|
  s_iload_n dX5_addGenerator_30 rfl <|
  s_iast dX5_addGenerator_31 <|
  s_aload_n dX5_addGenerator_32 rfl <|
  s_dup dX5_addGenerator_33 <|
  s_get dX5_addGenerator_34 (ci := 5) (sl := 1) (Cn := RX5) (Tf := TX5) (N := 3) rfl (by decide) kiX5 kw_2_13 <|
  s_push1 dX5_addGenerator_37 (by decide) (by decide) <|
  s_iadd dX5_addGenerator_38 <|
  s_puti dX5_addGenerator_39 (ci := 5) (sl := 1) (Cn := RX5) (Tf := TX5) (N := 3) (tyf := tyX5) rfl (by decide) kiX5 tyX5_ok nmX5 kw_2_13 rfl rfl <|
  s_aload_n dX5_addGenerator_42 rfl <|
  s_get dX5_addGenerator_43 (ci := 5) (sl := 1) (Cn := RX5) (Tf := TX5) (N := 3) rfl (by decide) kiX5 kw_2_13 <|
  s_push1 dX5_addGenerator_46 (by decide) (by decide) <|
  s_isub dX5_addGenerator_47 <|
  s_ireturn dX5_addGenerator_48 rfl
noncomputable def b_X5_addGenerator_19 (F_X5_isMove : KF) : KC := o_push 4294967292 <| o_iret
set_option maxRecDepth 100000 in
theorem s_X5_addGenerator_19 {l : Launch} {D : va_G} {cI cS cM : ClassId} {F_X5_isMove : KF} (h_X5_isMove : k_snd l D cI cS cM yX5_isMove cX5_isMove 6 (some .boolean) 1 2 F_X5_isMove) : KS l D cI cS cM yX5_addGenerator.cls yX5_addGenerator.name cX5_addGenerator 2 (some .int) (k_rm 2 0 0) false 19 0 (b_X5_addGenerator_19 F_X5_isMove) :=
  s_push2 dX5_addGenerator_19 (by decide) (by decide) <|
  s_ireturn dX5_addGenerator_21 rfl
noncomputable def b_X5_addGenerator_11 (F_X5_isMove : KF) : KC := o_aload 0 <| o_get 5 1 <| o_push 3 <| o_c2 s_lt (b_X5_addGenerator_22 F_X5_isMove) (b_X5_addGenerator_19 F_X5_isMove)
set_option maxRecDepth 100000 in
theorem s_X5_addGenerator_11 {l : Launch} {D : va_G} {cI cS cM : ClassId} {F_X5_isMove : KF} (h_X5_isMove : k_snd l D cI cS cM yX5_isMove cX5_isMove 6 (some .boolean) 1 2 F_X5_isMove) : KS l D cI cS cM yX5_addGenerator.cls yX5_addGenerator.name cX5_addGenerator 2 (some .int) (k_rm 2 0 0) false 11 0 (b_X5_addGenerator_11 F_X5_isMove) :=
  s_aload_n dX5_addGenerator_11 rfl <|
  s_get dX5_addGenerator_12 (ci := 5) (sl := 1) (Cn := RX5) (Tf := TX5) (N := 3) rfl (by decide) kiX5 kw_2_13 <|
  s_push1 dX5_addGenerator_15 (by decide) (by decide) <|
  s_icmp_lt dX5_addGenerator_16 (by decide) (s_X5_addGenerator_22 h_X5_isMove) (s_X5_addGenerator_19 h_X5_isMove)
noncomputable def b_X5_addGenerator_8 (F_X5_isMove : KF) : KC := o_push 4294967294 <| o_iret
set_option maxRecDepth 100000 in
theorem s_X5_addGenerator_8 {l : Launch} {D : va_G} {cI cS cM : ClassId} {F_X5_isMove : KF} (h_X5_isMove : k_snd l D cI cS cM yX5_isMove cX5_isMove 6 (some .boolean) 1 2 F_X5_isMove) : KS l D cI cS cM yX5_addGenerator.cls yX5_addGenerator.name cX5_addGenerator 2 (some .int) (k_rm 2 0 0) false 8 0 (b_X5_addGenerator_8 F_X5_isMove) :=
  s_push2 dX5_addGenerator_8 (by decide) (by decide) <|
  s_ireturn dX5_addGenerator_10 rfl
noncomputable def b_X5_addGenerator_0 (F_X5_isMove : KF) : KC := o_aload 0 <| o_iload 1 <| o_cV1 2 5 F_X5_isMove <| o_c1 g_eq (b_X5_addGenerator_8 F_X5_isMove) (b_X5_addGenerator_11 F_X5_isMove)
set_option maxRecDepth 100000 in
theorem s_X5_addGenerator_0 {l : Launch} {D : va_G} {cI cS cM : ClassId} {F_X5_isMove : KF} (h_X5_isMove : k_snd l D cI cS cM yX5_isMove cX5_isMove 6 (some .boolean) 1 2 F_X5_isMove) : KS l D cI cS cM yX5_addGenerator.cls yX5_addGenerator.name cX5_addGenerator 2 (some .int) (k_rm 2 0 0) false 0 0 (b_X5_addGenerator_0 F_X5_isMove) :=
  s_aload_n dX5_addGenerator_0 rfl <|
  s_iload_n dX5_addGenerator_1 rfl <|
  s_callV1 dX5_addGenerator_2 kw_10_18 kw_10_19 kw_10_20 (ci := 5) rfl ok_X5_isMove (by decide) (by decide) h_X5_isMove (by decide) <|
  s_if_ne dX5_addGenerator_5 (by decide) (s_X5_addGenerator_11 h_X5_isMove) (s_X5_addGenerator_8 h_X5_isMove)
noncomputable def m_X5_addGenerator (F_X5_isMove : KF) : KF := k_fun [] (b_X5_addGenerator_0 F_X5_isMove)
theorem r_X5_addGenerator {l : Launch} {D : va_G} {cI cS cM : ClassId} {F_X5_isMove : KF} (h_X5_isMove : k_snd l D cI cS cM yX5_isMove cX5_isMove 6 (some .boolean) 1 2 F_X5_isMove) : k_snd l D cI cS cM yX5_addGenerator cX5_addGenerator 2 (some .int) 2 2 (m_X5_addGenerator F_X5_isMove) :=
  k_method (by decide +kernel) (by simp) rfl (s_X5_addGenerator_0 h_X5_isMove)
noncomputable def b_X5_dropGenerator_46 (F_X8_isBelow : KF) (J : List KC) : KC := o_aload 0 <| o_dup <| o_get 5 1 <| o_push 1 <| o_bin n_sub <| o_puti 5 1 <| o_aload 0 <| o_get 5 1 <| o_iret
set_option maxRecDepth 100000 in
theorem s_X5_dropGenerator_46 {l : Launch} {D : va_G} {cI cS cM : ClassId} {F_X8_isBelow : KF} (h_X8_isBelow : k_snd l D cI cS cM yX8_isBelow cX8_isBelow 2 (some .boolean) 1 2 F_X8_isBelow) {J : List KC} (hJ : ∀ (i pc d : Nat), ([(18, 0)] : List (Nat × Nat))[i]? = some (pc, d) → KS l D cI cS cM yX5_dropGenerator.cls yX5_dropGenerator.name cX5_dropGenerator 3 (some .int) (k_rm 2 0 0) false pc d (k_jmp J i)) : KS l D cI cS cM yX5_dropGenerator.cls yX5_dropGenerator.name cX5_dropGenerator 3 (some .int) (k_rm 2 0 0) false 46 0 (b_X5_dropGenerator_46 F_X8_isBelow J) :=
  s_aload_n dX5_dropGenerator_46 rfl <|
  s_dup dX5_dropGenerator_47 <|
  s_get dX5_dropGenerator_48 (ci := 5) (sl := 1) (Cn := RX5) (Tf := TX5) (N := 3) rfl (by decide) kiX5 kw_2_13 <|
  s_push1 dX5_dropGenerator_51 (by decide) (by decide) <|
  s_isub dX5_dropGenerator_52 <|
  s_puti dX5_dropGenerator_53 (ci := 5) (sl := 1) (Cn := RX5) (Tf := TX5) (N := 3) (tyf := tyX5) rfl (by decide) kiX5 tyX5_ok nmX5 kw_2_13 rfl rfl <|
  s_aload_n dX5_dropGenerator_56 rfl <|
  s_get dX5_dropGenerator_57 (ci := 5) (sl := 1) (Cn := RX5) (Tf := TX5) (N := 3) rfl (by decide) kiX5 kw_2_13 <|
  s_ireturn dX5_dropGenerator_60 rfl
noncomputable def b_X5_dropGenerator_26 (F_X8_isBelow : KF) (J : List KC) : KC := o_aload 0 <| o_get 5 2 <| o_iload 2 <| o_push 1 <| o_bin n_sub <| o_aload 0 <| o_get 5 2 <| o_iload 2 <| o_iald <| o_iast <| o_iinc 2 1 <| k_jmp J 0
set_option maxRecDepth 100000 in
theorem s_X5_dropGenerator_26 {l : Launch} {D : va_G} {cI cS cM : ClassId} {F_X8_isBelow : KF} (h_X8_isBelow : k_snd l D cI cS cM yX8_isBelow cX8_isBelow 2 (some .boolean) 1 2 F_X8_isBelow) {J : List KC} (hJ : ∀ (i pc d : Nat), ([(18, 0)] : List (Nat × Nat))[i]? = some (pc, d) → KS l D cI cS cM yX5_dropGenerator.cls yX5_dropGenerator.name cX5_dropGenerator 3 (some .int) (k_rm 2 0 0) false pc d (k_jmp J i)) : KS l D cI cS cM yX5_dropGenerator.cls yX5_dropGenerator.name cX5_dropGenerator 3 (some .int) (k_rm 2 0 0) false 26 0 (b_X5_dropGenerator_26 F_X8_isBelow J) :=
  s_aload_n dX5_dropGenerator_26 rfl <|
  s_get dX5_dropGenerator_27 (ci := 5) (sl := 2) (Cn := RX5) (Tf := TX5) (N := 3) rfl (by decide) kiX5 kw_2_14 <|
  s_iload_n dX5_dropGenerator_30 rfl <|
  s_push1 dX5_dropGenerator_31 (by decide) (by decide) <|
  s_isub dX5_dropGenerator_32 <|
  s_aload_n dX5_dropGenerator_33 rfl <|
  s_get dX5_dropGenerator_34 (ci := 5) (sl := 2) (Cn := RX5) (Tf := TX5) (N := 3) rfl (by decide) kiX5 kw_2_14 <|
  s_iload_n dX5_dropGenerator_37 rfl <|
  s_iald dX5_dropGenerator_38 <|
  s_iast dX5_dropGenerator_39 <|
  s_iinc dX5_dropGenerator_40 (by decide) (by decide) <|
  s_goto dX5_dropGenerator_43 (by decide) (hJ 0 _ _ rfl)
noncomputable def b_X5_dropGenerator_18 (F_X8_isBelow : KF) (J : List KC) : KC := o_iload 2 <| o_aload 0 <| o_get 5 1 <| o_c2 s_lt (b_X5_dropGenerator_26 F_X8_isBelow J) (b_X5_dropGenerator_46 F_X8_isBelow J)
set_option maxRecDepth 100000 in
theorem s_X5_dropGenerator_18 {l : Launch} {D : va_G} {cI cS cM : ClassId} {F_X8_isBelow : KF} (h_X8_isBelow : k_snd l D cI cS cM yX8_isBelow cX8_isBelow 2 (some .boolean) 1 2 F_X8_isBelow) {J : List KC} (hJ : ∀ (i pc d : Nat), ([(18, 0)] : List (Nat × Nat))[i]? = some (pc, d) → KS l D cI cS cM yX5_dropGenerator.cls yX5_dropGenerator.name cX5_dropGenerator 3 (some .int) (k_rm 2 0 0) false pc d (k_jmp J i)) : KS l D cI cS cM yX5_dropGenerator.cls yX5_dropGenerator.name cX5_dropGenerator 3 (some .int) (k_rm 2 0 0) false 18 0 (b_X5_dropGenerator_18 F_X8_isBelow J) :=
  s_iload_n dX5_dropGenerator_18 rfl <|
  s_aload_n dX5_dropGenerator_19 rfl <|
  s_get dX5_dropGenerator_20 (ci := 5) (sl := 1) (Cn := RX5) (Tf := TX5) (N := 3) rfl (by decide) kiX5 kw_2_13 <|
  s_icmp_ge dX5_dropGenerator_23 (by decide) (s_X5_dropGenerator_46 h_X8_isBelow hJ) (s_X5_dropGenerator_26 h_X8_isBelow hJ)
noncomputable def b_X5_dropGenerator_14 (F_X8_isBelow : KF) (J : List KC) : KC := o_iload 1 <| o_push 1 <| o_bin n_add <| o_istore 2 <| b_X5_dropGenerator_18 F_X8_isBelow J
set_option maxRecDepth 100000 in
theorem s_X5_dropGenerator_14 {l : Launch} {D : va_G} {cI cS cM : ClassId} {F_X8_isBelow : KF} (h_X8_isBelow : k_snd l D cI cS cM yX8_isBelow cX8_isBelow 2 (some .boolean) 1 2 F_X8_isBelow) {J : List KC} (hJ : ∀ (i pc d : Nat), ([(18, 0)] : List (Nat × Nat))[i]? = some (pc, d) → KS l D cI cS cM yX5_dropGenerator.cls yX5_dropGenerator.name cX5_dropGenerator 3 (some .int) (k_rm 2 0 0) false pc d (k_jmp J i)) : KS l D cI cS cM yX5_dropGenerator.cls yX5_dropGenerator.name cX5_dropGenerator 3 (some .int) (k_rm 2 0 0) false 14 0 (b_X5_dropGenerator_14 F_X8_isBelow J) :=
  s_iload_n dX5_dropGenerator_14 rfl <|
  s_push1 dX5_dropGenerator_15 (by decide) (by decide) <|
  s_iadd dX5_dropGenerator_16 <|
  s_istore_n dX5_dropGenerator_17 rfl (by decide) <|
  s_X5_dropGenerator_18 h_X8_isBelow hJ
noncomputable def b_X5_dropGenerator_11 (F_X8_isBelow : KF) (J : List KC) : KC := o_push 4294967294 <| o_iret
set_option maxRecDepth 100000 in
theorem s_X5_dropGenerator_11 {l : Launch} {D : va_G} {cI cS cM : ClassId} {F_X8_isBelow : KF} (h_X8_isBelow : k_snd l D cI cS cM yX8_isBelow cX8_isBelow 2 (some .boolean) 1 2 F_X8_isBelow) {J : List KC} (hJ : ∀ (i pc d : Nat), ([(18, 0)] : List (Nat × Nat))[i]? = some (pc, d) → KS l D cI cS cM yX5_dropGenerator.cls yX5_dropGenerator.name cX5_dropGenerator 3 (some .int) (k_rm 2 0 0) false pc d (k_jmp J i)) : KS l D cI cS cM yX5_dropGenerator.cls yX5_dropGenerator.name cX5_dropGenerator 3 (some .int) (k_rm 2 0 0) false 11 0 (b_X5_dropGenerator_11 F_X8_isBelow J) :=
  s_push2 dX5_dropGenerator_11 (by decide) (by decide) <|
  s_ireturn dX5_dropGenerator_13 rfl
noncomputable def b_X5_dropGenerator_0 (F_X8_isBelow : KF) (J : List KC) : KC := o_iload 1 <| o_aload 0 <| o_get 5 1 <| o_cS1 2 F_X8_isBelow <| o_c1 g_eq (b_X5_dropGenerator_11 F_X8_isBelow J) (b_X5_dropGenerator_14 F_X8_isBelow J)
set_option maxRecDepth 100000 in
theorem s_X5_dropGenerator_0 {l : Launch} {D : va_G} {cI cS cM : ClassId} {F_X8_isBelow : KF} (h_X8_isBelow : k_snd l D cI cS cM yX8_isBelow cX8_isBelow 2 (some .boolean) 1 2 F_X8_isBelow) {J : List KC} (hJ : ∀ (i pc d : Nat), ([(18, 0)] : List (Nat × Nat))[i]? = some (pc, d) → KS l D cI cS cM yX5_dropGenerator.cls yX5_dropGenerator.name cX5_dropGenerator 3 (some .int) (k_rm 2 0 0) false pc d (k_jmp J i)) : KS l D cI cS cM yX5_dropGenerator.cls yX5_dropGenerator.name cX5_dropGenerator 3 (some .int) (k_rm 2 0 0) false 0 0 (b_X5_dropGenerator_0 F_X8_isBelow J) :=
  s_iload_n dX5_dropGenerator_0 rfl <|
  s_aload_n dX5_dropGenerator_1 rfl <|
  s_get dX5_dropGenerator_2 (ci := 5) (sl := 1) (Cn := RX5) (Tf := TX5) (N := 3) rfl (by decide) kiX5 kw_2_13 <|
  s_callN1 dX5_dropGenerator_5 (List.mem_of_getElem? (i := 0) rfl) kw_8_14 ok_X8_isBelow (by decide) (by decide) h_X8_isBelow (by decide) <|
  s_if_ne dX5_dropGenerator_8 (by decide) (s_X5_dropGenerator_14 h_X8_isBelow hJ) (s_X5_dropGenerator_11 h_X8_isBelow hJ)
noncomputable def j_X5_dropGenerator (F_X8_isBelow : KF) (J : List KC) : List KC := [b_X5_dropGenerator_18 F_X8_isBelow J]
noncomputable def m_X5_dropGenerator (F_X8_isBelow : KF) (n : Nat) : KF := k_fun [k_u] (b_X5_dropGenerator_0 F_X8_isBelow (k_loop (j_X5_dropGenerator F_X8_isBelow) n))
theorem r_X5_dropGenerator {l : Launch} {D : va_G} {cI cS cM : ClassId} {F_X8_isBelow : KF} (h_X8_isBelow : k_snd l D cI cS cM yX8_isBelow cX8_isBelow 2 (some .boolean) 1 2 F_X8_isBelow) (n : Nat) : k_snd l D cI cS cM yX5_dropGenerator cX5_dropGenerator 3 (some .int) 2 2 (m_X5_dropGenerator F_X8_isBelow n) :=
  k_method (by decide +kernel) (by simp) rfl (s_X5_dropGenerator_0 h_X8_isBelow (k_loops (hs := [(18, 0)]) (fun J hJ i pc d h => match i, h with | 0, h => by cases h; exact s_X5_dropGenerator_18 h_X8_isBelow hJ | _ + 1, h => by simp at h) n))
noncomputable def b_X1_loseOldest_34 (J : List KC) : KC := o_aload 0 <| o_get 1 1 <| o_push 4 <| o_aload 1 <| o_aast 5 <| o_aload 0 <| o_push 4 <| o_puti 1 0 <| o_ret
set_option maxRecDepth 100000 in
theorem s_X1_loseOldest_34 {l : Launch} {D : va_G} {cI cS cM : ClassId} {J : List KC} (hJ : ∀ (i pc d : Nat), ([(9, 0)] : List (Nat × Nat))[i]? = some (pc, d) → KS l D cI cS cM yX1_loseOldest.cls yX1_loseOldest.name cX1_loseOldest 3 none (k_rm 1 0 0) false pc d (k_jmp J i)) : KS l D cI cS cM yX1_loseOldest.cls yX1_loseOldest.name cX1_loseOldest 3 none (k_rm 1 0 0) false 34 0 (b_X1_loseOldest_34 J) :=
  s_aload_n dX1_loseOldest_34 rfl <|
  s_get dX1_loseOldest_35 (ci := 1) (sl := 1) (Cn := RX1) (Tf := TX1) (N := 2) rfl (by decide) kiX1 kw_2_21 <|
  s_push1 dX1_loseOldest_38 (by decide) (by decide) <|
  s_aload_n dX1_loseOldest_39 rfl <|
  s_aast dX1_loseOldest_40 <|
  s_aload_n dX1_loseOldest_41 rfl <|
  s_push1 dX1_loseOldest_42 (by decide) (by decide) <|
  s_puti dX1_loseOldest_43 (ci := 1) (sl := 0) (Cn := RX1) (Tf := TX1) (N := 2) (tyf := tyX1) rfl (by decide) kiX1 tyX1_ok nmX1 kw_2_19 rfl rfl <|
  s_return dX1_loseOldest_46 rfl
noncomputable def b_X1_loseOldest_14 (J : List KC) : KC := o_aload 0 <| o_get 1 1 <| o_iload 2 <| o_push 1 <| o_bin n_sub <| o_aload 0 <| o_get 1 1 <| o_iload 2 <| o_aald <| o_aast 5 <| o_iinc 2 1 <| k_jmp J 0
set_option maxRecDepth 100000 in
theorem s_X1_loseOldest_14 {l : Launch} {D : va_G} {cI cS cM : ClassId} {J : List KC} (hJ : ∀ (i pc d : Nat), ([(9, 0)] : List (Nat × Nat))[i]? = some (pc, d) → KS l D cI cS cM yX1_loseOldest.cls yX1_loseOldest.name cX1_loseOldest 3 none (k_rm 1 0 0) false pc d (k_jmp J i)) : KS l D cI cS cM yX1_loseOldest.cls yX1_loseOldest.name cX1_loseOldest 3 none (k_rm 1 0 0) false 14 0 (b_X1_loseOldest_14 J) :=
  s_aload_n dX1_loseOldest_14 rfl <|
  s_get dX1_loseOldest_15 (ci := 1) (sl := 1) (Cn := RX1) (Tf := TX1) (N := 2) rfl (by decide) kiX1 kw_2_21 <|
  s_iload_n dX1_loseOldest_18 rfl <|
  s_push1 dX1_loseOldest_19 (by decide) (by decide) <|
  s_isub dX1_loseOldest_20 <|
  s_aload_n dX1_loseOldest_21 rfl <|
  s_get dX1_loseOldest_22 (ci := 1) (sl := 1) (Cn := RX1) (Tf := TX1) (N := 2) rfl (by decide) kiX1 kw_2_21 <|
  s_iload_n dX1_loseOldest_25 rfl <|
  s_aald dX1_loseOldest_26 <|
  s_aast dX1_loseOldest_27 <|
  s_iinc dX1_loseOldest_28 (by decide) (by decide) <|
  s_goto dX1_loseOldest_31 (by decide) (hJ 0 _ _ rfl)
noncomputable def b_X1_loseOldest_9 (J : List KC) : KC := o_iload 2 <| o_push 5 <| o_c2 s_lt (b_X1_loseOldest_14 J) (b_X1_loseOldest_34 J)
set_option maxRecDepth 100000 in
theorem s_X1_loseOldest_9 {l : Launch} {D : va_G} {cI cS cM : ClassId} {J : List KC} (hJ : ∀ (i pc d : Nat), ([(9, 0)] : List (Nat × Nat))[i]? = some (pc, d) → KS l D cI cS cM yX1_loseOldest.cls yX1_loseOldest.name cX1_loseOldest 3 none (k_rm 1 0 0) false pc d (k_jmp J i)) : KS l D cI cS cM yX1_loseOldest.cls yX1_loseOldest.name cX1_loseOldest 3 none (k_rm 1 0 0) false 9 0 (b_X1_loseOldest_9 J) :=
  s_iload_n dX1_loseOldest_9 rfl <|
  s_push1 dX1_loseOldest_10 (by decide) (by decide) <|
  s_icmp_ge dX1_loseOldest_11 (by decide) (s_X1_loseOldest_34 hJ) (s_X1_loseOldest_14 hJ)
noncomputable def b_X1_loseOldest_0 (J : List KC) : KC := o_aload 0 <| o_get 1 1 <| o_push 0 <| o_aald <| o_astore 1 <| o_push 1 <| o_istore 2 <| b_X1_loseOldest_9 J
set_option maxRecDepth 100000 in
theorem s_X1_loseOldest_0 {l : Launch} {D : va_G} {cI cS cM : ClassId} {J : List KC} (hJ : ∀ (i pc d : Nat), ([(9, 0)] : List (Nat × Nat))[i]? = some (pc, d) → KS l D cI cS cM yX1_loseOldest.cls yX1_loseOldest.name cX1_loseOldest 3 none (k_rm 1 0 0) false pc d (k_jmp J i)) : KS l D cI cS cM yX1_loseOldest.cls yX1_loseOldest.name cX1_loseOldest 3 none (k_rm 1 0 0) false 0 0 (b_X1_loseOldest_0 J) :=
  s_aload_n dX1_loseOldest_0 rfl <|
  s_get dX1_loseOldest_1 (ci := 1) (sl := 1) (Cn := RX1) (Tf := TX1) (N := 2) rfl (by decide) kiX1 kw_2_21 <|
  s_push1 dX1_loseOldest_4 (by decide) (by decide) <|
  s_aald dX1_loseOldest_5 <|
  s_astore_n dX1_loseOldest_6 rfl (by decide) <|
  s_push1 dX1_loseOldest_7 (by decide) (by decide) <|
  s_istore_n dX1_loseOldest_8 rfl (by decide) <|
  s_X1_loseOldest_9 hJ
noncomputable def j_X1_loseOldest (J : List KC) : List KC := [b_X1_loseOldest_9 J]
noncomputable def m_X1_loseOldest (n : Nat) : KF := k_fun [k_u, k_u] (b_X1_loseOldest_0 (k_loop (j_X1_loseOldest) n))
theorem r_X1_loseOldest {l : Launch} {D : va_G} {cI cS cM : ClassId} (n : Nat) : k_snd l D cI cS cM yX1_loseOldest cX1_loseOldest 3 none 1 1 (m_X1_loseOldest n) :=
  k_method (by decide +kernel) (by simp) rfl (s_X1_loseOldest_0 (k_loops (hs := [(9, 0)]) (fun J hJ i pc d h => match i, h with | 0, h => by cases h; exact s_X1_loseOldest_9 hJ | _ + 1, h => by simp at h) n))
noncomputable def b_X1_keep_12 (F_X1_loseOldest F_X5_copyFrom : KF) : KC := o_aload 0 <| o_get 1 1 <| o_aload 0 <| o_get 1 0 <| o_aald <| o_aload 1 <| o_cV0 2 5 F_X5_copyFrom <| o_aload 0 <| o_dup <| o_get 1 0 <| o_push 1 <| o_bin n_add <| o_puti 1 0 <| o_ret
set_option maxRecDepth 100000 in
theorem s_X1_keep_12 {l : Launch} {D : va_G} {cI cS cM : ClassId} {F_X1_loseOldest F_X5_copyFrom : KF} (h_X1_loseOldest : k_snd l D cI cS cM yX1_loseOldest cX1_loseOldest 3 none 1 1 F_X1_loseOldest) (h_X5_copyFrom : k_snd l D cI cS cM yX5_copyFrom cX5_copyFrom 3 none 1 2 F_X5_copyFrom) : KS l D cI cS cM yX1_keep.cls yX1_keep.name cX1_keep 2 none (k_rm 2 0 0) false 12 0 (b_X1_keep_12 F_X1_loseOldest F_X5_copyFrom) :=
  s_aload_n dX1_keep_12 rfl <|
  s_get dX1_keep_13 (ci := 1) (sl := 1) (Cn := RX1) (Tf := TX1) (N := 2) rfl (by decide) kiX1 kw_2_21 <|
  s_aload_n dX1_keep_16 rfl <|
  s_get dX1_keep_17 (ci := 1) (sl := 0) (Cn := RX1) (Tf := TX1) (N := 2) rfl (by decide) kiX1 kw_2_19 <|
  s_aald dX1_keep_20 <|
  s_aload_n dX1_keep_21 rfl <|
  s_callV0 dX1_keep_22 kw_9_0 kw_7_22 kw_7_23 (ci := 5) rfl ok_X5_copyFrom (by decide) (by decide) h_X5_copyFrom (by decide) <|
  s_aload_n dX1_keep_25 rfl <|
  s_dup dX1_keep_26 <|
  s_get dX1_keep_27 (ci := 1) (sl := 0) (Cn := RX1) (Tf := TX1) (N := 2) rfl (by decide) kiX1 kw_2_19 <|
  s_push1 dX1_keep_30 (by decide) (by decide) <|
  s_iadd dX1_keep_31 <|
  s_puti dX1_keep_32 (ci := 1) (sl := 0) (Cn := RX1) (Tf := TX1) (N := 2) (tyf := tyX1) rfl (by decide) kiX1 tyX1_ok nmX1 kw_2_19 rfl rfl <|
  s_return dX1_keep_35 rfl
noncomputable def b_X1_keep_8 (F_X1_loseOldest F_X5_copyFrom : KF) : KC := o_aload 0 <| o_cV0 1 1 F_X1_loseOldest <| b_X1_keep_12 F_X1_loseOldest F_X5_copyFrom
set_option maxRecDepth 100000 in
theorem s_X1_keep_8 {l : Launch} {D : va_G} {cI cS cM : ClassId} {F_X1_loseOldest F_X5_copyFrom : KF} (h_X1_loseOldest : k_snd l D cI cS cM yX1_loseOldest cX1_loseOldest 3 none 1 1 F_X1_loseOldest) (h_X5_copyFrom : k_snd l D cI cS cM yX5_copyFrom cX5_copyFrom 3 none 1 2 F_X5_copyFrom) : KS l D cI cS cM yX1_keep.cls yX1_keep.name cX1_keep 2 none (k_rm 2 0 0) false 8 0 (b_X1_keep_8 F_X1_loseOldest F_X5_copyFrom) :=
  s_aload_n dX1_keep_8 rfl <|
  s_callV0 dX1_keep_9 kw_8_20 kw_8_21 kw_8_22 (ci := 1) rfl ok_X1_loseOldest (by decide) (by decide) h_X1_loseOldest (by decide) <|
  s_X1_keep_12 h_X1_loseOldest h_X5_copyFrom
noncomputable def b_X1_keep_0 (F_X1_loseOldest F_X5_copyFrom : KF) : KC := o_aload 0 <| o_get 1 0 <| o_push 5 <| o_c2 s_lt (b_X1_keep_12 F_X1_loseOldest F_X5_copyFrom) (b_X1_keep_8 F_X1_loseOldest F_X5_copyFrom)
set_option maxRecDepth 100000 in
theorem s_X1_keep_0 {l : Launch} {D : va_G} {cI cS cM : ClassId} {F_X1_loseOldest F_X5_copyFrom : KF} (h_X1_loseOldest : k_snd l D cI cS cM yX1_loseOldest cX1_loseOldest 3 none 1 1 F_X1_loseOldest) (h_X5_copyFrom : k_snd l D cI cS cM yX5_copyFrom cX5_copyFrom 3 none 1 2 F_X5_copyFrom) : KS l D cI cS cM yX1_keep.cls yX1_keep.name cX1_keep 2 none (k_rm 2 0 0) false 0 0 (b_X1_keep_0 F_X1_loseOldest F_X5_copyFrom) :=
  s_aload_n dX1_keep_0 rfl <|
  s_get dX1_keep_1 (ci := 1) (sl := 0) (Cn := RX1) (Tf := TX1) (N := 2) rfl (by decide) kiX1 kw_2_19 <|
  s_push1 dX1_keep_4 (by decide) (by decide) <|
  s_icmp_lt dX1_keep_5 (by decide) (s_X1_keep_12 h_X1_loseOldest h_X5_copyFrom) (s_X1_keep_8 h_X1_loseOldest h_X5_copyFrom)
noncomputable def m_X1_keep (F_X1_loseOldest F_X5_copyFrom : KF) : KF := k_fun [] (b_X1_keep_0 F_X1_loseOldest F_X5_copyFrom)
theorem r_X1_keep {l : Launch} {D : va_G} {cI cS cM : ClassId} {F_X1_loseOldest F_X5_copyFrom : KF} (h_X1_loseOldest : k_snd l D cI cS cM yX1_loseOldest cX1_loseOldest 3 none 1 1 F_X1_loseOldest) (h_X5_copyFrom : k_snd l D cI cS cM yX5_copyFrom cX5_copyFrom 3 none 1 2 F_X5_copyFrom) : k_snd l D cI cS cM yX1_keep cX1_keep 2 none 2 2 (m_X1_keep F_X1_loseOldest F_X5_copyFrom) :=
  k_method (by decide +kernel) (by simp) rfl (s_X1_keep_0 h_X1_loseOldest h_X5_copyFrom)
noncomputable def b_X1_restore_30 (F_X5_copyFrom : KF) : KC := o_ret
set_option maxRecDepth 100000 in
theorem s_X1_restore_30 {l : Launch} {D : va_G} {cI cS cM : ClassId} {F_X5_copyFrom : KF} (h_X5_copyFrom : k_snd l D cI cS cM yX5_copyFrom cX5_copyFrom 3 none 1 2 F_X5_copyFrom) : KS l D cI cS cM yX1_restore.cls yX1_restore.name cX1_restore 2 none (k_rm 2 0 0) false 30 0 (b_X1_restore_30 F_X5_copyFrom) :=
  s_return dX1_restore_30 rfl
noncomputable def b_X1_restore_7 (F_X5_copyFrom : KF) : KC := o_aload 0 <| o_dup <| o_get 1 0 <| o_push 1 <| o_bin n_sub <| o_puti 1 0 <| o_aload 1 <| o_aload 0 <| o_get 1 1 <| o_aload 0 <| o_get 1 0 <| o_aald <| o_cV0 2 5 F_X5_copyFrom <| b_X1_restore_30 F_X5_copyFrom
set_option maxRecDepth 100000 in
theorem s_X1_restore_7 {l : Launch} {D : va_G} {cI cS cM : ClassId} {F_X5_copyFrom : KF} (h_X5_copyFrom : k_snd l D cI cS cM yX5_copyFrom cX5_copyFrom 3 none 1 2 F_X5_copyFrom) : KS l D cI cS cM yX1_restore.cls yX1_restore.name cX1_restore 2 none (k_rm 2 0 0) false 7 0 (b_X1_restore_7 F_X5_copyFrom) :=
  s_aload_n dX1_restore_7 rfl <|
  s_dup dX1_restore_8 <|
  s_get dX1_restore_9 (ci := 1) (sl := 0) (Cn := RX1) (Tf := TX1) (N := 2) rfl (by decide) kiX1 kw_2_19 <|
  s_push1 dX1_restore_12 (by decide) (by decide) <|
  s_isub dX1_restore_13 <|
  s_puti dX1_restore_14 (ci := 1) (sl := 0) (Cn := RX1) (Tf := TX1) (N := 2) (tyf := tyX1) rfl (by decide) kiX1 tyX1_ok nmX1 kw_2_19 rfl rfl <|
  s_aload_n dX1_restore_17 rfl <|
  s_aload_n dX1_restore_18 rfl <|
  s_get dX1_restore_19 (ci := 1) (sl := 1) (Cn := RX1) (Tf := TX1) (N := 2) rfl (by decide) kiX1 kw_2_21 <|
  s_aload_n dX1_restore_22 rfl <|
  s_get dX1_restore_23 (ci := 1) (sl := 0) (Cn := RX1) (Tf := TX1) (N := 2) rfl (by decide) kiX1 kw_2_19 <|
  s_aald dX1_restore_26 <|
  s_callV0 dX1_restore_27 kw_9_0 kw_7_22 kw_7_23 (ci := 5) rfl ok_X5_copyFrom (by decide) (by decide) h_X5_copyFrom (by decide) <|
  s_X1_restore_30 h_X5_copyFrom
noncomputable def b_X1_restore_0 (F_X5_copyFrom : KF) : KC := o_aload 0 <| o_get 1 0 <| o_c1 g_gt (b_X1_restore_7 F_X5_copyFrom) (b_X1_restore_30 F_X5_copyFrom)
set_option maxRecDepth 100000 in
theorem s_X1_restore_0 {l : Launch} {D : va_G} {cI cS cM : ClassId} {F_X5_copyFrom : KF} (h_X5_copyFrom : k_snd l D cI cS cM yX5_copyFrom cX5_copyFrom 3 none 1 2 F_X5_copyFrom) : KS l D cI cS cM yX1_restore.cls yX1_restore.name cX1_restore 2 none (k_rm 2 0 0) false 0 0 (b_X1_restore_0 F_X5_copyFrom) :=
  s_aload_n dX1_restore_0 rfl <|
  s_get dX1_restore_1 (ci := 1) (sl := 0) (Cn := RX1) (Tf := TX1) (N := 2) rfl (by decide) kiX1 kw_2_19 <|
  s_if_le dX1_restore_4 (by decide) (s_X1_restore_30 h_X5_copyFrom) (s_X1_restore_7 h_X5_copyFrom)
noncomputable def m_X1_restore (F_X5_copyFrom : KF) : KF := k_fun [] (b_X1_restore_0 F_X5_copyFrom)
theorem r_X1_restore {l : Launch} {D : va_G} {cI cS cM : ClassId} {F_X5_copyFrom : KF} (h_X5_copyFrom : k_snd l D cI cS cM yX5_copyFrom cX5_copyFrom 3 none 1 2 F_X5_copyFrom) : k_snd l D cI cS cM yX1_restore cX1_restore 2 none 2 2 (m_X1_restore F_X5_copyFrom) :=
  k_method (by decide +kernel) (by simp) rfl (s_X1_restore_0 h_X5_copyFrom)
noncomputable def b_X4_closes_70 : KC := o_aload 0 <| o_push 0 <| o_puti 4 5 <| o_push 1 <| o_zret
set_option maxRecDepth 100000 in
theorem s_X4_closes_70 {l : Launch} {D : va_G} {cI cS cM : ClassId} : KS l D cI cS cM yX4_closes.cls yX4_closes.name cX4_closes 2 (some .boolean) (k_rm 1 0 0) false 70 0 (b_X4_closes_70) :=
  s_aload_n dX4_closes_70 rfl <|
  s_push1 dX4_closes_71 (by decide) (by decide) <|
  s_puti dX4_closes_72 (ci := 4) (sl := 5) (Cn := RX4) (Tf := TX4) (N := 10) (tyf := tyX4) rfl (by decide) kiX4 tyX4_ok nmX4 kw_3_6 rfl rfl <|
  s_push1 dX4_closes_75 (by decide) (by decide) <|
  s_zreturn dX4_closes_76 rfl
noncomputable def b_X4_closes_62 : KC := o_aload 0 <| o_aload 0 <| o_get 4 6 <| o_puti 4 9 <| b_X4_closes_70
set_option maxRecDepth 100000 in
theorem s_X4_closes_62 {l : Launch} {D : va_G} {cI cS cM : ClassId} : KS l D cI cS cM yX4_closes.cls yX4_closes.name cX4_closes 2 (some .boolean) (k_rm 1 0 0) false 62 0 (b_X4_closes_62) :=
  s_aload_n dX4_closes_62 rfl <|
  s_aload_n dX4_closes_63 rfl <|
  s_get dX4_closes_64 (ci := 4) (sl := 6) (Cn := RX4) (Tf := TX4) (N := 10) rfl (by decide) kiX4 kw_3_7 <|
  s_puti dX4_closes_67 (ci := 4) (sl := 9) (Cn := RX4) (Tf := TX4) (N := 10) (tyf := tyX4) rfl (by decide) kiX4 tyX4_ok nmX4 kw_3_10 rfl rfl <|
  s_X4_closes_70
noncomputable def b_X4_closes_17 : KC := o_aload 0 <| o_get 4 2 <| o_aload 0 <| o_get 4 4 <| o_aload 0 <| o_get 4 5 <| o_iast <| o_aload 0 <| o_get 4 3 <| o_aload 0 <| o_get 4 4 <| o_aload 0 <| o_get 4 6 <| o_iast <| o_aload 0 <| o_dup <| o_get 4 4 <| o_push 1 <| o_bin n_add <| o_puti 4 4 <| o_aload 0 <| o_get 4 5 <| o_push 110 <| o_c2 Nat.beq (b_X4_closes_62) (b_X4_closes_70)
set_option maxRecDepth 100000 in
theorem s_X4_closes_17 {l : Launch} {D : va_G} {cI cS cM : ClassId} : KS l D cI cS cM yX4_closes.cls yX4_closes.name cX4_closes 2 (some .boolean) (k_rm 1 0 0) false 17 0 (b_X4_closes_17) :=
  s_aload_n dX4_closes_17 rfl <|
  s_get dX4_closes_18 (ci := 4) (sl := 2) (Cn := RX4) (Tf := TX4) (N := 10) rfl (by decide) kiX4 kw_3_3 <|
  s_aload_n dX4_closes_21 rfl <|
  s_get dX4_closes_22 (ci := 4) (sl := 4) (Cn := RX4) (Tf := TX4) (N := 10) rfl (by decide) kiX4 kw_3_5 <|
  s_aload_n dX4_closes_25 rfl <|
  s_get dX4_closes_26 (ci := 4) (sl := 5) (Cn := RX4) (Tf := TX4) (N := 10) rfl (by decide) kiX4 kw_3_6 <|
  s_iast dX4_closes_29 <|
  s_aload_n dX4_closes_30 rfl <|
  s_get dX4_closes_31 (ci := 4) (sl := 3) (Cn := RX4) (Tf := TX4) (N := 10) rfl (by decide) kiX4 kw_3_4 <|
  s_aload_n dX4_closes_34 rfl <|
  s_get dX4_closes_35 (ci := 4) (sl := 4) (Cn := RX4) (Tf := TX4) (N := 10) rfl (by decide) kiX4 kw_3_5 <|
  s_aload_n dX4_closes_38 rfl <|
  s_get dX4_closes_39 (ci := 4) (sl := 6) (Cn := RX4) (Tf := TX4) (N := 10) rfl (by decide) kiX4 kw_3_7 <|
  s_iast dX4_closes_42 <|
  s_aload_n dX4_closes_43 rfl <|
  s_dup dX4_closes_44 <|
  s_get dX4_closes_45 (ci := 4) (sl := 4) (Cn := RX4) (Tf := TX4) (N := 10) rfl (by decide) kiX4 kw_3_5 <|
  s_push1 dX4_closes_48 (by decide) (by decide) <|
  s_iadd dX4_closes_49 <|
  s_puti dX4_closes_50 (ci := 4) (sl := 4) (Cn := RX4) (Tf := TX4) (N := 10) (tyf := tyX4) rfl (by decide) kiX4 tyX4_ok nmX4 kw_3_5 rfl rfl <|
  s_aload_n dX4_closes_53 rfl <|
  s_get dX4_closes_54 (ci := 4) (sl := 5) (Cn := RX4) (Tf := TX4) (N := 10) rfl (by decide) kiX4 kw_3_6 <|
  s_push2 dX4_closes_57 (by decide) (by decide) <|
  s_icmp_ne dX4_closes_59 (by decide) (s_X4_closes_70) (s_X4_closes_62)
noncomputable def b_X4_closes_15 : KC := o_push 0 <| o_zret
set_option maxRecDepth 100000 in
theorem s_X4_closes_15 {l : Launch} {D : va_G} {cI cS cM : ClassId} : KS l D cI cS cM yX4_closes.cls yX4_closes.name cX4_closes 2 (some .boolean) (k_rm 1 0 0) false 15 0 (b_X4_closes_15) :=
  s_push1 dX4_closes_15 (by decide) (by decide) <|
  s_zreturn dX4_closes_16 rfl
noncomputable def b_X4_closes_6 : KC := o_aload 0 <| o_get 4 4 <| o_push 27 <| o_c2 s_lt (b_X4_closes_17) (b_X4_closes_15)
set_option maxRecDepth 100000 in
theorem s_X4_closes_6 {l : Launch} {D : va_G} {cI cS cM : ClassId} : KS l D cI cS cM yX4_closes.cls yX4_closes.name cX4_closes 2 (some .boolean) (k_rm 1 0 0) false 6 0 (b_X4_closes_6) :=
  s_aload_n dX4_closes_6 rfl <|
  s_get dX4_closes_7 (ci := 4) (sl := 4) (Cn := RX4) (Tf := TX4) (N := 10) rfl (by decide) kiX4 kw_3_5 <|
  s_push2 dX4_closes_10 (by decide) (by decide) <|
  s_icmp_lt dX4_closes_12 (by decide) (s_X4_closes_17) (s_X4_closes_15)
noncomputable def b_X4_closes_0 : KC := o_iload 1 <| o_push 59 <| o_c2 Nat.beq (b_X4_closes_6) (b_X4_closes_15)
set_option maxRecDepth 100000 in
theorem s_X4_closes_0 {l : Launch} {D : va_G} {cI cS cM : ClassId} : KS l D cI cS cM yX4_closes.cls yX4_closes.name cX4_closes 2 (some .boolean) (k_rm 1 0 0) false 0 0 (b_X4_closes_0) :=
  s_iload_n dX4_closes_0 rfl <|
  s_push2 dX4_closes_1 (by decide) (by decide) <|
  s_icmp_ne dX4_closes_3 (by decide) (s_X4_closes_15) (s_X4_closes_6)
noncomputable def m_X4_closes : KF := k_fun [] (b_X4_closes_0)
theorem r_X4_closes {l : Launch} {D : va_G} {cI cS cM : ClassId} : k_snd l D cI cS cM yX4_closes cX4_closes 2 (some .boolean) 1 2 (m_X4_closes) :=
  k_method (by decide +kernel) (by simp) rfl (s_X4_closes_0)
noncomputable def b_X4_empty_0 : KC := o_aload 0 <| o_get 4 0 <| o_istore 1 <| o_aload 0 <| o_push 0 <| o_puti 4 0 <| o_iload 1 <| o_iret
set_option maxRecDepth 100000 in
theorem s_X4_empty_0 {l : Launch} {D : va_G} {cI cS cM : ClassId} : KS l D cI cS cM yX4_empty.cls yX4_empty.name cX4_empty 2 (some .int) (k_rm 1 0 0) false 0 0 (b_X4_empty_0) :=
  s_aload_n dX4_empty_0 rfl <|
  s_get dX4_empty_1 (ci := 4) (sl := 0) (Cn := RX4) (Tf := TX4) (N := 10) rfl (by decide) kiX4 kw_3_1 <|
  s_istore_n dX4_empty_4 rfl (by decide) <|
  s_aload_n dX4_empty_5 rfl <|
  s_push1 dX4_empty_6 (by decide) (by decide) <|
  s_puti dX4_empty_7 (ci := 4) (sl := 0) (Cn := RX4) (Tf := TX4) (N := 10) (tyf := tyX4) rfl (by decide) kiX4 tyX4_ok nmX4 kw_3_1 rfl rfl <|
  s_iload_n dX4_empty_10 rfl <|
  s_ireturn dX4_empty_11 rfl
noncomputable def m_X4_empty : KF := k_fun [k_u] (b_X4_empty_0)
theorem r_X4_empty {l : Launch} {D : va_G} {cI cS cM : ClassId} : k_snd l D cI cS cM yX4_empty cX4_empty 2 (some .int) 1 1 (m_X4_empty) :=
  k_method (by decide +kernel) (by simp) rfl (s_X4_empty_0)
noncomputable def b_X4_opens_45 : KC := o_puti 4 7 <| o_aload 0 <| o_push 0 <| o_puti 4 8 <| o_push 1 <| o_zret
set_option maxRecDepth 100000 in
theorem s_X4_opens_45 {l : Launch} {D : va_G} {cI cS cM : ClassId} : KS l D cI cS cM yX4_opens.cls yX4_opens.name cX4_opens 2 (some .boolean) (k_rm 1 0 0) false 45 2 (b_X4_opens_45) :=
  s_puti dX4_opens_45 (ci := 4) (sl := 7) (Cn := RX4) (Tf := TX4) (N := 10) (tyf := tyX4) rfl (by decide) kiX4 tyX4_ok nmX4 kw_3_8 rfl rfl <|
  s_aload_n dX4_opens_48 rfl <|
  s_push1 dX4_opens_49 (by decide) (by decide) <|
  s_puti dX4_opens_50 (ci := 4) (sl := 8) (Cn := RX4) (Tf := TX4) (N := 10) (tyf := tyX4) rfl (by decide) kiX4 tyX4_ok nmX4 kw_3_9 rfl rfl <|
  s_push1 dX4_opens_53 (by decide) (by decide) <|
  s_zreturn dX4_opens_54 rfl
noncomputable def b_X4_opens_44 : KC := o_push 1 <| b_X4_opens_45
set_option maxRecDepth 100000 in
theorem s_X4_opens_44 {l : Launch} {D : va_G} {cI cS cM : ClassId} : KS l D cI cS cM yX4_opens.cls yX4_opens.name cX4_opens 2 (some .boolean) (k_rm 1 0 0) false 44 1 (b_X4_opens_44) :=
  s_push1 dX4_opens_44 (by decide) (by decide) <|
  s_X4_opens_45
noncomputable def b_X4_opens_37 : KC := o_aload 0 <| o_get 4 9 <| b_X4_opens_45
set_option maxRecDepth 100000 in
theorem s_X4_opens_37 {l : Launch} {D : va_G} {cI cS cM : ClassId} : KS l D cI cS cM yX4_opens.cls yX4_opens.name cX4_opens 2 (some .boolean) (k_rm 1 0 0) false 37 1 (b_X4_opens_37) :=
  s_aload_n dX4_opens_37 rfl <|
  s_get dX4_opens_38 (ci := 4) (sl := 9) (Cn := RX4) (Tf := TX4) (N := 10) rfl (by decide) kiX4 kw_3_10 <|
  s_goto dX4_opens_41 (by decide) (s_X4_opens_45)
noncomputable def b_X4_opens_20 : KC := o_aload 0 <| o_iload 1 <| o_puti 4 5 <| o_aload 0 <| o_push 0 <| o_puti 4 6 <| o_aload 0 <| o_iload 1 <| o_push 109 <| o_c2 Nat.beq (b_X4_opens_37) (b_X4_opens_44)
set_option maxRecDepth 100000 in
theorem s_X4_opens_20 {l : Launch} {D : va_G} {cI cS cM : ClassId} : KS l D cI cS cM yX4_opens.cls yX4_opens.name cX4_opens 2 (some .boolean) (k_rm 1 0 0) false 20 0 (b_X4_opens_20) :=
  s_aload_n dX4_opens_20 rfl <|
  s_iload_n dX4_opens_21 rfl <|
  s_puti dX4_opens_22 (ci := 4) (sl := 5) (Cn := RX4) (Tf := TX4) (N := 10) (tyf := tyX4) rfl (by decide) kiX4 tyX4_ok nmX4 kw_3_6 rfl rfl <|
  s_aload_n dX4_opens_25 rfl <|
  s_push1 dX4_opens_26 (by decide) (by decide) <|
  s_puti dX4_opens_27 (ci := 4) (sl := 6) (Cn := RX4) (Tf := TX4) (N := 10) (tyf := tyX4) rfl (by decide) kiX4 tyX4_ok nmX4 kw_3_7 rfl rfl <|
  s_aload_n dX4_opens_30 rfl <|
  s_iload_n dX4_opens_31 rfl <|
  s_push2 dX4_opens_32 (by decide) (by decide) <|
  s_icmp_ne dX4_opens_34 (by decide) (s_X4_opens_44) (s_X4_opens_37)
noncomputable def b_X4_opens_18 : KC := o_push 0 <| o_zret
set_option maxRecDepth 100000 in
theorem s_X4_opens_18 {l : Launch} {D : va_G} {cI cS cM : ClassId} : KS l D cI cS cM yX4_opens.cls yX4_opens.name cX4_opens 2 (some .boolean) (k_rm 1 0 0) false 18 0 (b_X4_opens_18) :=
  s_push1 dX4_opens_18 (by decide) (by decide) <|
  s_zreturn dX4_opens_19 rfl
noncomputable def b_X4_opens_12 : KC := o_iload 1 <| o_push 120 <| o_c2 Nat.beq (b_X4_opens_20) (b_X4_opens_18)
set_option maxRecDepth 100000 in
theorem s_X4_opens_12 {l : Launch} {D : va_G} {cI cS cM : ClassId} : KS l D cI cS cM yX4_opens.cls yX4_opens.name cX4_opens 2 (some .boolean) (k_rm 1 0 0) false 12 0 (b_X4_opens_12) :=
  s_iload_n dX4_opens_12 rfl <|
  s_push2 dX4_opens_13 (by decide) (by decide) <|
  s_icmp_eq dX4_opens_15 (by decide) (s_X4_opens_20) (s_X4_opens_18)
noncomputable def b_X4_opens_6 : KC := o_iload 1 <| o_push 109 <| o_c2 Nat.beq (b_X4_opens_20) (b_X4_opens_12)
set_option maxRecDepth 100000 in
theorem s_X4_opens_6 {l : Launch} {D : va_G} {cI cS cM : ClassId} : KS l D cI cS cM yX4_opens.cls yX4_opens.name cX4_opens 2 (some .boolean) (k_rm 1 0 0) false 6 0 (b_X4_opens_6) :=
  s_iload_n dX4_opens_6 rfl <|
  s_push2 dX4_opens_7 (by decide) (by decide) <|
  s_icmp_eq dX4_opens_9 (by decide) (s_X4_opens_20) (s_X4_opens_12)
noncomputable def b_X4_opens_0 : KC := o_iload 1 <| o_push 110 <| o_c2 Nat.beq (b_X4_opens_20) (b_X4_opens_6)
set_option maxRecDepth 100000 in
theorem s_X4_opens_0 {l : Launch} {D : va_G} {cI cS cM : ClassId} : KS l D cI cS cM yX4_opens.cls yX4_opens.name cX4_opens 2 (some .boolean) (k_rm 1 0 0) false 0 0 (b_X4_opens_0) :=
  s_iload_n dX4_opens_0 rfl <|
  s_push2 dX4_opens_1 (by decide) (by decide) <|
  s_icmp_eq dX4_opens_3 (by decide) (s_X4_opens_20) (s_X4_opens_6)
noncomputable def m_X4_opens : KF := k_fun [] (b_X4_opens_0)
theorem r_X4_opens {l : Launch} {D : va_G} {cI cS cM : ClassId} : k_snd l D cI cS cM yX4_opens cX4_opens 2 (some .boolean) 1 2 (m_X4_opens) :=
  k_method (by decide +kernel) (by simp) rfl (s_X4_opens_0)
noncomputable def b_X4_append_25 (F_X8_isBelow : KF) : KC := o_aload 0 <| o_get 4 1 <| o_aload 0 <| o_get 4 0 <| o_iload 1 <| o_iast <| o_aload 0 <| o_dup <| o_get 4 0 <| o_push 1 <| o_bin n_add <| o_puti 4 0 <| o_aload 0 <| o_get 4 0 <| o_iret
set_option maxRecDepth 100000 in
theorem s_X4_append_25 {l : Launch} {D : va_G} {cI cS cM : ClassId} {F_X8_isBelow : KF} (h_X8_isBelow : k_snd l D cI cS cM yX8_isBelow cX8_isBelow 2 (some .boolean) 1 2 F_X8_isBelow) : KS l D cI cS cM yX4_append.cls yX4_append.name cX4_append 2 (some .int) (k_rm 2 0 0) false 25 0 (b_X4_append_25 F_X8_isBelow) :=
  s_aload_n dX4_append_25 rfl <|
  s_get dX4_append_26 (ci := 4) (sl := 1) (Cn := RX4) (Tf := TX4) (N := 10) rfl (by decide) kiX4 kw_3_2 <|
  s_aload_n dX4_append_29 rfl <|
  s_get dX4_append_30 (ci := 4) (sl := 0) (Cn := RX4) (Tf := TX4) (N := 10) rfl (by decide) kiX4 kw_3_1 <|
  s_iload_n dX4_append_33 rfl <|
  s_iast dX4_append_34 <|
  s_aload_n dX4_append_35 rfl <|
  s_dup dX4_append_36 <|
  s_get dX4_append_37 (ci := 4) (sl := 0) (Cn := RX4) (Tf := TX4) (N := 10) rfl (by decide) kiX4 kw_3_1 <|
  s_push1 dX4_append_40 (by decide) (by decide) <|
  s_iadd dX4_append_41 <|
  s_puti dX4_append_42 (ci := 4) (sl := 0) (Cn := RX4) (Tf := TX4) (N := 10) (tyf := tyX4) rfl (by decide) kiX4 tyX4_ok nmX4 kw_3_1 rfl rfl <|
  s_aload_n dX4_append_45 rfl <|
  s_get dX4_append_46 (ci := 4) (sl := 0) (Cn := RX4) (Tf := TX4) (N := 10) rfl (by decide) kiX4 kw_3_1 <|
  s_ireturn dX4_append_49 rfl
noncomputable def b_X4_append_22 (F_X8_isBelow : KF) : KC := o_push 4294967292 <| o_iret
set_option maxRecDepth 100000 in
theorem s_X4_append_22 {l : Launch} {D : va_G} {cI cS cM : ClassId} {F_X8_isBelow : KF} (h_X8_isBelow : k_snd l D cI cS cM yX8_isBelow cX8_isBelow 2 (some .boolean) 1 2 F_X8_isBelow) : KS l D cI cS cM yX4_append.cls yX4_append.name cX4_append 2 (some .int) (k_rm 2 0 0) false 22 0 (b_X4_append_22 F_X8_isBelow) :=
  s_push2 dX4_append_22 (by decide) (by decide) <|
  s_ireturn dX4_append_24 rfl
noncomputable def b_X4_append_13 (F_X8_isBelow : KF) : KC := o_aload 0 <| o_get 4 0 <| o_push 80 <| o_c2 s_lt (b_X4_append_25 F_X8_isBelow) (b_X4_append_22 F_X8_isBelow)
set_option maxRecDepth 100000 in
theorem s_X4_append_13 {l : Launch} {D : va_G} {cI cS cM : ClassId} {F_X8_isBelow : KF} (h_X8_isBelow : k_snd l D cI cS cM yX8_isBelow cX8_isBelow 2 (some .boolean) 1 2 F_X8_isBelow) : KS l D cI cS cM yX4_append.cls yX4_append.name cX4_append 2 (some .int) (k_rm 2 0 0) false 13 0 (b_X4_append_13 F_X8_isBelow) :=
  s_aload_n dX4_append_13 rfl <|
  s_get dX4_append_14 (ci := 4) (sl := 0) (Cn := RX4) (Tf := TX4) (N := 10) rfl (by decide) kiX4 kw_3_1 <|
  s_push2 dX4_append_17 (by decide) (by decide) <|
  s_icmp_lt dX4_append_19 (by decide) (s_X4_append_25 h_X8_isBelow) (s_X4_append_22 h_X8_isBelow)
noncomputable def b_X4_append_10 (F_X8_isBelow : KF) : KC := o_push 4294967294 <| o_iret
set_option maxRecDepth 100000 in
theorem s_X4_append_10 {l : Launch} {D : va_G} {cI cS cM : ClassId} {F_X8_isBelow : KF} (h_X8_isBelow : k_snd l D cI cS cM yX8_isBelow cX8_isBelow 2 (some .boolean) 1 2 F_X8_isBelow) : KS l D cI cS cM yX4_append.cls yX4_append.name cX4_append 2 (some .int) (k_rm 2 0 0) false 10 0 (b_X4_append_10 F_X8_isBelow) :=
  s_push2 dX4_append_10 (by decide) (by decide) <|
  s_ireturn dX4_append_12 rfl
noncomputable def b_X4_append_0 (F_X8_isBelow : KF) : KC := o_iload 1 <| o_push 128 <| o_cS1 2 F_X8_isBelow <| o_c1 g_eq (b_X4_append_10 F_X8_isBelow) (b_X4_append_13 F_X8_isBelow)
set_option maxRecDepth 100000 in
theorem s_X4_append_0 {l : Launch} {D : va_G} {cI cS cM : ClassId} {F_X8_isBelow : KF} (h_X8_isBelow : k_snd l D cI cS cM yX8_isBelow cX8_isBelow 2 (some .boolean) 1 2 F_X8_isBelow) : KS l D cI cS cM yX4_append.cls yX4_append.name cX4_append 2 (some .int) (k_rm 2 0 0) false 0 0 (b_X4_append_0 F_X8_isBelow) :=
  s_iload_n dX4_append_0 rfl <|
  s_push3 dX4_append_1 (by decide) (by decide) <|
  s_callN1 dX4_append_4 (List.mem_of_getElem? (i := 2) rfl) kw_8_14 ok_X8_isBelow (by decide) (by decide) h_X8_isBelow (by decide) <|
  s_if_ne dX4_append_7 (by decide) (s_X4_append_13 h_X8_isBelow) (s_X4_append_10 h_X8_isBelow)
noncomputable def m_X4_append (F_X8_isBelow : KF) : KF := k_fun [] (b_X4_append_0 F_X8_isBelow)
theorem r_X4_append {l : Launch} {D : va_G} {cI cS cM : ClassId} {F_X8_isBelow : KF} (h_X8_isBelow : k_snd l D cI cS cM yX8_isBelow cX8_isBelow 2 (some .boolean) 1 2 F_X8_isBelow) : k_snd l D cI cS cM yX4_append cX4_append 2 (some .int) 2 2 (m_X4_append F_X8_isBelow) :=
  k_method (by decide +kernel) (by simp) rfl (s_X4_append_0 h_X8_isBelow)
noncomputable def b_X4_takesFigure_62 (F_X8_isBelow : KF) : KC := o_aload 0 <| o_dup <| o_get 4 8 <| o_push 1 <| o_iload 1 <| o_shl <| o_bin n_or <| o_puti 4 8 <| o_aload 0 <| o_push 10 <| o_aload 0 <| o_get 4 6 <| o_bin n_mul <| o_iload 1 <| o_bin n_add <| o_puti 4 6 <| o_aload 0 <| o_dup <| o_get 4 7 <| o_push 1 <| o_bin n_sub <| o_puti 4 7 <| o_push 1 <| o_zret
set_option maxRecDepth 100000 in
theorem s_X4_takesFigure_62 {l : Launch} {D : va_G} {cI cS cM : ClassId} {F_X8_isBelow : KF} (h_X8_isBelow : k_snd l D cI cS cM yX8_isBelow cX8_isBelow 2 (some .boolean) 1 2 F_X8_isBelow) : KS l D cI cS cM yX4_takesFigure.cls yX4_takesFigure.name cX4_takesFigure 2 (some .boolean) (k_rm 2 0 0) false 62 0 (b_X4_takesFigure_62 F_X8_isBelow) :=
  s_aload_n dX4_takesFigure_62 rfl <|
  s_dup dX4_takesFigure_63 <|
  s_get dX4_takesFigure_64 (ci := 4) (sl := 8) (Cn := RX4) (Tf := TX4) (N := 10) rfl (by decide) kiX4 kw_3_9 <|
  s_push1 dX4_takesFigure_67 (by decide) (by decide) <|
  s_iload_n dX4_takesFigure_68 rfl <|
  s_ishl dX4_takesFigure_69 <|
  s_ior dX4_takesFigure_70 <|
  s_puti dX4_takesFigure_71 (ci := 4) (sl := 8) (Cn := RX4) (Tf := TX4) (N := 10) (tyf := tyX4) rfl (by decide) kiX4 tyX4_ok nmX4 kw_3_9 rfl rfl <|
  s_aload_n dX4_takesFigure_74 rfl <|
  s_push2 dX4_takesFigure_75 (by decide) (by decide) <|
  s_aload_n dX4_takesFigure_77 rfl <|
  s_get dX4_takesFigure_78 (ci := 4) (sl := 6) (Cn := RX4) (Tf := TX4) (N := 10) rfl (by decide) kiX4 kw_3_7 <|
  s_imul dX4_takesFigure_81 <|
  s_iload_n dX4_takesFigure_82 rfl <|
  s_iadd dX4_takesFigure_83 <|
  s_puti dX4_takesFigure_84 (ci := 4) (sl := 6) (Cn := RX4) (Tf := TX4) (N := 10) (tyf := tyX4) rfl (by decide) kiX4 tyX4_ok nmX4 kw_3_7 rfl rfl <|
  s_aload_n dX4_takesFigure_87 rfl <|
  s_dup dX4_takesFigure_88 <|
  s_get dX4_takesFigure_89 (ci := 4) (sl := 7) (Cn := RX4) (Tf := TX4) (N := 10) rfl (by decide) kiX4 kw_3_8 <|
  s_push1 dX4_takesFigure_92 (by decide) (by decide) <|
  s_isub dX4_takesFigure_93 <|
  s_puti dX4_takesFigure_94 (ci := 4) (sl := 7) (Cn := RX4) (Tf := TX4) (N := 10) (tyf := tyX4) rfl (by decide) kiX4 tyX4_ok nmX4 kw_3_8 rfl rfl <|
  s_push1 dX4_takesFigure_97 (by decide) (by decide) <|
  s_zreturn dX4_takesFigure_98 rfl
noncomputable def b_X4_takesFigure_60 (F_X8_isBelow : KF) : KC := o_push 0 <| o_zret
set_option maxRecDepth 100000 in
theorem s_X4_takesFigure_60 {l : Launch} {D : va_G} {cI cS cM : ClassId} {F_X8_isBelow : KF} (h_X8_isBelow : k_snd l D cI cS cM yX8_isBelow cX8_isBelow 2 (some .boolean) 1 2 F_X8_isBelow) : KS l D cI cS cM yX4_takesFigure.cls yX4_takesFigure.name cX4_takesFigure 2 (some .boolean) (k_rm 2 0 0) false 60 0 (b_X4_takesFigure_60 F_X8_isBelow) :=
  s_push1 dX4_takesFigure_60 (by decide) (by decide) <|
  s_zreturn dX4_takesFigure_61 rfl
noncomputable def b_X4_takesFigure_49 (F_X8_isBelow : KF) : KC := o_aload 0 <| o_get 4 8 <| o_iload 1 <| o_shr <| o_push 1 <| o_bin n_and <| o_c1 g_eq (b_X4_takesFigure_62 F_X8_isBelow) (b_X4_takesFigure_60 F_X8_isBelow)
set_option maxRecDepth 100000 in
theorem s_X4_takesFigure_49 {l : Launch} {D : va_G} {cI cS cM : ClassId} {F_X8_isBelow : KF} (h_X8_isBelow : k_snd l D cI cS cM yX8_isBelow cX8_isBelow 2 (some .boolean) 1 2 F_X8_isBelow) : KS l D cI cS cM yX4_takesFigure.cls yX4_takesFigure.name cX4_takesFigure 2 (some .boolean) (k_rm 2 0 0) false 49 0 (b_X4_takesFigure_49 F_X8_isBelow) :=
  s_aload_n dX4_takesFigure_49 rfl <|
  s_get dX4_takesFigure_50 (ci := 4) (sl := 8) (Cn := RX4) (Tf := TX4) (N := 10) rfl (by decide) kiX4 kw_3_9 <|
  s_iload_n dX4_takesFigure_53 rfl <|
  s_ishr dX4_takesFigure_54 <|
  s_push1 dX4_takesFigure_55 (by decide) (by decide) <|
  s_iand dX4_takesFigure_56 <|
  s_if_eq dX4_takesFigure_57 (by decide) (s_X4_takesFigure_62 h_X8_isBelow) (s_X4_takesFigure_60 h_X8_isBelow)
noncomputable def b_X4_takesFigure_41 (F_X8_isBelow : KF) : KC := o_iload 1 <| o_aload 0 <| o_get 4 9 <| o_c2 s_lt (b_X4_takesFigure_49 F_X8_isBelow) (b_X4_takesFigure_60 F_X8_isBelow)
set_option maxRecDepth 100000 in
theorem s_X4_takesFigure_41 {l : Launch} {D : va_G} {cI cS cM : ClassId} {F_X8_isBelow : KF} (h_X8_isBelow : k_snd l D cI cS cM yX8_isBelow cX8_isBelow 2 (some .boolean) 1 2 F_X8_isBelow) : KS l D cI cS cM yX4_takesFigure.cls yX4_takesFigure.name cX4_takesFigure 2 (some .boolean) (k_rm 2 0 0) false 41 0 (b_X4_takesFigure_41 F_X8_isBelow) :=
  s_iload_n dX4_takesFigure_41 rfl <|
  s_aload_n dX4_takesFigure_42 rfl <|
  s_get dX4_takesFigure_43 (ci := 4) (sl := 9) (Cn := RX4) (Tf := TX4) (N := 10) rfl (by decide) kiX4 kw_3_10 <|
  s_icmp_ge dX4_takesFigure_46 (by decide) (s_X4_takesFigure_60 h_X8_isBelow) (s_X4_takesFigure_49 h_X8_isBelow)
noncomputable def b_X4_takesFigure_32 (F_X8_isBelow : KF) : KC := o_aload 0 <| o_get 4 5 <| o_push 109 <| o_c2 Nat.beq (b_X4_takesFigure_41 F_X8_isBelow) (b_X4_takesFigure_62 F_X8_isBelow)
set_option maxRecDepth 100000 in
theorem s_X4_takesFigure_32 {l : Launch} {D : va_G} {cI cS cM : ClassId} {F_X8_isBelow : KF} (h_X8_isBelow : k_snd l D cI cS cM yX8_isBelow cX8_isBelow 2 (some .boolean) 1 2 F_X8_isBelow) : KS l D cI cS cM yX4_takesFigure.cls yX4_takesFigure.name cX4_takesFigure 2 (some .boolean) (k_rm 2 0 0) false 32 0 (b_X4_takesFigure_32 F_X8_isBelow) :=
  s_aload_n dX4_takesFigure_32 rfl <|
  s_get dX4_takesFigure_33 (ci := 4) (sl := 5) (Cn := RX4) (Tf := TX4) (N := 10) rfl (by decide) kiX4 kw_3_6 <|
  s_push2 dX4_takesFigure_36 (by decide) (by decide) <|
  s_icmp_ne dX4_takesFigure_38 (by decide) (s_X4_takesFigure_62 h_X8_isBelow) (s_X4_takesFigure_41 h_X8_isBelow)
noncomputable def b_X4_takesFigure_30 (F_X8_isBelow : KF) : KC := o_push 0 <| o_zret
set_option maxRecDepth 100000 in
theorem s_X4_takesFigure_30 {l : Launch} {D : va_G} {cI cS cM : ClassId} {F_X8_isBelow : KF} (h_X8_isBelow : k_snd l D cI cS cM yX8_isBelow cX8_isBelow 2 (some .boolean) 1 2 F_X8_isBelow) : KS l D cI cS cM yX4_takesFigure.cls yX4_takesFigure.name cX4_takesFigure 2 (some .boolean) (k_rm 2 0 0) false 30 0 (b_X4_takesFigure_30 F_X8_isBelow) :=
  s_push1 dX4_takesFigure_30 (by decide) (by decide) <|
  s_zreturn dX4_takesFigure_31 rfl
noncomputable def b_X4_takesFigure_25 (F_X8_isBelow : KF) : KC := o_iload 1 <| o_push 5 <| o_c2 s_gt (b_X4_takesFigure_30 F_X8_isBelow) (b_X4_takesFigure_32 F_X8_isBelow)
set_option maxRecDepth 100000 in
theorem s_X4_takesFigure_25 {l : Launch} {D : va_G} {cI cS cM : ClassId} {F_X8_isBelow : KF} (h_X8_isBelow : k_snd l D cI cS cM yX8_isBelow cX8_isBelow 2 (some .boolean) 1 2 F_X8_isBelow) : KS l D cI cS cM yX4_takesFigure.cls yX4_takesFigure.name cX4_takesFigure 2 (some .boolean) (k_rm 2 0 0) false 25 0 (b_X4_takesFigure_25 F_X8_isBelow) :=
  s_iload_n dX4_takesFigure_25 rfl <|
  s_push1 dX4_takesFigure_26 (by decide) (by decide) <|
  s_icmp_le dX4_takesFigure_27 (by decide) (s_X4_takesFigure_32 h_X8_isBelow) (s_X4_takesFigure_30 h_X8_isBelow)
noncomputable def b_X4_takesFigure_20 (F_X8_isBelow : KF) : KC := o_iload 1 <| o_push 1 <| o_c2 s_lt (b_X4_takesFigure_30 F_X8_isBelow) (b_X4_takesFigure_25 F_X8_isBelow)
set_option maxRecDepth 100000 in
theorem s_X4_takesFigure_20 {l : Launch} {D : va_G} {cI cS cM : ClassId} {F_X8_isBelow : KF} (h_X8_isBelow : k_snd l D cI cS cM yX8_isBelow cX8_isBelow 2 (some .boolean) 1 2 F_X8_isBelow) : KS l D cI cS cM yX4_takesFigure.cls yX4_takesFigure.name cX4_takesFigure 2 (some .boolean) (k_rm 2 0 0) false 20 0 (b_X4_takesFigure_20 F_X8_isBelow) :=
  s_iload_n dX4_takesFigure_20 rfl <|
  s_push1 dX4_takesFigure_21 (by decide) (by decide) <|
  s_icmp_lt dX4_takesFigure_22 (by decide) (s_X4_takesFigure_30 h_X8_isBelow) (s_X4_takesFigure_25 h_X8_isBelow)
noncomputable def b_X4_takesFigure_11 (F_X8_isBelow : KF) : KC := o_aload 0 <| o_get 4 5 <| o_push 110 <| o_c2 Nat.beq (b_X4_takesFigure_20 F_X8_isBelow) (b_X4_takesFigure_32 F_X8_isBelow)
set_option maxRecDepth 100000 in
theorem s_X4_takesFigure_11 {l : Launch} {D : va_G} {cI cS cM : ClassId} {F_X8_isBelow : KF} (h_X8_isBelow : k_snd l D cI cS cM yX8_isBelow cX8_isBelow 2 (some .boolean) 1 2 F_X8_isBelow) : KS l D cI cS cM yX4_takesFigure.cls yX4_takesFigure.name cX4_takesFigure 2 (some .boolean) (k_rm 2 0 0) false 11 0 (b_X4_takesFigure_11 F_X8_isBelow) :=
  s_aload_n dX4_takesFigure_11 rfl <|
  s_get dX4_takesFigure_12 (ci := 4) (sl := 5) (Cn := RX4) (Tf := TX4) (N := 10) rfl (by decide) kiX4 kw_3_6 <|
  s_push2 dX4_takesFigure_15 (by decide) (by decide) <|
  s_icmp_ne dX4_takesFigure_17 (by decide) (s_X4_takesFigure_32 h_X8_isBelow) (s_X4_takesFigure_20 h_X8_isBelow)
noncomputable def b_X4_takesFigure_9 (F_X8_isBelow : KF) : KC := o_push 0 <| o_zret
set_option maxRecDepth 100000 in
theorem s_X4_takesFigure_9 {l : Launch} {D : va_G} {cI cS cM : ClassId} {F_X8_isBelow : KF} (h_X8_isBelow : k_snd l D cI cS cM yX8_isBelow cX8_isBelow 2 (some .boolean) 1 2 F_X8_isBelow) : KS l D cI cS cM yX4_takesFigure.cls yX4_takesFigure.name cX4_takesFigure 2 (some .boolean) (k_rm 2 0 0) false 9 0 (b_X4_takesFigure_9 F_X8_isBelow) :=
  s_push1 dX4_takesFigure_9 (by decide) (by decide) <|
  s_zreturn dX4_takesFigure_10 rfl
noncomputable def b_X4_takesFigure_0 (F_X8_isBelow : KF) : KC := o_iload 1 <| o_push 10 <| o_cS1 2 F_X8_isBelow <| o_c1 g_eq (b_X4_takesFigure_9 F_X8_isBelow) (b_X4_takesFigure_11 F_X8_isBelow)
set_option maxRecDepth 100000 in
theorem s_X4_takesFigure_0 {l : Launch} {D : va_G} {cI cS cM : ClassId} {F_X8_isBelow : KF} (h_X8_isBelow : k_snd l D cI cS cM yX8_isBelow cX8_isBelow 2 (some .boolean) 1 2 F_X8_isBelow) : KS l D cI cS cM yX4_takesFigure.cls yX4_takesFigure.name cX4_takesFigure 2 (some .boolean) (k_rm 2 0 0) false 0 0 (b_X4_takesFigure_0 F_X8_isBelow) :=
  s_iload_n dX4_takesFigure_0 rfl <|
  s_push2 dX4_takesFigure_1 (by decide) (by decide) <|
  s_callN1 dX4_takesFigure_3 (List.mem_of_getElem? (i := 2) rfl) kw_8_14 ok_X8_isBelow (by decide) (by decide) h_X8_isBelow (by decide) <|
  s_if_ne dX4_takesFigure_6 (by decide) (s_X4_takesFigure_11 h_X8_isBelow) (s_X4_takesFigure_9 h_X8_isBelow)
noncomputable def m_X4_takesFigure (F_X8_isBelow : KF) : KF := k_fun [] (b_X4_takesFigure_0 F_X8_isBelow)
theorem r_X4_takesFigure {l : Launch} {D : va_G} {cI cS cM : ClassId} {F_X8_isBelow : KF} (h_X8_isBelow : k_snd l D cI cS cM yX8_isBelow cX8_isBelow 2 (some .boolean) 1 2 F_X8_isBelow) : k_snd l D cI cS cM yX4_takesFigure cX4_takesFigure 2 (some .boolean) 2 2 (m_X4_takesFigure F_X8_isBelow) :=
  k_method (by decide +kernel) (by simp) rfl (s_X4_takesFigure_0 h_X8_isBelow)
noncomputable def b_X4_obey_40 (F_X5_setPoints F_X5_addGenerator F_X5_dropGenerator : KF) : KC := o_aload 0 <| o_iload 2 <| o_cV1 2 5 F_X5_dropGenerator <| o_iret
set_option maxRecDepth 100000 in
theorem s_X4_obey_40 {l : Launch} {D : va_G} {cI cS cM : ClassId} {F_X5_setPoints F_X5_addGenerator F_X5_dropGenerator : KF} (h_X5_setPoints : k_snd l D cI cS cM yX5_setPoints cX5_setPoints 3 (some .int) 1 2 F_X5_setPoints) (h_X5_addGenerator : k_snd l D cI cS cM yX5_addGenerator cX5_addGenerator 2 (some .int) 2 2 F_X5_addGenerator) (h_X5_dropGenerator : k_snd l D cI cS cM yX5_dropGenerator cX5_dropGenerator 3 (some .int) 2 2 F_X5_dropGenerator) : KS l D cI cS cM yX4_obey.cls yX4_obey.name cX4_obey 3 (some .int) (k_rm 3 0 0) false 40 0 (b_X4_obey_40 F_X5_setPoints F_X5_addGenerator F_X5_dropGenerator) :=
  s_aload_n dX4_obey_40 rfl <|
  s_iload_n dX4_obey_41 rfl <|
  s_callV1 dX4_obey_42 kw_37_10 kw_11_19 kw_11_20 (ci := 5) rfl ok_X5_dropGenerator (by decide) (by decide) h_X5_dropGenerator (by decide) <|
  s_ireturn dX4_obey_45 rfl
noncomputable def b_X4_obey_34 (F_X5_setPoints F_X5_addGenerator F_X5_dropGenerator : KF) : KC := o_aload 0 <| o_iload 2 <| o_cV1 2 5 F_X5_addGenerator <| o_iret
set_option maxRecDepth 100000 in
theorem s_X4_obey_34 {l : Launch} {D : va_G} {cI cS cM : ClassId} {F_X5_setPoints F_X5_addGenerator F_X5_dropGenerator : KF} (h_X5_setPoints : k_snd l D cI cS cM yX5_setPoints cX5_setPoints 3 (some .int) 1 2 F_X5_setPoints) (h_X5_addGenerator : k_snd l D cI cS cM yX5_addGenerator cX5_addGenerator 2 (some .int) 2 2 F_X5_addGenerator) (h_X5_dropGenerator : k_snd l D cI cS cM yX5_dropGenerator cX5_dropGenerator 3 (some .int) 2 2 F_X5_dropGenerator) : KS l D cI cS cM yX4_obey.cls yX4_obey.name cX4_obey 3 (some .int) (k_rm 3 0 0) false 34 0 (b_X4_obey_34 F_X5_setPoints F_X5_addGenerator F_X5_dropGenerator) :=
  s_aload_n dX4_obey_34 rfl <|
  s_iload_n dX4_obey_35 rfl <|
  s_callV1 dX4_obey_36 kw_37_9 kw_10_15 kw_10_16 (ci := 5) rfl ok_X5_addGenerator (by decide) (by decide) h_X5_addGenerator (by decide) <|
  s_ireturn dX4_obey_39 rfl
noncomputable def b_X4_obey_28 (F_X5_setPoints F_X5_addGenerator F_X5_dropGenerator : KF) : KC := o_aload 0 <| o_iload 2 <| o_cV1 2 5 F_X5_setPoints <| o_iret
set_option maxRecDepth 100000 in
theorem s_X4_obey_28 {l : Launch} {D : va_G} {cI cS cM : ClassId} {F_X5_setPoints F_X5_addGenerator F_X5_dropGenerator : KF} (h_X5_setPoints : k_snd l D cI cS cM yX5_setPoints cX5_setPoints 3 (some .int) 1 2 F_X5_setPoints) (h_X5_addGenerator : k_snd l D cI cS cM yX5_addGenerator cX5_addGenerator 2 (some .int) 2 2 F_X5_addGenerator) (h_X5_dropGenerator : k_snd l D cI cS cM yX5_dropGenerator cX5_dropGenerator 3 (some .int) 2 2 F_X5_dropGenerator) : KS l D cI cS cM yX4_obey.cls yX4_obey.name cX4_obey 3 (some .int) (k_rm 3 0 0) false 28 0 (b_X4_obey_28 F_X5_setPoints F_X5_addGenerator F_X5_dropGenerator) :=
  s_aload_n dX4_obey_28 rfl <|
  s_iload_n dX4_obey_29 rfl <|
  s_callV1 dX4_obey_30 kw_37_8 kw_8_2 kw_8_3 (ci := 5) rfl ok_X5_setPoints (by decide) (by decide) h_X5_setPoints (by decide) <|
  s_ireturn dX4_obey_33 rfl
noncomputable def b_X4_obey_0 (F_X5_setPoints F_X5_addGenerator F_X5_dropGenerator : KF) : KC := o_iload 1 <| o_look 109 110 (b_X4_obey_34 F_X5_setPoints F_X5_addGenerator F_X5_dropGenerator) (b_X4_obey_28 F_X5_setPoints F_X5_addGenerator F_X5_dropGenerator) (b_X4_obey_40 F_X5_setPoints F_X5_addGenerator F_X5_dropGenerator)
set_option maxRecDepth 100000 in
theorem s_X4_obey_0 {l : Launch} {D : va_G} {cI cS cM : ClassId} {F_X5_setPoints F_X5_addGenerator F_X5_dropGenerator : KF} (h_X5_setPoints : k_snd l D cI cS cM yX5_setPoints cX5_setPoints 3 (some .int) 1 2 F_X5_setPoints) (h_X5_addGenerator : k_snd l D cI cS cM yX5_addGenerator cX5_addGenerator 2 (some .int) 2 2 F_X5_addGenerator) (h_X5_dropGenerator : k_snd l D cI cS cM yX5_dropGenerator cX5_dropGenerator 3 (some .int) 2 2 F_X5_dropGenerator) : KS l D cI cS cM yX4_obey.cls yX4_obey.name cX4_obey 3 (some .int) (k_rm 3 0 0) false 0 0 (b_X4_obey_0 F_X5_setPoints F_X5_addGenerator F_X5_dropGenerator) :=
  s_iload_n dX4_obey_0 rfl <|
  s_look dX4_obey_1 (by decide) (by decide) (by decide) (by decide) (by decide) (s_X4_obey_34 h_X5_setPoints h_X5_addGenerator h_X5_dropGenerator) (s_X4_obey_28 h_X5_setPoints h_X5_addGenerator h_X5_dropGenerator) (s_X4_obey_40 h_X5_setPoints h_X5_addGenerator h_X5_dropGenerator)
noncomputable def m_X4_obey (F_X5_setPoints F_X5_addGenerator F_X5_dropGenerator : KF) : KF := k_fun [] (b_X4_obey_0 F_X5_setPoints F_X5_addGenerator F_X5_dropGenerator)
theorem r_X4_obey {l : Launch} {D : va_G} {cI cS cM : ClassId} {F_X5_setPoints F_X5_addGenerator F_X5_dropGenerator : KF} (h_X5_setPoints : k_snd l D cI cS cM yX5_setPoints cX5_setPoints 3 (some .int) 1 2 F_X5_setPoints) (h_X5_addGenerator : k_snd l D cI cS cM yX5_addGenerator cX5_addGenerator 2 (some .int) 2 2 F_X5_addGenerator) (h_X5_dropGenerator : k_snd l D cI cS cM yX5_dropGenerator cX5_dropGenerator 3 (some .int) 2 2 F_X5_dropGenerator) : k_snd l D cI cS cM yX4_obey cX4_obey 3 (some .int) 3 3 (m_X4_obey F_X5_setPoints F_X5_addGenerator F_X5_dropGenerator) :=
  k_method (by decide +kernel) (by simp) rfl (s_X4_obey_0 h_X5_setPoints h_X5_addGenerator h_X5_dropGenerator)
noncomputable def b_X4_takes_36 (F_X4_opens F_X4_takesFigure F_X4_closes : KF) : KC := o_zret
set_option maxRecDepth 100000 in
theorem s_X4_takes_36 {l : Launch} {D : va_G} {cI cS cM : ClassId} {F_X4_opens F_X4_takesFigure F_X4_closes : KF} (h_X4_opens : k_snd l D cI cS cM yX4_opens cX4_opens 2 (some .boolean) 1 2 F_X4_opens) (h_X4_takesFigure : k_snd l D cI cS cM yX4_takesFigure cX4_takesFigure 2 (some .boolean) 2 2 F_X4_takesFigure) (h_X4_closes : k_snd l D cI cS cM yX4_closes cX4_closes 2 (some .boolean) 1 2 F_X4_closes) : KS l D cI cS cM yX4_takes.cls yX4_takes.name cX4_takes 2 (some .boolean) (k_rm 3 0 0) false 36 1 (b_X4_takes_36 F_X4_opens F_X4_takesFigure F_X4_closes) :=
  s_zreturn dX4_takes_36 rfl
noncomputable def b_X4_takes_31 (F_X4_opens F_X4_takesFigure F_X4_closes : KF) : KC := o_aload 0 <| o_iload 1 <| o_cV1 2 4 F_X4_closes <| b_X4_takes_36 F_X4_opens F_X4_takesFigure F_X4_closes
set_option maxRecDepth 100000 in
theorem s_X4_takes_31 {l : Launch} {D : va_G} {cI cS cM : ClassId} {F_X4_opens F_X4_takesFigure F_X4_closes : KF} (h_X4_opens : k_snd l D cI cS cM yX4_opens cX4_opens 2 (some .boolean) 1 2 F_X4_opens) (h_X4_takesFigure : k_snd l D cI cS cM yX4_takesFigure cX4_takesFigure 2 (some .boolean) 2 2 F_X4_takesFigure) (h_X4_closes : k_snd l D cI cS cM yX4_closes cX4_closes 2 (some .boolean) 1 2 F_X4_closes) : KS l D cI cS cM yX4_takes.cls yX4_takes.name cX4_takes 2 (some .boolean) (k_rm 3 0 0) false 31 0 (b_X4_takes_31 F_X4_opens F_X4_takesFigure F_X4_closes) :=
  s_aload_n dX4_takes_31 rfl <|
  s_iload_n dX4_takes_32 rfl <|
  s_callV1 dX4_takes_33 kw_37_1 kw_37_2 kw_37_3 (ci := 4) rfl ok_X4_closes (by decide) (by decide) h_X4_closes (by decide) <|
  s_X4_takes_36 h_X4_opens h_X4_takesFigure h_X4_closes
noncomputable def b_X4_takes_20 (F_X4_opens F_X4_takesFigure F_X4_closes : KF) : KC := o_aload 0 <| o_iload 1 <| o_push 48 <| o_bin n_sub <| o_cV1 2 4 F_X4_takesFigure <| b_X4_takes_36 F_X4_opens F_X4_takesFigure F_X4_closes
set_option maxRecDepth 100000 in
theorem s_X4_takes_20 {l : Launch} {D : va_G} {cI cS cM : ClassId} {F_X4_opens F_X4_takesFigure F_X4_closes : KF} (h_X4_opens : k_snd l D cI cS cM yX4_opens cX4_opens 2 (some .boolean) 1 2 F_X4_opens) (h_X4_takesFigure : k_snd l D cI cS cM yX4_takesFigure cX4_takesFigure 2 (some .boolean) 2 2 F_X4_takesFigure) (h_X4_closes : k_snd l D cI cS cM yX4_closes cX4_closes 2 (some .boolean) 1 2 F_X4_closes) : KS l D cI cS cM yX4_takes.cls yX4_takes.name cX4_takes 2 (some .boolean) (k_rm 3 0 0) false 20 0 (b_X4_takes_20 F_X4_opens F_X4_takesFigure F_X4_closes) :=
  s_aload_n dX4_takes_20 rfl <|
  s_iload_n dX4_takes_21 rfl <|
  s_push2 dX4_takes_22 (by decide) (by decide) <|
  s_isub dX4_takes_24 <|
  s_callV1 dX4_takes_25 kw_36_21 kw_36_22 kw_36_23 (ci := 4) rfl ok_X4_takesFigure (by decide) (by decide) h_X4_takesFigure (by decide) <|
  s_goto dX4_takes_28 (by decide) (s_X4_takes_36 h_X4_opens h_X4_takesFigure h_X4_closes)
noncomputable def b_X4_takes_13 (F_X4_opens F_X4_takesFigure F_X4_closes : KF) : KC := o_aload 0 <| o_get 4 7 <| o_c1 g_gt (b_X4_takes_20 F_X4_opens F_X4_takesFigure F_X4_closes) (b_X4_takes_31 F_X4_opens F_X4_takesFigure F_X4_closes)
set_option maxRecDepth 100000 in
theorem s_X4_takes_13 {l : Launch} {D : va_G} {cI cS cM : ClassId} {F_X4_opens F_X4_takesFigure F_X4_closes : KF} (h_X4_opens : k_snd l D cI cS cM yX4_opens cX4_opens 2 (some .boolean) 1 2 F_X4_opens) (h_X4_takesFigure : k_snd l D cI cS cM yX4_takesFigure cX4_takesFigure 2 (some .boolean) 2 2 F_X4_takesFigure) (h_X4_closes : k_snd l D cI cS cM yX4_closes cX4_closes 2 (some .boolean) 1 2 F_X4_closes) : KS l D cI cS cM yX4_takes.cls yX4_takes.name cX4_takes 2 (some .boolean) (k_rm 3 0 0) false 13 0 (b_X4_takes_13 F_X4_opens F_X4_takesFigure F_X4_closes) :=
  s_aload_n dX4_takes_13 rfl <|
  s_get dX4_takes_14 (ci := 4) (sl := 7) (Cn := RX4) (Tf := TX4) (N := 10) rfl (by decide) kiX4 kw_3_8 <|
  s_if_le dX4_takes_17 (by decide) (s_X4_takes_31 h_X4_opens h_X4_takesFigure h_X4_closes) (s_X4_takes_20 h_X4_opens h_X4_takesFigure h_X4_closes)
noncomputable def b_X4_takes_7 (F_X4_opens F_X4_takesFigure F_X4_closes : KF) : KC := o_aload 0 <| o_iload 1 <| o_cV1 2 4 F_X4_opens <| o_zret
set_option maxRecDepth 100000 in
theorem s_X4_takes_7 {l : Launch} {D : va_G} {cI cS cM : ClassId} {F_X4_opens F_X4_takesFigure F_X4_closes : KF} (h_X4_opens : k_snd l D cI cS cM yX4_opens cX4_opens 2 (some .boolean) 1 2 F_X4_opens) (h_X4_takesFigure : k_snd l D cI cS cM yX4_takesFigure cX4_takesFigure 2 (some .boolean) 2 2 F_X4_takesFigure) (h_X4_closes : k_snd l D cI cS cM yX4_closes cX4_closes 2 (some .boolean) 1 2 F_X4_closes) : KS l D cI cS cM yX4_takes.cls yX4_takes.name cX4_takes 2 (some .boolean) (k_rm 3 0 0) false 7 0 (b_X4_takes_7 F_X4_opens F_X4_takesFigure F_X4_closes) :=
  s_aload_n dX4_takes_7 rfl <|
  s_iload_n dX4_takes_8 rfl <|
  s_callV1 dX4_takes_9 kw_36_17 kw_36_18 kw_36_19 (ci := 4) rfl ok_X4_opens (by decide) (by decide) h_X4_opens (by decide) <|
  s_zreturn dX4_takes_12 rfl
noncomputable def b_X4_takes_0 (F_X4_opens F_X4_takesFigure F_X4_closes : KF) : KC := o_aload 0 <| o_get 4 5 <| o_c1 g_eq (b_X4_takes_7 F_X4_opens F_X4_takesFigure F_X4_closes) (b_X4_takes_13 F_X4_opens F_X4_takesFigure F_X4_closes)
set_option maxRecDepth 100000 in
theorem s_X4_takes_0 {l : Launch} {D : va_G} {cI cS cM : ClassId} {F_X4_opens F_X4_takesFigure F_X4_closes : KF} (h_X4_opens : k_snd l D cI cS cM yX4_opens cX4_opens 2 (some .boolean) 1 2 F_X4_opens) (h_X4_takesFigure : k_snd l D cI cS cM yX4_takesFigure cX4_takesFigure 2 (some .boolean) 2 2 F_X4_takesFigure) (h_X4_closes : k_snd l D cI cS cM yX4_closes cX4_closes 2 (some .boolean) 1 2 F_X4_closes) : KS l D cI cS cM yX4_takes.cls yX4_takes.name cX4_takes 2 (some .boolean) (k_rm 3 0 0) false 0 0 (b_X4_takes_0 F_X4_opens F_X4_takesFigure F_X4_closes) :=
  s_aload_n dX4_takes_0 rfl <|
  s_get dX4_takes_1 (ci := 4) (sl := 5) (Cn := RX4) (Tf := TX4) (N := 10) rfl (by decide) kiX4 kw_3_6 <|
  s_if_ne dX4_takes_4 (by decide) (s_X4_takes_13 h_X4_opens h_X4_takesFigure h_X4_closes) (s_X4_takes_7 h_X4_opens h_X4_takesFigure h_X4_closes)
noncomputable def m_X4_takes (F_X4_opens F_X4_takesFigure F_X4_closes : KF) : KF := k_fun [] (b_X4_takes_0 F_X4_opens F_X4_takesFigure F_X4_closes)
theorem r_X4_takes {l : Launch} {D : va_G} {cI cS cM : ClassId} {F_X4_opens F_X4_takesFigure F_X4_closes : KF} (h_X4_opens : k_snd l D cI cS cM yX4_opens cX4_opens 2 (some .boolean) 1 2 F_X4_opens) (h_X4_takesFigure : k_snd l D cI cS cM yX4_takesFigure cX4_takesFigure 2 (some .boolean) 2 2 F_X4_takesFigure) (h_X4_closes : k_snd l D cI cS cM yX4_closes cX4_closes 2 (some .boolean) 1 2 F_X4_closes) : k_snd l D cI cS cM yX4_takes cX4_takes 2 (some .boolean) 3 2 (m_X4_takes F_X4_opens F_X4_takesFigure F_X4_closes) :=
  k_method (by decide +kernel) (by simp) rfl (s_X4_takes_0 h_X4_opens h_X4_takesFigure h_X4_closes)
noncomputable def b_X4_findFault_76 (F_X4_takes : KF) (J : List KC) : KC := o_iret
set_option maxRecDepth 100000 in
theorem s_X4_findFault_76 {l : Launch} {D : va_G} {cI cS cM : ClassId} {F_X4_takes : KF} (h_X4_takes : k_snd l D cI cS cM yX4_takes cX4_takes 2 (some .boolean) 3 2 F_X4_takes) {J : List KC} (hJ : ∀ (i pc d : Nat), ([(17, 0)] : List (Nat × Nat))[i]? = some (pc, d) → KS l D cI cS cM yX4_findFault.cls yX4_findFault.name cX4_findFault 4 (some .int) (k_rm 4 0 0) false pc d (k_jmp J i)) : KS l D cI cS cM yX4_findFault.cls yX4_findFault.name cX4_findFault 4 (some .int) (k_rm 4 0 0) false 76 1 (b_X4_findFault_76 F_X4_takes J) :=
  s_ireturn dX4_findFault_76 rfl
noncomputable def b_X4_findFault_72 (F_X4_takes : KF) (J : List KC) : KC := o_aload 0 <| o_get 4 0 <| b_X4_findFault_76 F_X4_takes J
set_option maxRecDepth 100000 in
theorem s_X4_findFault_72 {l : Launch} {D : va_G} {cI cS cM : ClassId} {F_X4_takes : KF} (h_X4_takes : k_snd l D cI cS cM yX4_takes cX4_takes 2 (some .boolean) 3 2 F_X4_takes) {J : List KC} (hJ : ∀ (i pc d : Nat), ([(17, 0)] : List (Nat × Nat))[i]? = some (pc, d) → KS l D cI cS cM yX4_findFault.cls yX4_findFault.name cX4_findFault 4 (some .int) (k_rm 4 0 0) false pc d (k_jmp J i)) : KS l D cI cS cM yX4_findFault.cls yX4_findFault.name cX4_findFault 4 (some .int) (k_rm 4 0 0) false 72 0 (b_X4_findFault_72 F_X4_takes J) :=
  s_aload_n dX4_findFault_72 rfl <|
  s_get dX4_findFault_73 (ci := 4) (sl := 0) (Cn := RX4) (Tf := TX4) (N := 10) rfl (by decide) kiX4 kw_3_1 <|
  s_X4_findFault_76 h_X4_takes hJ
noncomputable def b_X4_findFault_68 (F_X4_takes : KF) (J : List KC) : KC := o_push 4294967295 <| b_X4_findFault_76 F_X4_takes J
set_option maxRecDepth 100000 in
theorem s_X4_findFault_68 {l : Launch} {D : va_G} {cI cS cM : ClassId} {F_X4_takes : KF} (h_X4_takes : k_snd l D cI cS cM yX4_takes cX4_takes 2 (some .boolean) 3 2 F_X4_takes) {J : List KC} (hJ : ∀ (i pc d : Nat), ([(17, 0)] : List (Nat × Nat))[i]? = some (pc, d) → KS l D cI cS cM yX4_findFault.cls yX4_findFault.name cX4_findFault 4 (some .int) (k_rm 4 0 0) false pc d (k_jmp J i)) : KS l D cI cS cM yX4_findFault.cls yX4_findFault.name cX4_findFault 4 (some .int) (k_rm 4 0 0) false 68 0 (b_X4_findFault_68 F_X4_takes J) :=
  s_push1 dX4_findFault_68 (by decide) (by decide) <|
  s_goto dX4_findFault_69 (by decide) (s_X4_findFault_76 h_X4_takes hJ)
noncomputable def b_X4_findFault_61 (F_X4_takes : KF) (J : List KC) : KC := o_aload 0 <| o_get 4 4 <| o_c1 g_gt (b_X4_findFault_68 F_X4_takes J) (b_X4_findFault_72 F_X4_takes J)
set_option maxRecDepth 100000 in
theorem s_X4_findFault_61 {l : Launch} {D : va_G} {cI cS cM : ClassId} {F_X4_takes : KF} (h_X4_takes : k_snd l D cI cS cM yX4_takes cX4_takes 2 (some .boolean) 3 2 F_X4_takes) {J : List KC} (hJ : ∀ (i pc d : Nat), ([(17, 0)] : List (Nat × Nat))[i]? = some (pc, d) → KS l D cI cS cM yX4_findFault.cls yX4_findFault.name cX4_findFault 4 (some .int) (k_rm 4 0 0) false pc d (k_jmp J i)) : KS l D cI cS cM yX4_findFault.cls yX4_findFault.name cX4_findFault 4 (some .int) (k_rm 4 0 0) false 61 0 (b_X4_findFault_61 F_X4_takes J) :=
  s_aload_n dX4_findFault_61 rfl <|
  s_get dX4_findFault_62 (ci := 4) (sl := 4) (Cn := RX4) (Tf := TX4) (N := 10) rfl (by decide) kiX4 kw_3_5 <|
  s_if_le dX4_findFault_65 (by decide) (s_X4_findFault_72 h_X4_takes hJ) (s_X4_findFault_68 h_X4_takes hJ)
noncomputable def b_X4_findFault_54 (F_X4_takes : KF) (J : List KC) : KC := o_aload 0 <| o_get 4 5 <| o_c1 g_eq (b_X4_findFault_61 F_X4_takes J) (b_X4_findFault_72 F_X4_takes J)
set_option maxRecDepth 100000 in
theorem s_X4_findFault_54 {l : Launch} {D : va_G} {cI cS cM : ClassId} {F_X4_takes : KF} (h_X4_takes : k_snd l D cI cS cM yX4_takes cX4_takes 2 (some .boolean) 3 2 F_X4_takes) {J : List KC} (hJ : ∀ (i pc d : Nat), ([(17, 0)] : List (Nat × Nat))[i]? = some (pc, d) → KS l D cI cS cM yX4_findFault.cls yX4_findFault.name cX4_findFault 4 (some .int) (k_rm 4 0 0) false pc d (k_jmp J i)) : KS l D cI cS cM yX4_findFault.cls yX4_findFault.name cX4_findFault 4 (some .int) (k_rm 4 0 0) false 54 0 (b_X4_findFault_54 F_X4_takes J) :=
  s_aload_n dX4_findFault_54 rfl <|
  s_get dX4_findFault_55 (ci := 4) (sl := 5) (Cn := RX4) (Tf := TX4) (N := 10) rfl (by decide) kiX4 kw_3_6 <|
  s_if_ne dX4_findFault_58 (by decide) (s_X4_findFault_72 h_X4_takes hJ) (s_X4_findFault_61 h_X4_takes hJ)
noncomputable def b_X4_findFault_48 (F_X4_takes : KF) (J : List KC) : KC := o_iinc 2 1 <| k_jmp J 0
set_option maxRecDepth 100000 in
theorem s_X4_findFault_48 {l : Launch} {D : va_G} {cI cS cM : ClassId} {F_X4_takes : KF} (h_X4_takes : k_snd l D cI cS cM yX4_takes cX4_takes 2 (some .boolean) 3 2 F_X4_takes) {J : List KC} (hJ : ∀ (i pc d : Nat), ([(17, 0)] : List (Nat × Nat))[i]? = some (pc, d) → KS l D cI cS cM yX4_findFault.cls yX4_findFault.name cX4_findFault 4 (some .int) (k_rm 4 0 0) false pc d (k_jmp J i)) : KS l D cI cS cM yX4_findFault.cls yX4_findFault.name cX4_findFault 4 (some .int) (k_rm 4 0 0) false 48 0 (b_X4_findFault_48 F_X4_takes J) :=
  s_iinc dX4_findFault_48 (by decide) (by decide) <|
  s_goto dX4_findFault_51 (by decide) (hJ 0 _ _ rfl)
noncomputable def b_X4_findFault_46 (F_X4_takes : KF) (J : List KC) : KC := o_iload 2 <| o_iret
set_option maxRecDepth 100000 in
theorem s_X4_findFault_46 {l : Launch} {D : va_G} {cI cS cM : ClassId} {F_X4_takes : KF} (h_X4_takes : k_snd l D cI cS cM yX4_takes cX4_takes 2 (some .boolean) 3 2 F_X4_takes) {J : List KC} (hJ : ∀ (i pc d : Nat), ([(17, 0)] : List (Nat × Nat))[i]? = some (pc, d) → KS l D cI cS cM yX4_findFault.cls yX4_findFault.name cX4_findFault 4 (some .int) (k_rm 4 0 0) false pc d (k_jmp J i)) : KS l D cI cS cM yX4_findFault.cls yX4_findFault.name cX4_findFault 4 (some .int) (k_rm 4 0 0) false 46 0 (b_X4_findFault_46 F_X4_takes J) :=
  s_iload_n dX4_findFault_46 rfl <|
  s_ireturn dX4_findFault_47 rfl
noncomputable def b_X4_findFault_38 (F_X4_takes : KF) (J : List KC) : KC := o_aload 0 <| o_iload 3 <| o_cV1 2 4 F_X4_takes <| o_c1 g_eq (b_X4_findFault_46 F_X4_takes J) (b_X4_findFault_48 F_X4_takes J)
set_option maxRecDepth 100000 in
theorem s_X4_findFault_38 {l : Launch} {D : va_G} {cI cS cM : ClassId} {F_X4_takes : KF} (h_X4_takes : k_snd l D cI cS cM yX4_takes cX4_takes 2 (some .boolean) 3 2 F_X4_takes) {J : List KC} (hJ : ∀ (i pc d : Nat), ([(17, 0)] : List (Nat × Nat))[i]? = some (pc, d) → KS l D cI cS cM yX4_findFault.cls yX4_findFault.name cX4_findFault 4 (some .int) (k_rm 4 0 0) false pc d (k_jmp J i)) : KS l D cI cS cM yX4_findFault.cls yX4_findFault.name cX4_findFault 4 (some .int) (k_rm 4 0 0) false 38 0 (b_X4_findFault_38 F_X4_takes J) :=
  s_aload_n dX4_findFault_38 rfl <|
  s_iload_n dX4_findFault_39 rfl <|
  s_callV1 dX4_findFault_40 kw_36_13 kw_36_14 kw_36_15 (ci := 4) rfl ok_X4_takes (by decide) (by decide) h_X4_takes (by decide) <|
  s_if_ne dX4_findFault_43 (by decide) (s_X4_findFault_48 h_X4_takes hJ) (s_X4_findFault_46 h_X4_takes hJ)
noncomputable def b_X4_findFault_25 (F_X4_takes : KF) (J : List KC) : KC := o_aload 0 <| o_get 4 1 <| o_iload 2 <| o_iald <| o_istore 3 <| o_iload 3 <| o_push 32 <| o_c2 Nat.beq (b_X4_findFault_48 F_X4_takes J) (b_X4_findFault_38 F_X4_takes J)
set_option maxRecDepth 100000 in
theorem s_X4_findFault_25 {l : Launch} {D : va_G} {cI cS cM : ClassId} {F_X4_takes : KF} (h_X4_takes : k_snd l D cI cS cM yX4_takes cX4_takes 2 (some .boolean) 3 2 F_X4_takes) {J : List KC} (hJ : ∀ (i pc d : Nat), ([(17, 0)] : List (Nat × Nat))[i]? = some (pc, d) → KS l D cI cS cM yX4_findFault.cls yX4_findFault.name cX4_findFault 4 (some .int) (k_rm 4 0 0) false pc d (k_jmp J i)) : KS l D cI cS cM yX4_findFault.cls yX4_findFault.name cX4_findFault 4 (some .int) (k_rm 4 0 0) false 25 0 (b_X4_findFault_25 F_X4_takes J) :=
  s_aload_n dX4_findFault_25 rfl <|
  s_get dX4_findFault_26 (ci := 4) (sl := 1) (Cn := RX4) (Tf := TX4) (N := 10) rfl (by decide) kiX4 kw_3_2 <|
  s_iload_n dX4_findFault_29 rfl <|
  s_iald dX4_findFault_30 <|
  s_istore_n dX4_findFault_31 rfl (by decide) <|
  s_iload_n dX4_findFault_32 rfl <|
  s_push2 dX4_findFault_33 (by decide) (by decide) <|
  s_icmp_eq dX4_findFault_35 (by decide) (s_X4_findFault_48 h_X4_takes hJ) (s_X4_findFault_38 h_X4_takes hJ)
noncomputable def b_X4_findFault_17 (F_X4_takes : KF) (J : List KC) : KC := o_iload 2 <| o_aload 0 <| o_get 4 0 <| o_c2 s_lt (b_X4_findFault_25 F_X4_takes J) (b_X4_findFault_54 F_X4_takes J)
set_option maxRecDepth 100000 in
theorem s_X4_findFault_17 {l : Launch} {D : va_G} {cI cS cM : ClassId} {F_X4_takes : KF} (h_X4_takes : k_snd l D cI cS cM yX4_takes cX4_takes 2 (some .boolean) 3 2 F_X4_takes) {J : List KC} (hJ : ∀ (i pc d : Nat), ([(17, 0)] : List (Nat × Nat))[i]? = some (pc, d) → KS l D cI cS cM yX4_findFault.cls yX4_findFault.name cX4_findFault 4 (some .int) (k_rm 4 0 0) false pc d (k_jmp J i)) : KS l D cI cS cM yX4_findFault.cls yX4_findFault.name cX4_findFault 4 (some .int) (k_rm 4 0 0) false 17 0 (b_X4_findFault_17 F_X4_takes J) :=
  s_iload_n dX4_findFault_17 rfl <|
  s_aload_n dX4_findFault_18 rfl <|
  s_get dX4_findFault_19 (ci := 4) (sl := 0) (Cn := RX4) (Tf := TX4) (N := 10) rfl (by decide) kiX4 kw_3_1 <|
  s_icmp_ge dX4_findFault_22 (by decide) (s_X4_findFault_54 h_X4_takes hJ) (s_X4_findFault_25 h_X4_takes hJ)
noncomputable def b_X4_findFault_0 (F_X4_takes : KF) (J : List KC) : KC := o_aload 0 <| o_push 0 <| o_puti 4 4 <| o_aload 0 <| o_push 0 <| o_puti 4 5 <| o_aload 0 <| o_iload 1 <| o_puti 4 9 <| o_push 0 <| o_istore 2 <| b_X4_findFault_17 F_X4_takes J
set_option maxRecDepth 100000 in
theorem s_X4_findFault_0 {l : Launch} {D : va_G} {cI cS cM : ClassId} {F_X4_takes : KF} (h_X4_takes : k_snd l D cI cS cM yX4_takes cX4_takes 2 (some .boolean) 3 2 F_X4_takes) {J : List KC} (hJ : ∀ (i pc d : Nat), ([(17, 0)] : List (Nat × Nat))[i]? = some (pc, d) → KS l D cI cS cM yX4_findFault.cls yX4_findFault.name cX4_findFault 4 (some .int) (k_rm 4 0 0) false pc d (k_jmp J i)) : KS l D cI cS cM yX4_findFault.cls yX4_findFault.name cX4_findFault 4 (some .int) (k_rm 4 0 0) false 0 0 (b_X4_findFault_0 F_X4_takes J) :=
  s_aload_n dX4_findFault_0 rfl <|
  s_push1 dX4_findFault_1 (by decide) (by decide) <|
  s_puti dX4_findFault_2 (ci := 4) (sl := 4) (Cn := RX4) (Tf := TX4) (N := 10) (tyf := tyX4) rfl (by decide) kiX4 tyX4_ok nmX4 kw_3_5 rfl rfl <|
  s_aload_n dX4_findFault_5 rfl <|
  s_push1 dX4_findFault_6 (by decide) (by decide) <|
  s_puti dX4_findFault_7 (ci := 4) (sl := 5) (Cn := RX4) (Tf := TX4) (N := 10) (tyf := tyX4) rfl (by decide) kiX4 tyX4_ok nmX4 kw_3_6 rfl rfl <|
  s_aload_n dX4_findFault_10 rfl <|
  s_iload_n dX4_findFault_11 rfl <|
  s_puti dX4_findFault_12 (ci := 4) (sl := 9) (Cn := RX4) (Tf := TX4) (N := 10) (tyf := tyX4) rfl (by decide) kiX4 tyX4_ok nmX4 kw_3_10 rfl rfl <|
  s_push1 dX4_findFault_15 (by decide) (by decide) <|
  s_istore_n dX4_findFault_16 rfl (by decide) <|
  s_X4_findFault_17 h_X4_takes hJ
noncomputable def j_X4_findFault (F_X4_takes : KF) (J : List KC) : List KC := [b_X4_findFault_17 F_X4_takes J]
noncomputable def m_X4_findFault (F_X4_takes : KF) (n : Nat) : KF := k_fun [k_u, k_u] (b_X4_findFault_0 F_X4_takes (k_loop (j_X4_findFault F_X4_takes) n))
theorem r_X4_findFault {l : Launch} {D : va_G} {cI cS cM : ClassId} {F_X4_takes : KF} (h_X4_takes : k_snd l D cI cS cM yX4_takes cX4_takes 2 (some .boolean) 3 2 F_X4_takes) (n : Nat) : k_snd l D cI cS cM yX4_findFault cX4_findFault 4 (some .int) 4 2 (m_X4_findFault F_X4_takes n) :=
  k_method (by decide +kernel) (by simp) rfl (s_X4_findFault_0 h_X4_takes (k_loops (hs := [(17, 0)]) (fun J hJ i pc d h => match i, h with | 0, h => by cases h; exact s_X4_findFault_17 h_X4_takes hJ | _ + 1, h => by simp at h) n))
noncomputable def b_X4_carryOut_60 (F_X4_findFault F_X4_obey : KF) (J : List KC) : KC := o_aload 0 <| o_get 4 4 <| o_iret
set_option maxRecDepth 100000 in
theorem s_X4_carryOut_60 {l : Launch} {D : va_G} {cI cS cM : ClassId} {F_X4_findFault F_X4_obey : KF} (h_X4_findFault : k_snd l D cI cS cM yX4_findFault cX4_findFault 4 (some .int) 4 2 F_X4_findFault) (h_X4_obey : k_snd l D cI cS cM yX4_obey cX4_obey 3 (some .int) 3 3 F_X4_obey) {J : List KC} (hJ : ∀ (i pc d : Nat), ([(21, 0)] : List (Nat × Nat))[i]? = some (pc, d) → KS l D cI cS cM yX4_carryOut.cls yX4_carryOut.name cX4_carryOut 4 (some .int) (k_rm 5 0 0) false pc d (k_jmp J i)) : KS l D cI cS cM yX4_carryOut.cls yX4_carryOut.name cX4_carryOut 4 (some .int) (k_rm 5 0 0) false 60 0 (b_X4_carryOut_60 F_X4_findFault F_X4_obey J) :=
  s_aload_n dX4_carryOut_60 rfl <|
  s_get dX4_carryOut_61 (ci := 4) (sl := 4) (Cn := RX4) (Tf := TX4) (N := 10) rfl (by decide) kiX4 kw_3_5 <|
  s_ireturn dX4_carryOut_64 rfl
noncomputable def b_X4_carryOut_54 (F_X4_findFault F_X4_obey : KF) (J : List KC) : KC := o_iinc 3 1 <| k_jmp J 0
set_option maxRecDepth 100000 in
theorem s_X4_carryOut_54 {l : Launch} {D : va_G} {cI cS cM : ClassId} {F_X4_findFault F_X4_obey : KF} (h_X4_findFault : k_snd l D cI cS cM yX4_findFault cX4_findFault 4 (some .int) 4 2 F_X4_findFault) (h_X4_obey : k_snd l D cI cS cM yX4_obey cX4_obey 3 (some .int) 3 3 F_X4_obey) {J : List KC} (hJ : ∀ (i pc d : Nat), ([(21, 0)] : List (Nat × Nat))[i]? = some (pc, d) → KS l D cI cS cM yX4_carryOut.cls yX4_carryOut.name cX4_carryOut 4 (some .int) (k_rm 5 0 0) false pc d (k_jmp J i)) : KS l D cI cS cM yX4_carryOut.cls yX4_carryOut.name cX4_carryOut 4 (some .int) (k_rm 5 0 0) false 54 0 (b_X4_carryOut_54 F_X4_findFault F_X4_obey J) :=
  s_iinc dX4_carryOut_54 (by decide) (by decide) <|
  s_goto dX4_carryOut_57 (by decide) (hJ 0 _ _ rfl)
noncomputable def b_X4_carryOut_48 (F_X4_findFault F_X4_obey : KF) (J : List KC) : KC := o_push 4294966296 <| o_iload 3 <| o_bin n_sub <| o_iret
set_option maxRecDepth 100000 in
theorem s_X4_carryOut_48 {l : Launch} {D : va_G} {cI cS cM : ClassId} {F_X4_findFault F_X4_obey : KF} (h_X4_findFault : k_snd l D cI cS cM yX4_findFault cX4_findFault 4 (some .int) 4 2 F_X4_findFault) (h_X4_obey : k_snd l D cI cS cM yX4_obey cX4_obey 3 (some .int) 3 3 F_X4_obey) {J : List KC} (hJ : ∀ (i pc d : Nat), ([(21, 0)] : List (Nat × Nat))[i]? = some (pc, d) → KS l D cI cS cM yX4_carryOut.cls yX4_carryOut.name cX4_carryOut 4 (some .int) (k_rm 5 0 0) false pc d (k_jmp J i)) : KS l D cI cS cM yX4_carryOut.cls yX4_carryOut.name cX4_carryOut 4 (some .int) (k_rm 5 0 0) false 48 0 (b_X4_carryOut_48 F_X4_findFault F_X4_obey J) :=
  s_push3 dX4_carryOut_48 (by decide) (by decide) <|
  s_iload_n dX4_carryOut_51 rfl <|
  s_isub dX4_carryOut_52 <|
  s_ireturn dX4_carryOut_53 rfl
noncomputable def b_X4_carryOut_29 (F_X4_findFault F_X4_obey : KF) (J : List KC) : KC := o_aload 1 <| o_aload 0 <| o_get 4 2 <| o_iload 3 <| o_iald <| o_aload 0 <| o_get 4 3 <| o_iload 3 <| o_iald <| o_cS1 3 F_X4_obey <| o_c1 g_lt (b_X4_carryOut_48 F_X4_findFault F_X4_obey J) (b_X4_carryOut_54 F_X4_findFault F_X4_obey J)
set_option maxRecDepth 100000 in
theorem s_X4_carryOut_29 {l : Launch} {D : va_G} {cI cS cM : ClassId} {F_X4_findFault F_X4_obey : KF} (h_X4_findFault : k_snd l D cI cS cM yX4_findFault cX4_findFault 4 (some .int) 4 2 F_X4_findFault) (h_X4_obey : k_snd l D cI cS cM yX4_obey cX4_obey 3 (some .int) 3 3 F_X4_obey) {J : List KC} (hJ : ∀ (i pc d : Nat), ([(21, 0)] : List (Nat × Nat))[i]? = some (pc, d) → KS l D cI cS cM yX4_carryOut.cls yX4_carryOut.name cX4_carryOut 4 (some .int) (k_rm 5 0 0) false pc d (k_jmp J i)) : KS l D cI cS cM yX4_carryOut.cls yX4_carryOut.name cX4_carryOut 4 (some .int) (k_rm 5 0 0) false 29 0 (b_X4_carryOut_29 F_X4_findFault F_X4_obey J) :=
  s_aload_n dX4_carryOut_29 rfl <|
  s_aload_n dX4_carryOut_30 rfl <|
  s_get dX4_carryOut_31 (ci := 4) (sl := 2) (Cn := RX4) (Tf := TX4) (N := 10) rfl (by decide) kiX4 kw_3_3 <|
  s_iload_n dX4_carryOut_34 rfl <|
  s_iald dX4_carryOut_35 <|
  s_aload_n dX4_carryOut_36 rfl <|
  s_get dX4_carryOut_37 (ci := 4) (sl := 3) (Cn := RX4) (Tf := TX4) (N := 10) rfl (by decide) kiX4 kw_3_4 <|
  s_iload_n dX4_carryOut_40 rfl <|
  s_iald dX4_carryOut_41 <|
  s_callS1 dX4_carryOut_42 kw_37_5 kw_37_6 ok_X4_obey (by decide) (by decide) h_X4_obey (by decide) <|
  s_if_ge dX4_carryOut_45 (by decide) (s_X4_carryOut_54 h_X4_findFault h_X4_obey hJ) (s_X4_carryOut_48 h_X4_findFault h_X4_obey hJ)
noncomputable def b_X4_carryOut_21 (F_X4_findFault F_X4_obey : KF) (J : List KC) : KC := o_iload 3 <| o_aload 0 <| o_get 4 4 <| o_c2 s_lt (b_X4_carryOut_29 F_X4_findFault F_X4_obey J) (b_X4_carryOut_60 F_X4_findFault F_X4_obey J)
set_option maxRecDepth 100000 in
theorem s_X4_carryOut_21 {l : Launch} {D : va_G} {cI cS cM : ClassId} {F_X4_findFault F_X4_obey : KF} (h_X4_findFault : k_snd l D cI cS cM yX4_findFault cX4_findFault 4 (some .int) 4 2 F_X4_findFault) (h_X4_obey : k_snd l D cI cS cM yX4_obey cX4_obey 3 (some .int) 3 3 F_X4_obey) {J : List KC} (hJ : ∀ (i pc d : Nat), ([(21, 0)] : List (Nat × Nat))[i]? = some (pc, d) → KS l D cI cS cM yX4_carryOut.cls yX4_carryOut.name cX4_carryOut 4 (some .int) (k_rm 5 0 0) false pc d (k_jmp J i)) : KS l D cI cS cM yX4_carryOut.cls yX4_carryOut.name cX4_carryOut 4 (some .int) (k_rm 5 0 0) false 21 0 (b_X4_carryOut_21 F_X4_findFault F_X4_obey J) :=
  s_iload_n dX4_carryOut_21 rfl <|
  s_aload_n dX4_carryOut_22 rfl <|
  s_get dX4_carryOut_23 (ci := 4) (sl := 4) (Cn := RX4) (Tf := TX4) (N := 10) rfl (by decide) kiX4 kw_3_5 <|
  s_icmp_ge dX4_carryOut_26 (by decide) (s_X4_carryOut_60 h_X4_findFault h_X4_obey hJ) (s_X4_carryOut_29 h_X4_findFault h_X4_obey hJ)
noncomputable def b_X4_carryOut_19 (F_X4_findFault F_X4_obey : KF) (J : List KC) : KC := o_push 0 <| o_istore 3 <| b_X4_carryOut_21 F_X4_findFault F_X4_obey J
set_option maxRecDepth 100000 in
theorem s_X4_carryOut_19 {l : Launch} {D : va_G} {cI cS cM : ClassId} {F_X4_findFault F_X4_obey : KF} (h_X4_findFault : k_snd l D cI cS cM yX4_findFault cX4_findFault 4 (some .int) 4 2 F_X4_findFault) (h_X4_obey : k_snd l D cI cS cM yX4_obey cX4_obey 3 (some .int) 3 3 F_X4_obey) {J : List KC} (hJ : ∀ (i pc d : Nat), ([(21, 0)] : List (Nat × Nat))[i]? = some (pc, d) → KS l D cI cS cM yX4_carryOut.cls yX4_carryOut.name cX4_carryOut 4 (some .int) (k_rm 5 0 0) false pc d (k_jmp J i)) : KS l D cI cS cM yX4_carryOut.cls yX4_carryOut.name cX4_carryOut 4 (some .int) (k_rm 5 0 0) false 19 0 (b_X4_carryOut_19 F_X4_findFault F_X4_obey J) :=
  s_push1 dX4_carryOut_19 (by decide) (by decide) <|
  s_istore_n dX4_carryOut_20 rfl (by decide) <|
  s_X4_carryOut_21 h_X4_findFault h_X4_obey hJ
noncomputable def b_X4_carryOut_14 (F_X4_findFault F_X4_obey : KF) (J : List KC) : KC := o_push 4294967286 <| o_iload 2 <| o_bin n_sub <| o_iret
set_option maxRecDepth 100000 in
theorem s_X4_carryOut_14 {l : Launch} {D : va_G} {cI cS cM : ClassId} {F_X4_findFault F_X4_obey : KF} (h_X4_findFault : k_snd l D cI cS cM yX4_findFault cX4_findFault 4 (some .int) 4 2 F_X4_findFault) (h_X4_obey : k_snd l D cI cS cM yX4_obey cX4_obey 3 (some .int) 3 3 F_X4_obey) {J : List KC} (hJ : ∀ (i pc d : Nat), ([(21, 0)] : List (Nat × Nat))[i]? = some (pc, d) → KS l D cI cS cM yX4_carryOut.cls yX4_carryOut.name cX4_carryOut 4 (some .int) (k_rm 5 0 0) false pc d (k_jmp J i)) : KS l D cI cS cM yX4_carryOut.cls yX4_carryOut.name cX4_carryOut 4 (some .int) (k_rm 5 0 0) false 14 0 (b_X4_carryOut_14 F_X4_findFault F_X4_obey J) :=
  s_push2 dX4_carryOut_14 (by decide) (by decide) <|
  s_iload_n dX4_carryOut_16 rfl <|
  s_isub dX4_carryOut_17 <|
  s_ireturn dX4_carryOut_18 rfl
noncomputable def b_X4_carryOut_0 (F_X4_findFault F_X4_obey : KF) (J : List KC) : KC := o_aload 0 <| o_aload 1 <| o_get 5 0 <| o_cV1 2 4 F_X4_findFault <| o_istore 2 <| o_iload 2 <| o_push 4294967295 <| o_c2 Nat.beq (b_X4_carryOut_19 F_X4_findFault F_X4_obey J) (b_X4_carryOut_14 F_X4_findFault F_X4_obey J)
set_option maxRecDepth 100000 in
theorem s_X4_carryOut_0 {l : Launch} {D : va_G} {cI cS cM : ClassId} {F_X4_findFault F_X4_obey : KF} (h_X4_findFault : k_snd l D cI cS cM yX4_findFault cX4_findFault 4 (some .int) 4 2 F_X4_findFault) (h_X4_obey : k_snd l D cI cS cM yX4_obey cX4_obey 3 (some .int) 3 3 F_X4_obey) {J : List KC} (hJ : ∀ (i pc d : Nat), ([(21, 0)] : List (Nat × Nat))[i]? = some (pc, d) → KS l D cI cS cM yX4_carryOut.cls yX4_carryOut.name cX4_carryOut 4 (some .int) (k_rm 5 0 0) false pc d (k_jmp J i)) : KS l D cI cS cM yX4_carryOut.cls yX4_carryOut.name cX4_carryOut 4 (some .int) (k_rm 5 0 0) false 0 0 (b_X4_carryOut_0 F_X4_findFault F_X4_obey J) :=
  s_aload_n dX4_carryOut_0 rfl <|
  s_aload_n dX4_carryOut_1 rfl <|
  s_get dX4_carryOut_2 (ci := 5) (sl := 0) (Cn := RX5) (Tf := TX5) (N := 3) rfl (by decide) kiX5 kw_36_8 <|
  s_callV1 dX4_carryOut_5 kw_36_9 kw_36_10 kw_36_11 (ci := 4) rfl ok_X4_findFault (by decide) (by decide) h_X4_findFault (by decide) <|
  s_istore_n dX4_carryOut_8 rfl (by decide) <|
  s_iload_n dX4_carryOut_9 rfl <|
  s_push1 dX4_carryOut_10 (by decide) (by decide) <|
  s_icmp_eq dX4_carryOut_11 (by decide) (s_X4_carryOut_19 h_X4_findFault h_X4_obey hJ) (s_X4_carryOut_14 h_X4_findFault h_X4_obey hJ)
noncomputable def j_X4_carryOut (F_X4_findFault F_X4_obey : KF) (J : List KC) : List KC := [b_X4_carryOut_21 F_X4_findFault F_X4_obey J]
noncomputable def m_X4_carryOut (F_X4_findFault F_X4_obey : KF) (n : Nat) : KF := k_fun [k_u, k_u] (b_X4_carryOut_0 F_X4_findFault F_X4_obey (k_loop (j_X4_carryOut F_X4_findFault F_X4_obey) n))
theorem r_X4_carryOut {l : Launch} {D : va_G} {cI cS cM : ClassId} {F_X4_findFault F_X4_obey : KF} (h_X4_findFault : k_snd l D cI cS cM yX4_findFault cX4_findFault 4 (some .int) 4 2 F_X4_findFault) (h_X4_obey : k_snd l D cI cS cM yX4_obey cX4_obey 3 (some .int) 3 3 F_X4_obey) (n : Nat) : k_snd l D cI cS cM yX4_carryOut cX4_carryOut 4 (some .int) 5 2 (m_X4_carryOut F_X4_findFault F_X4_obey n) :=
  k_method (by decide +kernel) (by simp) rfl (s_X4_carryOut_0 h_X4_findFault h_X4_obey (k_loops (hs := [(21, 0)]) (fun J hJ i pc d h => match i, h with | 0, h => by cases h; exact s_X4_carryOut_21 h_X4_findFault h_X4_obey hJ | _ + 1, h => by simp at h) n))
