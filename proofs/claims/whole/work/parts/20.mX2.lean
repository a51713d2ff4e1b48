noncomputable def b_X2_left_32 : KC := o_iret
set_option maxRecDepth 100000 in
theorem s_X2_left_32 {l : Launch} {D : va_G} {cI cS cM : ClassId} : KS l D cI cS cM yX2_left.cls yX2_left.name cX2_left 3 (some .int) (k_rm 1 0 0) false 32 1 (b_X2_left_32) :=
  s_ireturn dX2_left_32 rfl
noncomputable def b_X2_left_31 : KC := o_iload 2 <| b_X2_left_32
set_option maxRecDepth 100000 in
theorem s_X2_left_31 {l : Launch} {D : va_G} {cI cS cM : ClassId} : KS l D cI cS cM yX2_left.cls yX2_left.name cX2_left 3 (some .int) (k_rm 1 0 0) false 31 0 (b_X2_left_31) :=
  s_iload_n dX2_left_31 rfl <|
  s_X2_left_32
noncomputable def b_X2_left_22 : KC := o_iload 2 <| o_aload 0 <| o_get 2 0 <| o_bin n_add <| b_X2_left_32
set_option maxRecDepth 100000 in
theorem s_X2_left_22 {l : Launch} {D : va_G} {cI cS cM : ClassId} : KS l D cI cS cM yX2_left.cls yX2_left.name cX2_left 3 (some .int) (k_rm 1 0 0) false 22 0 (b_X2_left_22) :=
  s_iload_n dX2_left_22 rfl <|
  s_aload_n dX2_left_23 rfl <|
  s_get dX2_left_24 (ci := 2) (sl := 0) (Cn := RX2) (Tf := TX2) (N := 4) rfl (by decide) kiX2 kw_5_16 <|
  s_iadd dX2_left_27 <|
  s_goto dX2_left_28 (by decide) (s_X2_left_32)
noncomputable def b_X2_left_17 : KC := o_istore 2 <| o_iload 2 <| o_c1 g_lt (b_X2_left_22) (b_X2_left_31)
set_option maxRecDepth 100000 in
theorem s_X2_left_17 {l : Launch} {D : va_G} {cI cS cM : ClassId} : KS l D cI cS cM yX2_left.cls yX2_left.name cX2_left 3 (some .int) (k_rm 1 0 0) false 17 1 (b_X2_left_17) :=
  s_istore_n dX2_left_17 rfl (by decide) <|
  s_iload_n dX2_left_18 rfl <|
  s_if_ge dX2_left_19 (by decide) (s_X2_left_31) (s_X2_left_22)
noncomputable def b_X2_left_16 : KC := o_push 0 <| b_X2_left_17
set_option maxRecDepth 100000 in
theorem s_X2_left_16 {l : Launch} {D : va_G} {cI cS cM : ClassId} : KS l D cI cS cM yX2_left.cls yX2_left.name cX2_left 3 (some .int) (k_rm 1 0 0) false 16 0 (b_X2_left_16) :=
  s_push1 dX2_left_16 (by decide) (by decide) <|
  s_X2_left_17
noncomputable def b_X2_left_7 : KC := o_iload 1 <| o_aload 0 <| o_get 2 0 <| o_div n_rem <| b_X2_left_17
set_option maxRecDepth 100000 in
theorem s_X2_left_7 {l : Launch} {D : va_G} {cI cS cM : ClassId} : KS l D cI cS cM yX2_left.cls yX2_left.name cX2_left 3 (some .int) (k_rm 1 0 0) false 7 0 (b_X2_left_7) :=
  s_iload_n dX2_left_7 rfl <|
  s_aload_n dX2_left_8 rfl <|
  s_get dX2_left_9 (ci := 2) (sl := 0) (Cn := RX2) (Tf := TX2) (N := 4) rfl (by decide) kiX2 kw_5_16 <|
  s_irem dX2_left_12 <|
  s_goto dX2_left_13 (by decide) (s_X2_left_17)
noncomputable def b_X2_left_0 : KC := o_aload 0 <| o_get 2 0 <| o_c1 g_gt (b_X2_left_7) (b_X2_left_16)
set_option maxRecDepth 100000 in
theorem s_X2_left_0 {l : Launch} {D : va_G} {cI cS cM : ClassId} : KS l D cI cS cM yX2_left.cls yX2_left.name cX2_left 3 (some .int) (k_rm 1 0 0) false 0 0 (b_X2_left_0) :=
  s_aload_n dX2_left_0 rfl <|
  s_get dX2_left_1 (ci := 2) (sl := 0) (Cn := RX2) (Tf := TX2) (N := 4) rfl (by decide) kiX2 kw_5_16 <|
  s_if_le dX2_left_4 (by decide) (s_X2_left_16) (s_X2_left_7)
noncomputable def m_X2_left : KF := k_fun [k_u] (b_X2_left_0)
theorem r_X2_left {l : Launch} {D : va_G} {cI cS cM : ClassId} : k_snd l D cI cS cM yX2_left cX2_left 3 (some .int) 1 2 (m_X2_left) :=
  k_method (by decide +kernel) (by simp) rfl (s_X2_left_0)
noncomputable def b_X2_divided_0 (F_X2_left : KF) : KC := o_aload 0 <| o_aload 0 <| o_iload 1 <| o_cV1 2 2 F_X2_left <| o_aload 0 <| o_get 2 2 <| o_aload 0 <| o_iload 2 <| o_cV1 2 2 F_X2_left <| o_iald <| o_bin n_mul <| o_cV1 2 2 F_X2_left <| o_iret
set_option maxRecDepth 100000 in
theorem s_X2_divided_0 {l : Launch} {D : va_G} {cI cS cM : ClassId} {F_X2_left : KF} (h_X2_left : k_snd l D cI cS cM yX2_left cX2_left 3 (some .int) 1 2 F_X2_left) : KS l D cI cS cM yX2_divided.cls yX2_divided.name cX2_divided 3 (some .int) (k_rm 2 0 0) false 0 0 (b_X2_divided_0 F_X2_left) :=
  s_aload_n dX2_divided_0 rfl <|
  s_aload_n dX2_divided_1 rfl <|
  s_iload_n dX2_divided_2 rfl <|
  s_callV1 dX2_divided_3 kw_16_22 kw_16_23 kw_17_0 (ci := 2) rfl ok_X2_left (by decide) (by decide) h_X2_left (by decide) <|
  s_aload_n dX2_divided_6 rfl <|
  s_get dX2_divided_7 (ci := 2) (sl := 2) (Cn := RX2) (Tf := TX2) (N := 4) rfl (by decide) kiX2 kw_5_18 <|
  s_aload_n dX2_divided_10 rfl <|
  s_iload_n dX2_divided_11 rfl <|
  s_callV1 dX2_divided_12 kw_16_22 kw_16_23 kw_17_0 (ci := 2) rfl ok_X2_left (by decide) (by decide) h_X2_left (by decide) <|
  s_iald dX2_divided_15 <|
  s_imul dX2_divided_16 <|
  s_callV1 dX2_divided_17 kw_16_22 kw_16_23 kw_17_0 (ci := 2) rfl ok_X2_left (by decide) (by decide) h_X2_left (by decide) <|
  s_ireturn dX2_divided_20 rfl
noncomputable def m_X2_divided (F_X2_left : KF) : KF := k_fun [] (b_X2_divided_0 F_X2_left)
theorem r_X2_divided {l : Launch} {D : va_G} {cI cS cM : ClassId} {F_X2_left : KF} (h_X2_left : k_snd l D cI cS cM yX2_left cX2_left 3 (some .int) 1 2 F_X2_left) : k_snd l D cI cS cM yX2_divided cX2_divided 3 (some .int) 2 3 (m_X2_divided F_X2_left) :=
  k_method (by decide +kernel) (by simp) rfl (s_X2_divided_0 h_X2_left)
noncomputable def b_X2_isPrime_33 (J : List KC) : KC := o_zret
set_option maxRecDepth 100000 in
theorem s_X2_isPrime_33 {l : Launch} {D : va_G} {cI cS cM : ClassId} {J : List KC} (hJ : ∀ (i pc d : Nat), ([(2, 0)] : List (Nat × Nat))[i]? = some (pc, d) → KS l D cI cS cM yX2_isPrime.cls yX2_isPrime.name cX2_isPrime 2 (some .boolean) (k_rm 1 0 0) false pc d (k_jmp J i)) : KS l D cI cS cM yX2_isPrime.cls yX2_isPrime.name cX2_isPrime 2 (some .boolean) (k_rm 1 0 0) false 33 1 (b_X2_isPrime_33 J) :=
  s_zreturn dX2_isPrime_33 rfl
noncomputable def b_X2_isPrime_32 (J : List KC) : KC := o_push 0 <| b_X2_isPrime_33 J
set_option maxRecDepth 100000 in
theorem s_X2_isPrime_32 {l : Launch} {D : va_G} {cI cS cM : ClassId} {J : List KC} (hJ : ∀ (i pc d : Nat), ([(2, 0)] : List (Nat × Nat))[i]? = some (pc, d) → KS l D cI cS cM yX2_isPrime.cls yX2_isPrime.name cX2_isPrime 2 (some .boolean) (k_rm 1 0 0) false pc d (k_jmp J i)) : KS l D cI cS cM yX2_isPrime.cls yX2_isPrime.name cX2_isPrime 2 (some .boolean) (k_rm 1 0 0) false 32 0 (b_X2_isPrime_32 J) :=
  s_push1 dX2_isPrime_32 (by decide) (by decide) <|
  s_X2_isPrime_33 hJ
noncomputable def b_X2_isPrime_28 (J : List KC) : KC := o_push 1 <| b_X2_isPrime_33 J
set_option maxRecDepth 100000 in
theorem s_X2_isPrime_28 {l : Launch} {D : va_G} {cI cS cM : ClassId} {J : List KC} (hJ : ∀ (i pc d : Nat), ([(2, 0)] : List (Nat × Nat))[i]? = some (pc, d) → KS l D cI cS cM yX2_isPrime.cls yX2_isPrime.name cX2_isPrime 2 (some .boolean) (k_rm 1 0 0) false pc d (k_jmp J i)) : KS l D cI cS cM yX2_isPrime.cls yX2_isPrime.name cX2_isPrime 2 (some .boolean) (k_rm 1 0 0) false 28 0 (b_X2_isPrime_28 J) :=
  s_push1 dX2_isPrime_28 (by decide) (by decide) <|
  s_goto dX2_isPrime_29 (by decide) (s_X2_isPrime_33 hJ)
noncomputable def b_X2_isPrime_23 (J : List KC) : KC := o_iload 0 <| o_push 1 <| o_c2 s_gt (b_X2_isPrime_28 J) (b_X2_isPrime_32 J)
set_option maxRecDepth 100000 in
theorem s_X2_isPrime_23 {l : Launch} {D : va_G} {cI cS cM : ClassId} {J : List KC} (hJ : ∀ (i pc d : Nat), ([(2, 0)] : List (Nat × Nat))[i]? = some (pc, d) → KS l D cI cS cM yX2_isPrime.cls yX2_isPrime.name cX2_isPrime 2 (some .boolean) (k_rm 1 0 0) false pc d (k_jmp J i)) : KS l D cI cS cM yX2_isPrime.cls yX2_isPrime.name cX2_isPrime 2 (some .boolean) (k_rm 1 0 0) false 23 0 (b_X2_isPrime_23 J) :=
  s_iload_n dX2_isPrime_23 rfl <|
  s_push1 dX2_isPrime_24 (by decide) (by decide) <|
  s_icmp_le dX2_isPrime_25 (by decide) (s_X2_isPrime_32 hJ) (s_X2_isPrime_28 hJ)
noncomputable def b_X2_isPrime_17 (J : List KC) : KC := o_iinc 1 1 <| k_jmp J 0
set_option maxRecDepth 100000 in
theorem s_X2_isPrime_17 {l : Launch} {D : va_G} {cI cS cM : ClassId} {J : List KC} (hJ : ∀ (i pc d : Nat), ([(2, 0)] : List (Nat × Nat))[i]? = some (pc, d) → KS l D cI cS cM yX2_isPrime.cls yX2_isPrime.name cX2_isPrime 2 (some .boolean) (k_rm 1 0 0) false pc d (k_jmp J i)) : KS l D cI cS cM yX2_isPrime.cls yX2_isPrime.name cX2_isPrime 2 (some .boolean) (k_rm 1 0 0) false 17 0 (b_X2_isPrime_17 J) :=
  s_iinc dX2_isPrime_17 (by decide) (by decide) <|
  s_goto dX2_isPrime_20 (by decide) (hJ 0 _ _ rfl)
noncomputable def b_X2_isPrime_15 (J : List KC) : KC := o_push 0 <| o_zret
set_option maxRecDepth 100000 in
theorem s_X2_isPrime_15 {l : Launch} {D : va_G} {cI cS cM : ClassId} {J : List KC} (hJ : ∀ (i pc d : Nat), ([(2, 0)] : List (Nat × Nat))[i]? = some (pc, d) → KS l D cI cS cM yX2_isPrime.cls yX2_isPrime.name cX2_isPrime 2 (some .boolean) (k_rm 1 0 0) false pc d (k_jmp J i)) : KS l D cI cS cM yX2_isPrime.cls yX2_isPrime.name cX2_isPrime 2 (some .boolean) (k_rm 1 0 0) false 15 0 (b_X2_isPrime_15 J) :=
  s_push1 dX2_isPrime_15 (by decide) (by decide) <|
  s_zreturn dX2_isPrime_16 rfl
noncomputable def b_X2_isPrime_9 (J : List KC) : KC := o_iload 0 <| o_iload 1 <| o_div n_rem <| o_c1 g_eq (b_X2_isPrime_15 J) (b_X2_isPrime_17 J)
set_option maxRecDepth 100000 in
theorem s_X2_isPrime_9 {l : Launch} {D : va_G} {cI cS cM : ClassId} {J : List KC} (hJ : ∀ (i pc d : Nat), ([(2, 0)] : List (Nat × Nat))[i]? = some (pc, d) → KS l D cI cS cM yX2_isPrime.cls yX2_isPrime.name cX2_isPrime 2 (some .boolean) (k_rm 1 0 0) false pc d (k_jmp J i)) : KS l D cI cS cM yX2_isPrime.cls yX2_isPrime.name cX2_isPrime 2 (some .boolean) (k_rm 1 0 0) false 9 0 (b_X2_isPrime_9 J) :=
  s_iload_n dX2_isPrime_9 rfl <|
  s_iload_n dX2_isPrime_10 rfl <|
  s_irem dX2_isPrime_11 <|
  s_if_ne dX2_isPrime_12 (by decide) (s_X2_isPrime_17 hJ) (s_X2_isPrime_15 hJ)
noncomputable def b_X2_isPrime_2 (J : List KC) : KC := o_iload 1 <| o_iload 1 <| o_bin n_mul <| o_iload 0 <| o_c2 s_gt (b_X2_isPrime_23 J) (b_X2_isPrime_9 J)
set_option maxRecDepth 100000 in
theorem s_X2_isPrime_2 {l : Launch} {D : va_G} {cI cS cM : ClassId} {J : List KC} (hJ : ∀ (i pc d : Nat), ([(2, 0)] : List (Nat × Nat))[i]? = some (pc, d) → KS l D cI cS cM yX2_isPrime.cls yX2_isPrime.name cX2_isPrime 2 (some .boolean) (k_rm 1 0 0) false pc d (k_jmp J i)) : KS l D cI cS cM yX2_isPrime.cls yX2_isPrime.name cX2_isPrime 2 (some .boolean) (k_rm 1 0 0) false 2 0 (b_X2_isPrime_2 J) :=
  s_iload_n dX2_isPrime_2 rfl <|
  s_iload_n dX2_isPrime_3 rfl <|
  s_imul dX2_isPrime_4 <|
  s_iload_n dX2_isPrime_5 rfl <|
  s_icmp_gt dX2_isPrime_6 (by decide) (s_X2_isPrime_23 hJ) (s_X2_isPrime_9 hJ)
noncomputable def b_X2_isPrime_0 (J : List KC) : KC := o_push 2 <| o_istore 1 <| b_X2_isPrime_2 J
set_option maxRecDepth 100000 in
theorem s_X2_isPrime_0 {l : Launch} {D : va_G} {cI cS cM : ClassId} {J : List KC} (hJ : ∀ (i pc d : Nat), ([(2, 0)] : List (Nat × Nat))[i]? = some (pc, d) → KS l D cI cS cM yX2_isPrime.cls yX2_isPrime.name cX2_isPrime 2 (some .boolean) (k_rm 1 0 0) false pc d (k_jmp J i)) : KS l D cI cS cM yX2_isPrime.cls yX2_isPrime.name cX2_isPrime 2 (some .boolean) (k_rm 1 0 0) false 0 0 (b_X2_isPrime_0 J) :=
  s_push1 dX2_isPrime_0 (by decide) (by decide) <|
  s_istore_n dX2_isPrime_1 rfl (by decide) <|
  s_X2_isPrime_2 hJ
noncomputable def j_X2_isPrime (J : List KC) : List KC := [b_X2_isPrime_2 J]
noncomputable def m_X2_isPrime (n : Nat) : KF := k_fun [k_u] (b_X2_isPrime_0 (k_loop (j_X2_isPrime) n))
theorem r_X2_isPrime {l : Launch} {D : va_G} {cI cS cM : ClassId} (n : Nat) : k_snd l D cI cS cM yX2_isPrime cX2_isPrime 2 (some .boolean) 1 1 (m_X2_isPrime n) :=
  k_method (by decide +kernel) (by simp) rfl (s_X2_isPrime_0 (k_loops (hs := [(2, 0)]) (fun J hJ i pc d h => match i, h with | 0, h => by cases h; exact s_X2_isPrime_2 hJ | _ + 1, h => by simp at h) n))
noncomputable def b_X2_findOver_63 (F_X2_left : KF) (J : List KC) : KC := o_ret
set_option maxRecDepth 100000 in
theorem s_X2_findOver_63 {l : Launch} {D : va_G} {cI cS cM : ClassId} {F_X2_left : KF} (h_X2_left : k_snd l D cI cS cM yX2_left cX2_left 3 (some .int) 1 2 F_X2_left) {J : List KC} (hJ : ∀ (i pc d : Nat), ([(16, 0)] : List (Nat × Nat))[i]? = some (pc, d) → KS l D cI cS cM yX2_findOver.cls yX2_findOver.name cX2_findOver 2 none (k_rm 2 0 0) false pc d (k_jmp J i)) : KS l D cI cS cM yX2_findOver.cls yX2_findOver.name cX2_findOver 2 none (k_rm 2 0 0) false 63 0 (b_X2_findOver_63 F_X2_left J) :=
  s_return dX2_findOver_63 rfl
noncomputable def b_X2_findOver_24 (F_X2_left : KF) (J : List KC) : KC := o_aload 0 <| o_get 2 2 <| o_iload 1 <| o_aload 0 <| o_aload 0 <| o_get 2 0 <| o_aload 0 <| o_get 2 0 <| o_iload 1 <| o_div n_div <| o_bin n_sub <| o_aload 0 <| o_get 2 2 <| o_aload 0 <| o_get 2 0 <| o_iload 1 <| o_div n_rem <| o_iald <| o_bin n_mul <| o_cV1 2 2 F_X2_left <| o_iast <| o_iinc 1 1 <| k_jmp J 0
set_option maxRecDepth 100000 in
theorem s_X2_findOver_24 {l : Launch} {D : va_G} {cI cS cM : ClassId} {F_X2_left : KF} (h_X2_left : k_snd l D cI cS cM yX2_left cX2_left 3 (some .int) 1 2 F_X2_left) {J : List KC} (hJ : ∀ (i pc d : Nat), ([(16, 0)] : List (Nat × Nat))[i]? = some (pc, d) → KS l D cI cS cM yX2_findOver.cls yX2_findOver.name cX2_findOver 2 none (k_rm 2 0 0) false pc d (k_jmp J i)) : KS l D cI cS cM yX2_findOver.cls yX2_findOver.name cX2_findOver 2 none (k_rm 2 0 0) false 24 0 (b_X2_findOver_24 F_X2_left J) :=
  s_aload_n dX2_findOver_24 rfl <|
  s_get dX2_findOver_25 (ci := 2) (sl := 2) (Cn := RX2) (Tf := TX2) (N := 4) rfl (by decide) kiX2 kw_5_18 <|
  s_iload_n dX2_findOver_28 rfl <|
  s_aload_n dX2_findOver_29 rfl <|
  s_aload_n dX2_findOver_30 rfl <|
  s_get dX2_findOver_31 (ci := 2) (sl := 0) (Cn := RX2) (Tf := TX2) (N := 4) rfl (by decide) kiX2 kw_5_16 <|
  s_aload_n dX2_findOver_34 rfl <|
  s_get dX2_findOver_35 (ci := 2) (sl := 0) (Cn := RX2) (Tf := TX2) (N := 4) rfl (by decide) kiX2 kw_5_16 <|
  s_iload_n dX2_findOver_38 rfl <|
  s_idiv dX2_findOver_39 <|
  s_isub dX2_findOver_40 <|
  s_aload_n dX2_findOver_41 rfl <|
  s_get dX2_findOver_42 (ci := 2) (sl := 2) (Cn := RX2) (Tf := TX2) (N := 4) rfl (by decide) kiX2 kw_5_18 <|
  s_aload_n dX2_findOver_45 rfl <|
  s_get dX2_findOver_46 (ci := 2) (sl := 0) (Cn := RX2) (Tf := TX2) (N := 4) rfl (by decide) kiX2 kw_5_16 <|
  s_iload_n dX2_findOver_49 rfl <|
  s_irem dX2_findOver_50 <|
  s_iald dX2_findOver_51 <|
  s_imul dX2_findOver_52 <|
  s_callV1 dX2_findOver_53 kw_16_22 kw_16_23 kw_17_0 (ci := 2) rfl ok_X2_left (by decide) (by decide) h_X2_left (by decide) <|
  s_iast dX2_findOver_56 <|
  s_iinc dX2_findOver_57 (by decide) (by decide) <|
  s_goto dX2_findOver_60 (by decide) (hJ 0 _ _ rfl)
noncomputable def b_X2_findOver_16 (F_X2_left : KF) (J : List KC) : KC := o_iload 1 <| o_aload 0 <| o_get 2 0 <| o_c2 s_lt (b_X2_findOver_24 F_X2_left J) (b_X2_findOver_63 F_X2_left J)
set_option maxRecDepth 100000 in
theorem s_X2_findOver_16 {l : Launch} {D : va_G} {cI cS cM : ClassId} {F_X2_left : KF} (h_X2_left : k_snd l D cI cS cM yX2_left cX2_left 3 (some .int) 1 2 F_X2_left) {J : List KC} (hJ : ∀ (i pc d : Nat), ([(16, 0)] : List (Nat × Nat))[i]? = some (pc, d) → KS l D cI cS cM yX2_findOver.cls yX2_findOver.name cX2_findOver 2 none (k_rm 2 0 0) false pc d (k_jmp J i)) : KS l D cI cS cM yX2_findOver.cls yX2_findOver.name cX2_findOver 2 none (k_rm 2 0 0) false 16 0 (b_X2_findOver_16 F_X2_left J) :=
  s_iload_n dX2_findOver_16 rfl <|
  s_aload_n dX2_findOver_17 rfl <|
  s_get dX2_findOver_18 (ci := 2) (sl := 0) (Cn := RX2) (Tf := TX2) (N := 4) rfl (by decide) kiX2 kw_5_16 <|
  s_icmp_ge dX2_findOver_21 (by decide) (s_X2_findOver_63 h_X2_left hJ) (s_X2_findOver_24 h_X2_left hJ)
noncomputable def b_X2_findOver_0 (F_X2_left : KF) (J : List KC) : KC := o_aload 0 <| o_get 2 2 <| o_push 0 <| o_push 0 <| o_iast <| o_aload 0 <| o_get 2 2 <| o_push 1 <| o_push 1 <| o_iast <| o_push 2 <| o_istore 1 <| b_X2_findOver_16 F_X2_left J
set_option maxRecDepth 100000 in
theorem s_X2_findOver_0 {l : Launch} {D : va_G} {cI cS cM : ClassId} {F_X2_left : KF} (h_X2_left : k_snd l D cI cS cM yX2_left cX2_left 3 (some .int) 1 2 F_X2_left) {J : List KC} (hJ : ∀ (i pc d : Nat), ([(16, 0)] : List (Nat × Nat))[i]? = some (pc, d) → KS l D cI cS cM yX2_findOver.cls yX2_findOver.name cX2_findOver 2 none (k_rm 2 0 0) false pc d (k_jmp J i)) : KS l D cI cS cM yX2_findOver.cls yX2_findOver.name cX2_findOver 2 none (k_rm 2 0 0) false 0 0 (b_X2_findOver_0 F_X2_left J) :=
  s_aload_n dX2_findOver_0 rfl <|
  s_get dX2_findOver_1 (ci := 2) (sl := 2) (Cn := RX2) (Tf := TX2) (N := 4) rfl (by decide) kiX2 kw_5_18 <|
  s_push1 dX2_findOver_4 (by decide) (by decide) <|
  s_push1 dX2_findOver_5 (by decide) (by decide) <|
  s_iast dX2_findOver_6 <|
  s_aload_n dX2_findOver_7 rfl <|
  s_get dX2_findOver_8 (ci := 2) (sl := 2) (Cn := RX2) (Tf := TX2) (N := 4) rfl (by decide) kiX2 kw_5_18 <|
  s_push1 dX2_findOver_11 (by decide) (by decide) <|
  s_push1 dX2_findOver_12 (by decide) (by decide) <|
  s_iast dX2_findOver_13 <|
  s_push1 dX2_findOver_14 (by decide) (by decide) <|
  s_istore_n dX2_findOver_15 rfl (by decide) <|
  s_X2_findOver_16 h_X2_left hJ
noncomputable def j_X2_findOver (F_X2_left : KF) (J : List KC) : List KC := [b_X2_findOver_16 F_X2_left J]
noncomputable def m_X2_findOver (F_X2_left : KF) (n : Nat) : KF := k_fun [k_u] (b_X2_findOver_0 F_X2_left (k_loop (j_X2_findOver F_X2_left) n))
theorem r_X2_findOver {l : Launch} {D : va_G} {cI cS cM : ClassId} {F_X2_left : KF} (h_X2_left : k_snd l D cI cS cM yX2_left cX2_left 3 (some .int) 1 2 F_X2_left) (n : Nat) : k_snd l D cI cS cM yX2_findOver cX2_findOver 2 none 2 1 (m_X2_findOver F_X2_left n) :=
  k_method (by decide +kernel) (by simp) rfl (s_X2_findOver_0 h_X2_left (k_loops (hs := [(16, 0)]) (fun J hJ i pc d h => match i, h with | 0, h => by cases h; exact s_X2_findOver_16 h_X2_left hJ | _ + 1, h => by simp at h) n))
noncomputable def b_X2_powerOf_25 (F_X2_left : KF) (J : List KC) : KC := o_iload 3 <| o_iret
set_option maxRecDepth 100000 in
theorem s_X2_powerOf_25 {l : Launch} {D : va_G} {cI cS cM : ClassId} {F_X2_left : KF} (h_X2_left : k_snd l D cI cS cM yX2_left cX2_left 3 (some .int) 1 2 F_X2_left) {J : List KC} (hJ : ∀ (i pc d : Nat), ([(5, 0)] : List (Nat × Nat))[i]? = some (pc, d) → KS l D cI cS cM yX2_powerOf.cls yX2_powerOf.name cX2_powerOf 5 (some .int) (k_rm 2 0 0) false pc d (k_jmp J i)) : KS l D cI cS cM yX2_powerOf.cls yX2_powerOf.name cX2_powerOf 5 (some .int) (k_rm 2 0 0) false 25 0 (b_X2_powerOf_25 F_X2_left J) :=
  s_iload_n dX2_powerOf_25 rfl <|
  s_ireturn dX2_powerOf_26 rfl
noncomputable def b_X2_powerOf_11 (F_X2_left : KF) (J : List KC) : KC := o_aload 0 <| o_iload 3 <| o_iload 1 <| o_bin n_mul <| o_cV1 2 2 F_X2_left <| o_istore 3 <| o_iinc 4 1 <| k_jmp J 0
set_option maxRecDepth 100000 in
theorem s_X2_powerOf_11 {l : Launch} {D : va_G} {cI cS cM : ClassId} {F_X2_left : KF} (h_X2_left : k_snd l D cI cS cM yX2_left cX2_left 3 (some .int) 1 2 F_X2_left) {J : List KC} (hJ : ∀ (i pc d : Nat), ([(5, 0)] : List (Nat × Nat))[i]? = some (pc, d) → KS l D cI cS cM yX2_powerOf.cls yX2_powerOf.name cX2_powerOf 5 (some .int) (k_rm 2 0 0) false pc d (k_jmp J i)) : KS l D cI cS cM yX2_powerOf.cls yX2_powerOf.name cX2_powerOf 5 (some .int) (k_rm 2 0 0) false 11 0 (b_X2_powerOf_11 F_X2_left J) :=
  s_aload_n dX2_powerOf_11 rfl <|
  s_iload_n dX2_powerOf_12 rfl <|
  s_iload_n dX2_powerOf_13 rfl <|
  s_imul dX2_powerOf_14 <|
  s_callV1 dX2_powerOf_15 kw_16_22 kw_16_23 kw_17_0 (ci := 2) rfl ok_X2_left (by decide) (by decide) h_X2_left (by decide) <|
  s_istore_n dX2_powerOf_18 rfl (by decide) <|
  s_iinc dX2_powerOf_19 (by decide) (by decide) <|
  s_goto dX2_powerOf_22 (by decide) (hJ 0 _ _ rfl)
noncomputable def b_X2_powerOf_5 (F_X2_left : KF) (J : List KC) : KC := o_iload 4 <| o_iload 2 <| o_c2 s_lt (b_X2_powerOf_11 F_X2_left J) (b_X2_powerOf_25 F_X2_left J)
set_option maxRecDepth 100000 in
theorem s_X2_powerOf_5 {l : Launch} {D : va_G} {cI cS cM : ClassId} {F_X2_left : KF} (h_X2_left : k_snd l D cI cS cM yX2_left cX2_left 3 (some .int) 1 2 F_X2_left) {J : List KC} (hJ : ∀ (i pc d : Nat), ([(5, 0)] : List (Nat × Nat))[i]? = some (pc, d) → KS l D cI cS cM yX2_powerOf.cls yX2_powerOf.name cX2_powerOf 5 (some .int) (k_rm 2 0 0) false pc d (k_jmp J i)) : KS l D cI cS cM yX2_powerOf.cls yX2_powerOf.name cX2_powerOf 5 (some .int) (k_rm 2 0 0) false 5 0 (b_X2_powerOf_5 F_X2_left J) :=
  s_iload dX2_powerOf_5 <|
  s_iload_n dX2_powerOf_7 rfl <|
  s_icmp_ge dX2_powerOf_8 (by decide) (s_X2_powerOf_25 h_X2_left hJ) (s_X2_powerOf_11 h_X2_left hJ)
noncomputable def b_X2_powerOf_0 (F_X2_left : KF) (J : List KC) : KC := o_push 1 <| o_istore 3 <| o_push 0 <| o_istore 4 <| b_X2_powerOf_5 F_X2_left J
set_option maxRecDepth 100000 in
theorem s_X2_powerOf_0 {l : Launch} {D : va_G} {cI cS cM : ClassId} {F_X2_left : KF} (h_X2_left : k_snd l D cI cS cM yX2_left cX2_left 3 (some .int) 1 2 F_X2_left) {J : List KC} (hJ : ∀ (i pc d : Nat), ([(5, 0)] : List (Nat × Nat))[i]? = some (pc, d) → KS l D cI cS cM yX2_powerOf.cls yX2_powerOf.name cX2_powerOf 5 (some .int) (k_rm 2 0 0) false pc d (k_jmp J i)) : KS l D cI cS cM yX2_powerOf.cls yX2_powerOf.name cX2_powerOf 5 (some .int) (k_rm 2 0 0) false 0 0 (b_X2_powerOf_0 F_X2_left J) :=
  s_push1 dX2_powerOf_0 (by decide) (by decide) <|
  s_istore_n dX2_powerOf_1 rfl (by decide) <|
  s_push1 dX2_powerOf_2 (by decide) (by decide) <|
  s_istore dX2_powerOf_3 (by decide) <|
  s_X2_powerOf_5 h_X2_left hJ
noncomputable def j_X2_powerOf (F_X2_left : KF) (J : List KC) : List KC := [b_X2_powerOf_5 F_X2_left J]
noncomputable def m_X2_powerOf (F_X2_left : KF) (n : Nat) : KF := k_fun [k_u, k_u] (b_X2_powerOf_0 F_X2_left (k_loop (j_X2_powerOf F_X2_left) n))
theorem r_X2_powerOf {l : Launch} {D : va_G} {cI cS cM : ClassId} {F_X2_left : KF} (h_X2_left : k_snd l D cI cS cM yX2_left cX2_left 3 (some .int) 1 2 F_X2_left) (n : Nat) : k_snd l D cI cS cM yX2_powerOf cX2_powerOf 5 (some .int) 2 3 (m_X2_powerOf F_X2_left n) :=
  k_method (by decide +kernel) (by simp) rfl (s_X2_powerOf_0 h_X2_left (k_loops (hs := [(5, 0)]) (fun J hJ i pc d h => match i, h with | 0, h => by cases h; exact s_X2_powerOf_5 h_X2_left hJ | _ + 1, h => by simp at h) n))
noncomputable def b_X2_leastMaker_59 (F_X2_left : KF) (J : List KC) : KC := o_push 1 <| o_iret
set_option maxRecDepth 100000 in
theorem s_X2_leastMaker_59 {l : Launch} {D : va_G} {cI cS cM : ClassId} {F_X2_left : KF} (h_X2_left : k_snd l D cI cS cM yX2_left cX2_left 3 (some .int) 1 2 F_X2_left) {J : List KC} (hJ : ∀ (i pc d : Nat), ([(2, 0), (14, 0)] : List (Nat × Nat))[i]? = some (pc, d) → KS l D cI cS cM yX2_leastMaker.cls yX2_leastMaker.name cX2_leastMaker 4 (some .int) (k_rm 2 0 0) false pc d (k_jmp J i)) : KS l D cI cS cM yX2_leastMaker.cls yX2_leastMaker.name cX2_leastMaker 4 (some .int) (k_rm 2 0 0) false 59 0 (b_X2_leastMaker_59 F_X2_left J) :=
  s_push1 dX2_leastMaker_59 (by decide) (by decide) <|
  s_ireturn dX2_leastMaker_60 rfl
noncomputable def b_X2_leastMaker_53 (F_X2_left : KF) (J : List KC) : KC := o_iinc 1 1 <| k_jmp J 0
set_option maxRecDepth 100000 in
theorem s_X2_leastMaker_53 {l : Launch} {D : va_G} {cI cS cM : ClassId} {F_X2_left : KF} (h_X2_left : k_snd l D cI cS cM yX2_left cX2_left 3 (some .int) 1 2 F_X2_left) {J : List KC} (hJ : ∀ (i pc d : Nat), ([(2, 0), (14, 0)] : List (Nat × Nat))[i]? = some (pc, d) → KS l D cI cS cM yX2_leastMaker.cls yX2_leastMaker.name cX2_leastMaker 4 (some .int) (k_rm 2 0 0) false pc d (k_jmp J i)) : KS l D cI cS cM yX2_leastMaker.cls yX2_leastMaker.name cX2_leastMaker 4 (some .int) (k_rm 2 0 0) false 53 0 (b_X2_leastMaker_53 F_X2_left J) :=
  s_iinc dX2_leastMaker_53 (by decide) (by decide) <|
  s_goto dX2_leastMaker_56 (by decide) (hJ 0 _ _ rfl)
noncomputable def b_X2_leastMaker_51 (F_X2_left : KF) (J : List KC) : KC := o_iload 1 <| o_iret
set_option maxRecDepth 100000 in
theorem s_X2_leastMaker_51 {l : Launch} {D : va_G} {cI cS cM : ClassId} {F_X2_left : KF} (h_X2_left : k_snd l D cI cS cM yX2_left cX2_left 3 (some .int) 1 2 F_X2_left) {J : List KC} (hJ : ∀ (i pc d : Nat), ([(2, 0), (14, 0)] : List (Nat × Nat))[i]? = some (pc, d) → KS l D cI cS cM yX2_leastMaker.cls yX2_leastMaker.name cX2_leastMaker 4 (some .int) (k_rm 2 0 0) false pc d (k_jmp J i)) : KS l D cI cS cM yX2_leastMaker.cls yX2_leastMaker.name cX2_leastMaker 4 (some .int) (k_rm 2 0 0) false 51 0 (b_X2_leastMaker_51 F_X2_left J) :=
  s_iload_n dX2_leastMaker_51 rfl <|
  s_ireturn dX2_leastMaker_52 rfl
noncomputable def b_X2_leastMaker_41 (F_X2_left : KF) (J : List KC) : KC := o_iload 3 <| o_aload 0 <| o_get 2 0 <| o_push 1 <| o_bin n_sub <| o_c2 Nat.beq (b_X2_leastMaker_51 F_X2_left J) (b_X2_leastMaker_53 F_X2_left J)
set_option maxRecDepth 100000 in
theorem s_X2_leastMaker_41 {l : Launch} {D : va_G} {cI cS cM : ClassId} {F_X2_left : KF} (h_X2_left : k_snd l D cI cS cM yX2_left cX2_left 3 (some .int) 1 2 F_X2_left) {J : List KC} (hJ : ∀ (i pc d : Nat), ([(2, 0), (14, 0)] : List (Nat × Nat))[i]? = some (pc, d) → KS l D cI cS cM yX2_leastMaker.cls yX2_leastMaker.name cX2_leastMaker 4 (some .int) (k_rm 2 0 0) false pc d (k_jmp J i)) : KS l D cI cS cM yX2_leastMaker.cls yX2_leastMaker.name cX2_leastMaker 4 (some .int) (k_rm 2 0 0) false 41 0 (b_X2_leastMaker_41 F_X2_left J) :=
  s_iload_n dX2_leastMaker_41 rfl <|
  s_aload_n dX2_leastMaker_42 rfl <|
  s_get dX2_leastMaker_43 (ci := 2) (sl := 0) (Cn := RX2) (Tf := TX2) (N := 4) rfl (by decide) kiX2 kw_5_16 <|
  s_push1 dX2_leastMaker_46 (by decide) (by decide) <|
  s_isub dX2_leastMaker_47 <|
  s_icmp_ne dX2_leastMaker_48 (by decide) (s_X2_leastMaker_53 h_X2_left hJ) (s_X2_leastMaker_51 h_X2_left hJ)
noncomputable def b_X2_leastMaker_27 (F_X2_left : KF) (J : List KC) : KC := o_aload 0 <| o_iload 2 <| o_iload 1 <| o_bin n_mul <| o_cV1 2 2 F_X2_left <| o_istore 2 <| o_iinc 3 1 <| k_jmp J 1
set_option maxRecDepth 100000 in
theorem s_X2_leastMaker_27 {l : Launch} {D : va_G} {cI cS cM : ClassId} {F_X2_left : KF} (h_X2_left : k_snd l D cI cS cM yX2_left cX2_left 3 (some .int) 1 2 F_X2_left) {J : List KC} (hJ : ∀ (i pc d : Nat), ([(2, 0), (14, 0)] : List (Nat × Nat))[i]? = some (pc, d) → KS l D cI cS cM yX2_leastMaker.cls yX2_leastMaker.name cX2_leastMaker 4 (some .int) (k_rm 2 0 0) false pc d (k_jmp J i)) : KS l D cI cS cM yX2_leastMaker.cls yX2_leastMaker.name cX2_leastMaker 4 (some .int) (k_rm 2 0 0) false 27 0 (b_X2_leastMaker_27 F_X2_left J) :=
  s_aload_n dX2_leastMaker_27 rfl <|
  s_iload_n dX2_leastMaker_28 rfl <|
  s_iload_n dX2_leastMaker_29 rfl <|
  s_imul dX2_leastMaker_30 <|
  s_callV1 dX2_leastMaker_31 kw_16_22 kw_16_23 kw_17_0 (ci := 2) rfl ok_X2_left (by decide) (by decide) h_X2_left (by decide) <|
  s_istore_n dX2_leastMaker_34 rfl (by decide) <|
  s_iinc dX2_leastMaker_35 (by decide) (by decide) <|
  s_goto dX2_leastMaker_38 (by decide) (hJ 1 _ _ rfl)
noncomputable def b_X2_leastMaker_19 (F_X2_left : KF) (J : List KC) : KC := o_iload 3 <| o_aload 0 <| o_get 2 0 <| o_c2 s_lt (b_X2_leastMaker_27 F_X2_left J) (b_X2_leastMaker_41 F_X2_left J)
set_option maxRecDepth 100000 in
theorem s_X2_leastMaker_19 {l : Launch} {D : va_G} {cI cS cM : ClassId} {F_X2_left : KF} (h_X2_left : k_snd l D cI cS cM yX2_left cX2_left 3 (some .int) 1 2 F_X2_left) {J : List KC} (hJ : ∀ (i pc d : Nat), ([(2, 0), (14, 0)] : List (Nat × Nat))[i]? = some (pc, d) → KS l D cI cS cM yX2_leastMaker.cls yX2_leastMaker.name cX2_leastMaker 4 (some .int) (k_rm 2 0 0) false pc d (k_jmp J i)) : KS l D cI cS cM yX2_leastMaker.cls yX2_leastMaker.name cX2_leastMaker 4 (some .int) (k_rm 2 0 0) false 19 0 (b_X2_leastMaker_19 F_X2_left J) :=
  s_iload_n dX2_leastMaker_19 rfl <|
  s_aload_n dX2_leastMaker_20 rfl <|
  s_get dX2_leastMaker_21 (ci := 2) (sl := 0) (Cn := RX2) (Tf := TX2) (N := 4) rfl (by decide) kiX2 kw_5_16 <|
  s_icmp_ge dX2_leastMaker_24 (by decide) (s_X2_leastMaker_41 h_X2_left hJ) (s_X2_leastMaker_27 h_X2_left hJ)
noncomputable def b_X2_leastMaker_14 (F_X2_left : KF) (J : List KC) : KC := o_iload 2 <| o_push 1 <| o_c2 Nat.beq (b_X2_leastMaker_41 F_X2_left J) (b_X2_leastMaker_19 F_X2_left J)
set_option maxRecDepth 100000 in
theorem s_X2_leastMaker_14 {l : Launch} {D : va_G} {cI cS cM : ClassId} {F_X2_left : KF} (h_X2_left : k_snd l D cI cS cM yX2_left cX2_left 3 (some .int) 1 2 F_X2_left) {J : List KC} (hJ : ∀ (i pc d : Nat), ([(2, 0), (14, 0)] : List (Nat × Nat))[i]? = some (pc, d) → KS l D cI cS cM yX2_leastMaker.cls yX2_leastMaker.name cX2_leastMaker 4 (some .int) (k_rm 2 0 0) false pc d (k_jmp J i)) : KS l D cI cS cM yX2_leastMaker.cls yX2_leastMaker.name cX2_leastMaker 4 (some .int) (k_rm 2 0 0) false 14 0 (b_X2_leastMaker_14 F_X2_left J) :=
  s_iload_n dX2_leastMaker_14 rfl <|
  s_push1 dX2_leastMaker_15 (by decide) (by decide) <|
  s_icmp_eq dX2_leastMaker_16 (by decide) (s_X2_leastMaker_41 h_X2_left hJ) (s_X2_leastMaker_19 h_X2_left hJ)
noncomputable def b_X2_leastMaker_10 (F_X2_left : KF) (J : List KC) : KC := o_iload 1 <| o_istore 2 <| o_push 1 <| o_istore 3 <| b_X2_leastMaker_14 F_X2_left J
set_option maxRecDepth 100000 in
theorem s_X2_leastMaker_10 {l : Launch} {D : va_G} {cI cS cM : ClassId} {F_X2_left : KF} (h_X2_left : k_snd l D cI cS cM yX2_left cX2_left 3 (some .int) 1 2 F_X2_left) {J : List KC} (hJ : ∀ (i pc d : Nat), ([(2, 0), (14, 0)] : List (Nat × Nat))[i]? = some (pc, d) → KS l D cI cS cM yX2_leastMaker.cls yX2_leastMaker.name cX2_leastMaker 4 (some .int) (k_rm 2 0 0) false pc d (k_jmp J i)) : KS l D cI cS cM yX2_leastMaker.cls yX2_leastMaker.name cX2_leastMaker 4 (some .int) (k_rm 2 0 0) false 10 0 (b_X2_leastMaker_10 F_X2_left J) :=
  s_iload_n dX2_leastMaker_10 rfl <|
  s_istore_n dX2_leastMaker_11 rfl (by decide) <|
  s_push1 dX2_leastMaker_12 (by decide) (by decide) <|
  s_istore_n dX2_leastMaker_13 rfl (by decide) <|
  s_X2_leastMaker_14 h_X2_left hJ
noncomputable def b_X2_leastMaker_2 (F_X2_left : KF) (J : List KC) : KC := o_iload 1 <| o_aload 0 <| o_get 2 0 <| o_c2 s_lt (b_X2_leastMaker_10 F_X2_left J) (b_X2_leastMaker_59 F_X2_left J)
set_option maxRecDepth 100000 in
theorem s_X2_leastMaker_2 {l : Launch} {D : va_G} {cI cS cM : ClassId} {F_X2_left : KF} (h_X2_left : k_snd l D cI cS cM yX2_left cX2_left 3 (some .int) 1 2 F_X2_left) {J : List KC} (hJ : ∀ (i pc d : Nat), ([(2, 0), (14, 0)] : List (Nat × Nat))[i]? = some (pc, d) → KS l D cI cS cM yX2_leastMaker.cls yX2_leastMaker.name cX2_leastMaker 4 (some .int) (k_rm 2 0 0) false pc d (k_jmp J i)) : KS l D cI cS cM yX2_leastMaker.cls yX2_leastMaker.name cX2_leastMaker 4 (some .int) (k_rm 2 0 0) false 2 0 (b_X2_leastMaker_2 F_X2_left J) :=
  s_iload_n dX2_leastMaker_2 rfl <|
  s_aload_n dX2_leastMaker_3 rfl <|
  s_get dX2_leastMaker_4 (ci := 2) (sl := 0) (Cn := RX2) (Tf := TX2) (N := 4) rfl (by decide) kiX2 kw_5_16 <|
  s_icmp_ge dX2_leastMaker_7 (by decide) (s_X2_leastMaker_59 h_X2_left hJ) (s_X2_leastMaker_10 h_X2_left hJ)
noncomputable def b_X2_leastMaker_0 (F_X2_left : KF) (J : List KC) : KC := o_push 1 <| o_istore 1 <| b_X2_leastMaker_2 F_X2_left J
set_option maxRecDepth 100000 in
theorem s_X2_leastMaker_0 {l : Launch} {D : va_G} {cI cS cM : ClassId} {F_X2_left : KF} (h_X2_left : k_snd l D cI cS cM yX2_left cX2_left 3 (some .int) 1 2 F_X2_left) {J : List KC} (hJ : ∀ (i pc d : Nat), ([(2, 0), (14, 0)] : List (Nat × Nat))[i]? = some (pc, d) → KS l D cI cS cM yX2_leastMaker.cls yX2_leastMaker.name cX2_leastMaker 4 (some .int) (k_rm 2 0 0) false pc d (k_jmp J i)) : KS l D cI cS cM yX2_leastMaker.cls yX2_leastMaker.name cX2_leastMaker 4 (some .int) (k_rm 2 0 0) false 0 0 (b_X2_leastMaker_0 F_X2_left J) :=
  s_push1 dX2_leastMaker_0 (by decide) (by decide) <|
  s_istore_n dX2_leastMaker_1 rfl (by decide) <|
  s_X2_leastMaker_2 h_X2_left hJ
noncomputable def j_X2_leastMaker (F_X2_left : KF) (J : List KC) : List KC := [b_X2_leastMaker_2 F_X2_left J, b_X2_leastMaker_14 F_X2_left J]
noncomputable def m_X2_leastMaker (F_X2_left : KF) (n : Nat) : KF := k_fun [k_u, k_u, k_u] (b_X2_leastMaker_0 F_X2_left (k_loop (j_X2_leastMaker F_X2_left) n))
theorem r_X2_leastMaker {l : Launch} {D : va_G} {cI cS cM : ClassId} {F_X2_left : KF} (h_X2_left : k_snd l D cI cS cM yX2_left cX2_left 3 (some .int) 1 2 F_X2_left) (n : Nat) : k_snd l D cI cS cM yX2_leastMaker cX2_leastMaker 4 (some .int) 2 1 (m_X2_leastMaker F_X2_left n) :=
  k_method (by decide +kernel) (by simp) rfl (s_X2_leastMaker_0 h_X2_left (k_loops (hs := [(2, 0), (14, 0)]) (fun J hJ i pc d h => match i, h with | 0, h => by cases h; exact s_X2_leastMaker_2 h_X2_left hJ | 1, h => by cases h; exact s_X2_leastMaker_14 h_X2_left hJ | _ + 2, h => by simp at h) n))
noncomputable def b_Math_max_10 : KC := o_iret
set_option maxRecDepth 100000 in
theorem s_Math_max_10 {l : Launch} {D : va_G} {cI cS cM : ClassId} : KS l D cI cS cM Lib.Math.max.name.cls Lib.Math.max.name.name Lib.Math.max.code 2 (some .int) (k_rm 1 0 0) false 10 1 (b_Math_max_10) :=
  s_ireturn dMath_max_10 rfl
noncomputable def b_Math_max_9 : KC := o_iload 1 <| b_Math_max_10
set_option maxRecDepth 100000 in
theorem s_Math_max_9 {l : Launch} {D : va_G} {cI cS cM : ClassId} : KS l D cI cS cM Lib.Math.max.name.cls Lib.Math.max.name.name Lib.Math.max.code 2 (some .int) (k_rm 1 0 0) false 9 0 (b_Math_max_9) :=
  s_iload_n dMath_max_9 rfl <|
  s_Math_max_10
noncomputable def b_Math_max_5 : KC := o_iload 0 <| b_Math_max_10
set_option maxRecDepth 100000 in
theorem s_Math_max_5 {l : Launch} {D : va_G} {cI cS cM : ClassId} : KS l D cI cS cM Lib.Math.max.name.cls Lib.Math.max.name.name Lib.Math.max.code 2 (some .int) (k_rm 1 0 0) false 5 0 (b_Math_max_5) :=
  s_iload_n dMath_max_5 rfl <|
  s_goto dMath_max_6 (by decide) (s_Math_max_10)
noncomputable def b_Math_max_0 : KC := o_iload 0 <| o_iload 1 <| o_c2 s_lt (b_Math_max_9) (b_Math_max_5)
set_option maxRecDepth 100000 in
theorem s_Math_max_0 {l : Launch} {D : va_G} {cI cS cM : ClassId} : KS l D cI cS cM Lib.Math.max.name.cls Lib.Math.max.name.name Lib.Math.max.code 2 (some .int) (k_rm 1 0 0) false 0 0 (b_Math_max_0) :=
  s_iload_n dMath_max_0 rfl <|
  s_iload_n dMath_max_1 rfl <|
  s_icmp_lt dMath_max_2 (by decide) (s_Math_max_9) (s_Math_max_5)
noncomputable def m_Math_max : KF := k_fun [] (b_Math_max_0)
theorem r_Math_max {l : Launch} {D : va_G} {cI cS cM : ClassId} : k_snd l D cI cS cM Lib.Math.max.name Lib.Math.max.code 2 (some .int) 1 2 (m_Math_max) :=
  k_method (by decide +kernel) (by simp) rfl (s_Math_max_0)
noncomputable def b_X2_choose_141 (F_Math_max F_X2_isPrime F_X2_findOver F_X2_leastMaker F_X2_powerOf F_X2_left : KF) (J : List KC) : KC := o_ret
set_option maxRecDepth 100000 in
theorem s_X2_choose_141 {l : Launch} {D : va_G} {cI cS cM : ClassId} {F_Math_max F_X2_isPrime F_X2_findOver F_X2_leastMaker F_X2_powerOf F_X2_left : KF} (h_Math_max : k_snd l D cI cS cM Lib.Math.max.name Lib.Math.max.code 2 (some .int) 1 2 F_Math_max) (h_X2_isPrime : k_snd l D cI cS cM yX2_isPrime cX2_isPrime 2 (some .boolean) 1 1 F_X2_isPrime) (h_X2_findOver : k_snd l D cI cS cM yX2_findOver cX2_findOver 2 none 2 1 F_X2_findOver) (h_X2_leastMaker : k_snd l D cI cS cM yX2_leastMaker cX2_leastMaker 4 (some .int) 2 1 F_X2_leastMaker) (h_X2_powerOf : k_snd l D cI cS cM yX2_powerOf cX2_powerOf 5 (some .int) 2 3 F_X2_powerOf) (h_X2_left : k_snd l D cI cS cM yX2_left cX2_left 3 (some .int) 1 2 F_X2_left) {J : List KC} (hJ : ∀ (i pc d : Nat), ([(16, 0), (97, 0)] : List (Nat × Nat))[i]? = some (pc, d) → KS l D cI cS cM yX2_choose.cls yX2_choose.name cX2_choose 5 none (k_rm 3 0 0) false pc d (k_jmp J i)) : KS l D cI cS cM yX2_choose.cls yX2_choose.name cX2_choose 5 none (k_rm 3 0 0) false 141 0 (b_X2_choose_141 F_Math_max F_X2_isPrime F_X2_findOver F_X2_leastMaker F_X2_powerOf F_X2_left J) :=
  s_return dX2_choose_141 rfl
noncomputable def b_X2_choose_110 (F_Math_max F_X2_isPrime F_X2_findOver F_X2_leastMaker F_X2_powerOf F_X2_left : KF) (J : List KC) : KC := o_aload 0 <| o_get 2 3 <| o_iload 4 <| o_aload 0 <| o_aload 0 <| o_get 2 3 <| o_iload 4 <| o_push 1 <| o_bin n_sub <| o_iald <| o_aload 0 <| o_get 2 1 <| o_bin n_mul <| o_cV1 2 2 F_X2_left <| o_iast <| o_iinc 4 1 <| k_jmp J 1
set_option maxRecDepth 100000 in
theorem s_X2_choose_110 {l : Launch} {D : va_G} {cI cS cM : ClassId} {F_Math_max F_X2_isPrime F_X2_findOver F_X2_leastMaker F_X2_powerOf F_X2_left : KF} (h_Math_max : k_snd l D cI cS cM Lib.Math.max.name Lib.Math.max.code 2 (some .int) 1 2 F_Math_max) (h_X2_isPrime : k_snd l D cI cS cM yX2_isPrime cX2_isPrime 2 (some .boolean) 1 1 F_X2_isPrime) (h_X2_findOver : k_snd l D cI cS cM yX2_findOver cX2_findOver 2 none 2 1 F_X2_findOver) (h_X2_leastMaker : k_snd l D cI cS cM yX2_leastMaker cX2_leastMaker 4 (some .int) 2 1 F_X2_leastMaker) (h_X2_powerOf : k_snd l D cI cS cM yX2_powerOf cX2_powerOf 5 (some .int) 2 3 F_X2_powerOf) (h_X2_left : k_snd l D cI cS cM yX2_left cX2_left 3 (some .int) 1 2 F_X2_left) {J : List KC} (hJ : ∀ (i pc d : Nat), ([(16, 0), (97, 0)] : List (Nat × Nat))[i]? = some (pc, d) → KS l D cI cS cM yX2_choose.cls yX2_choose.name cX2_choose 5 none (k_rm 3 0 0) false pc d (k_jmp J i)) : KS l D cI cS cM yX2_choose.cls yX2_choose.name cX2_choose 5 none (k_rm 3 0 0) false 110 0 (b_X2_choose_110 F_Math_max F_X2_isPrime F_X2_findOver F_X2_leastMaker F_X2_powerOf F_X2_left J) :=
  s_aload_n dX2_choose_110 rfl <|
  s_get dX2_choose_111 (ci := 2) (sl := 3) (Cn := RX2) (Tf := TX2) (N := 4) rfl (by decide) kiX2 kw_5_19 <|
  s_iload dX2_choose_114 <|
  s_aload_n dX2_choose_116 rfl <|
  s_aload_n dX2_choose_117 rfl <|
  s_get dX2_choose_118 (ci := 2) (sl := 3) (Cn := RX2) (Tf := TX2) (N := 4) rfl (by decide) kiX2 kw_5_19 <|
  s_iload dX2_choose_121 <|
  s_push1 dX2_choose_123 (by decide) (by decide) <|
  s_isub dX2_choose_124 <|
  s_iald dX2_choose_125 <|
  s_aload_n dX2_choose_126 rfl <|
  s_get dX2_choose_127 (ci := 2) (sl := 1) (Cn := RX2) (Tf := TX2) (N := 4) rfl (by decide) kiX2 kw_5_17 <|
  s_imul dX2_choose_130 <|
  s_callV1 dX2_choose_131 kw_16_22 kw_16_23 kw_17_0 (ci := 2) rfl ok_X2_left (by decide) (by decide) h_X2_left (by decide) <|
  s_iast dX2_choose_134 <|
  s_iinc dX2_choose_135 (by decide) (by decide) <|
  s_goto dX2_choose_138 (by decide) (hJ 1 _ _ rfl)
noncomputable def b_X2_choose_103 (F_Math_max F_X2_isPrime F_X2_findOver F_X2_leastMaker F_X2_powerOf F_X2_left : KF) (J : List KC) : KC := o_iload 4 <| o_push 61 <| o_c2 s_lt (b_X2_choose_110 F_Math_max F_X2_isPrime F_X2_findOver F_X2_leastMaker F_X2_powerOf F_X2_left J) (b_X2_choose_141 F_Math_max F_X2_isPrime F_X2_findOver F_X2_leastMaker F_X2_powerOf F_X2_left J)
set_option maxRecDepth 100000 in
theorem s_X2_choose_103 {l : Launch} {D : va_G} {cI cS cM : ClassId} {F_Math_max F_X2_isPrime F_X2_findOver F_X2_leastMaker F_X2_powerOf F_X2_left : KF} (h_Math_max : k_snd l D cI cS cM Lib.Math.max.name Lib.Math.max.code 2 (some .int) 1 2 F_Math_max) (h_X2_isPrime : k_snd l D cI cS cM yX2_isPrime cX2_isPrime 2 (some .boolean) 1 1 F_X2_isPrime) (h_X2_findOver : k_snd l D cI cS cM yX2_findOver cX2_findOver 2 none 2 1 F_X2_findOver) (h_X2_leastMaker : k_snd l D cI cS cM yX2_leastMaker cX2_leastMaker 4 (some .int) 2 1 F_X2_leastMaker) (h_X2_powerOf : k_snd l D cI cS cM yX2_powerOf cX2_powerOf 5 (some .int) 2 3 F_X2_powerOf) (h_X2_left : k_snd l D cI cS cM yX2_left cX2_left 3 (some .int) 1 2 F_X2_left) {J : List KC} (hJ : ∀ (i pc d : Nat), ([(16, 0), (97, 0)] : List (Nat × Nat))[i]? = some (pc, d) → KS l D cI cS cM yX2_choose.cls yX2_choose.name cX2_choose 5 none (k_rm 3 0 0) false pc d (k_jmp J i)) : KS l D cI cS cM yX2_choose.cls yX2_choose.name cX2_choose 5 none (k_rm 3 0 0) false 103 0 (b_X2_choose_103 F_Math_max F_X2_isPrime F_X2_findOver F_X2_leastMaker F_X2_powerOf F_X2_left J) :=
  s_iload dX2_choose_103 <|
  s_push2 dX2_choose_105 (by decide) (by decide) <|
  s_icmp_ge dX2_choose_107 (by decide) (s_X2_choose_141 h_Math_max h_X2_isPrime h_X2_findOver h_X2_leastMaker h_X2_powerOf h_X2_left hJ) (s_X2_choose_110 h_Math_max h_X2_isPrime h_X2_findOver h_X2_leastMaker h_X2_powerOf h_X2_left hJ)
noncomputable def b_X2_choose_97 (F_Math_max F_X2_isPrime F_X2_findOver F_X2_leastMaker F_X2_powerOf F_X2_left : KF) (J : List KC) : KC := o_iload 4 <| o_iload 3 <| o_c2 s_lt (b_X2_choose_103 F_Math_max F_X2_isPrime F_X2_findOver F_X2_leastMaker F_X2_powerOf F_X2_left J) (b_X2_choose_141 F_Math_max F_X2_isPrime F_X2_findOver F_X2_leastMaker F_X2_powerOf F_X2_left J)
set_option maxRecDepth 100000 in
theorem s_X2_choose_97 {l : Launch} {D : va_G} {cI cS cM : ClassId} {F_Math_max F_X2_isPrime F_X2_findOver F_X2_leastMaker F_X2_powerOf F_X2_left : KF} (h_Math_max : k_snd l D cI cS cM Lib.Math.max.name Lib.Math.max.code 2 (some .int) 1 2 F_Math_max) (h_X2_isPrime : k_snd l D cI cS cM yX2_isPrime cX2_isPrime 2 (some .boolean) 1 1 F_X2_isPrime) (h_X2_findOver : k_snd l D cI cS cM yX2_findOver cX2_findOver 2 none 2 1 F_X2_findOver) (h_X2_leastMaker : k_snd l D cI cS cM yX2_leastMaker cX2_leastMaker 4 (some .int) 2 1 F_X2_leastMaker) (h_X2_powerOf : k_snd l D cI cS cM yX2_powerOf cX2_powerOf 5 (some .int) 2 3 F_X2_powerOf) (h_X2_left : k_snd l D cI cS cM yX2_left cX2_left 3 (some .int) 1 2 F_X2_left) {J : List KC} (hJ : ∀ (i pc d : Nat), ([(16, 0), (97, 0)] : List (Nat × Nat))[i]? = some (pc, d) → KS l D cI cS cM yX2_choose.cls yX2_choose.name cX2_choose 5 none (k_rm 3 0 0) false pc d (k_jmp J i)) : KS l D cI cS cM yX2_choose.cls yX2_choose.name cX2_choose 5 none (k_rm 3 0 0) false 97 0 (b_X2_choose_97 F_Math_max F_X2_isPrime F_X2_findOver F_X2_leastMaker F_X2_powerOf F_X2_left J) :=
  s_iload dX2_choose_97 <|
  s_iload_n dX2_choose_99 rfl <|
  s_icmp_ge dX2_choose_100 (by decide) (s_X2_choose_141 h_Math_max h_X2_isPrime h_X2_findOver h_X2_leastMaker h_X2_powerOf h_X2_left hJ) (s_X2_choose_103 h_Math_max h_X2_isPrime h_X2_findOver h_X2_leastMaker h_X2_powerOf h_X2_left hJ)
noncomputable def b_X2_choose_63 (F_Math_max F_X2_isPrime F_X2_findOver F_X2_leastMaker F_X2_powerOf F_X2_left : KF) (J : List KC) : KC := o_aload 0 <| o_cV0 1 2 F_X2_findOver <| o_aload 0 <| o_aload 0 <| o_aload 0 <| o_cV1 1 2 F_X2_leastMaker <| o_aload 0 <| o_get 2 0 <| o_push 1 <| o_bin n_sub <| o_iload 3 <| o_div n_div <| o_cV1 3 2 F_X2_powerOf <| o_puti 2 1 <| o_aload 0 <| o_get 2 3 <| o_push 0 <| o_push 1 <| o_iast <| o_push 1 <| o_istore 4 <| b_X2_choose_97 F_Math_max F_X2_isPrime F_X2_findOver F_X2_leastMaker F_X2_powerOf F_X2_left J
set_option maxRecDepth 100000 in
theorem s_X2_choose_63 {l : Launch} {D : va_G} {cI cS cM : ClassId} {F_Math_max F_X2_isPrime F_X2_findOver F_X2_leastMaker F_X2_powerOf F_X2_left : KF} (h_Math_max : k_snd l D cI cS cM Lib.Math.max.name Lib.Math.max.code 2 (some .int) 1 2 F_Math_max) (h_X2_isPrime : k_snd l D cI cS cM yX2_isPrime cX2_isPrime 2 (some .boolean) 1 1 F_X2_isPrime) (h_X2_findOver : k_snd l D cI cS cM yX2_findOver cX2_findOver 2 none 2 1 F_X2_findOver) (h_X2_leastMaker : k_snd l D cI cS cM yX2_leastMaker cX2_leastMaker 4 (some .int) 2 1 F_X2_leastMaker) (h_X2_powerOf : k_snd l D cI cS cM yX2_powerOf cX2_powerOf 5 (some .int) 2 3 F_X2_powerOf) (h_X2_left : k_snd l D cI cS cM yX2_left cX2_left 3 (some .int) 1 2 F_X2_left) {J : List KC} (hJ : ∀ (i pc d : Nat), ([(16, 0), (97, 0)] : List (Nat × Nat))[i]? = some (pc, d) → KS l D cI cS cM yX2_choose.cls yX2_choose.name cX2_choose 5 none (k_rm 3 0 0) false pc d (k_jmp J i)) : KS l D cI cS cM yX2_choose.cls yX2_choose.name cX2_choose 5 none (k_rm 3 0 0) false 63 0 (b_X2_choose_63 F_Math_max F_X2_isPrime F_X2_findOver F_X2_leastMaker F_X2_powerOf F_X2_left J) :=
  s_aload_n dX2_choose_63 rfl <|
  s_callV0 dX2_choose_64 kw_16_18 kw_16_19 kw_16_20 (ci := 2) rfl ok_X2_findOver (by decide) (by decide) h_X2_findOver (by decide) <|
  s_aload_n dX2_choose_67 rfl <|
  s_aload_n dX2_choose_68 rfl <|
  s_aload_n dX2_choose_69 rfl <|
  s_callV1 dX2_choose_70 kw_17_2 kw_17_3 kw_17_4 (ci := 2) rfl ok_X2_leastMaker (by decide) (by decide) h_X2_leastMaker (by decide) <|
  s_aload_n dX2_choose_73 rfl <|
  s_get dX2_choose_74 (ci := 2) (sl := 0) (Cn := RX2) (Tf := TX2) (N := 4) rfl (by decide) kiX2 kw_5_16 <|
  s_push1 dX2_choose_77 (by decide) (by decide) <|
  s_isub dX2_choose_78 <|
  s_iload_n dX2_choose_79 rfl <|
  s_idiv dX2_choose_80 <|
  s_callV1 dX2_choose_81 kw_17_6 kw_17_7 kw_17_8 (ci := 2) rfl ok_X2_powerOf (by decide) (by decide) h_X2_powerOf (by decide) <|
  s_puti dX2_choose_84 (ci := 2) (sl := 1) (Cn := RX2) (Tf := TX2) (N := 4) (tyf := tyX2) rfl (by decide) kiX2 tyX2_ok nmX2 kw_5_17 rfl rfl <|
  s_aload_n dX2_choose_87 rfl <|
  s_get dX2_choose_88 (ci := 2) (sl := 3) (Cn := RX2) (Tf := TX2) (N := 4) rfl (by decide) kiX2 kw_5_19 <|
  s_push1 dX2_choose_91 (by decide) (by decide) <|
  s_push1 dX2_choose_92 (by decide) (by decide) <|
  s_iast dX2_choose_93 <|
  s_push1 dX2_choose_94 (by decide) (by decide) <|
  s_istore dX2_choose_95 (by decide) <|
  s_X2_choose_97 h_Math_max h_X2_isPrime h_X2_findOver h_X2_leastMaker h_X2_powerOf h_X2_left hJ
noncomputable def b_X2_choose_57 (F_Math_max F_X2_isPrime F_X2_findOver F_X2_leastMaker F_X2_powerOf F_X2_left : KF) (J : List KC) : KC := o_iinc 4 4294967295 <| k_jmp J 0
set_option maxRecDepth 100000 in
theorem s_X2_choose_57 {l : Launch} {D : va_G} {cI cS cM : ClassId} {F_Math_max F_X2_isPrime F_X2_findOver F_X2_leastMaker F_X2_powerOf F_X2_left : KF} (h_Math_max : k_snd l D cI cS cM Lib.Math.max.name Lib.Math.max.code 2 (some .int) 1 2 F_Math_max) (h_X2_isPrime : k_snd l D cI cS cM yX2_isPrime cX2_isPrime 2 (some .boolean) 1 1 F_X2_isPrime) (h_X2_findOver : k_snd l D cI cS cM yX2_findOver cX2_findOver 2 none 2 1 F_X2_findOver) (h_X2_leastMaker : k_snd l D cI cS cM yX2_leastMaker cX2_leastMaker 4 (some .int) 2 1 F_X2_leastMaker) (h_X2_powerOf : k_snd l D cI cS cM yX2_powerOf cX2_powerOf 5 (some .int) 2 3 F_X2_powerOf) (h_X2_left : k_snd l D cI cS cM yX2_left cX2_left 3 (some .int) 1 2 F_X2_left) {J : List KC} (hJ : ∀ (i pc d : Nat), ([(16, 0), (97, 0)] : List (Nat × Nat))[i]? = some (pc, d) → KS l D cI cS cM yX2_choose.cls yX2_choose.name cX2_choose 5 none (k_rm 3 0 0) false pc d (k_jmp J i)) : KS l D cI cS cM yX2_choose.cls yX2_choose.name cX2_choose 5 none (k_rm 3 0 0) false 57 0 (b_X2_choose_57 F_Math_max F_X2_isPrime F_X2_findOver F_X2_leastMaker F_X2_powerOf F_X2_left J) :=
  s_iinc dX2_choose_57 (by decide) (by decide) <|
  s_goto dX2_choose_60 (by decide) (hJ 0 _ _ rfl)
noncomputable def b_X2_choose_51 (F_Math_max F_X2_isPrime F_X2_findOver F_X2_leastMaker F_X2_powerOf F_X2_left : KF) (J : List KC) : KC := o_aload 0 <| o_iload 4 <| o_puti 2 0 <| b_X2_choose_57 F_Math_max F_X2_isPrime F_X2_findOver F_X2_leastMaker F_X2_powerOf F_X2_left J
set_option maxRecDepth 100000 in
theorem s_X2_choose_51 {l : Launch} {D : va_G} {cI cS cM : ClassId} {F_Math_max F_X2_isPrime F_X2_findOver F_X2_leastMaker F_X2_powerOf F_X2_left : KF} (h_Math_max : k_snd l D cI cS cM Lib.Math.max.name Lib.Math.max.code 2 (some .int) 1 2 F_Math_max) (h_X2_isPrime : k_snd l D cI cS cM yX2_isPrime cX2_isPrime 2 (some .boolean) 1 1 F_X2_isPrime) (h_X2_findOver : k_snd l D cI cS cM yX2_findOver cX2_findOver 2 none 2 1 F_X2_findOver) (h_X2_leastMaker : k_snd l D cI cS cM yX2_leastMaker cX2_leastMaker 4 (some .int) 2 1 F_X2_leastMaker) (h_X2_powerOf : k_snd l D cI cS cM yX2_powerOf cX2_powerOf 5 (some .int) 2 3 F_X2_powerOf) (h_X2_left : k_snd l D cI cS cM yX2_left cX2_left 3 (some .int) 1 2 F_X2_left) {J : List KC} (hJ : ∀ (i pc d : Nat), ([(16, 0), (97, 0)] : List (Nat × Nat))[i]? = some (pc, d) → KS l D cI cS cM yX2_choose.cls yX2_choose.name cX2_choose 5 none (k_rm 3 0 0) false pc d (k_jmp J i)) : KS l D cI cS cM yX2_choose.cls yX2_choose.name cX2_choose 5 none (k_rm 3 0 0) false 51 0 (b_X2_choose_51 F_Math_max F_X2_isPrime F_X2_findOver F_X2_leastMaker F_X2_powerOf F_X2_left J) :=
  s_aload_n dX2_choose_51 rfl <|
  s_iload dX2_choose_52 <|
  s_puti dX2_choose_54 (ci := 2) (sl := 0) (Cn := RX2) (Tf := TX2) (N := 4) (tyf := tyX2) rfl (by decide) kiX2 tyX2_ok nmX2 kw_5_16 rfl rfl <|
  s_X2_choose_57 h_Math_max h_X2_isPrime h_X2_findOver h_X2_leastMaker h_X2_powerOf h_X2_left hJ
noncomputable def b_X2_choose_43 (F_Math_max F_X2_isPrime F_X2_findOver F_X2_leastMaker F_X2_powerOf F_X2_left : KF) (J : List KC) : KC := o_iload 4 <| o_cS1 1 F_X2_isPrime <| o_c1 g_eq (b_X2_choose_57 F_Math_max F_X2_isPrime F_X2_findOver F_X2_leastMaker F_X2_powerOf F_X2_left J) (b_X2_choose_51 F_Math_max F_X2_isPrime F_X2_findOver F_X2_leastMaker F_X2_powerOf F_X2_left J)
set_option maxRecDepth 100000 in
theorem s_X2_choose_43 {l : Launch} {D : va_G} {cI cS cM : ClassId} {F_Math_max F_X2_isPrime F_X2_findOver F_X2_leastMaker F_X2_powerOf F_X2_left : KF} (h_Math_max : k_snd l D cI cS cM Lib.Math.max.name Lib.Math.max.code 2 (some .int) 1 2 F_Math_max) (h_X2_isPrime : k_snd l D cI cS cM yX2_isPrime cX2_isPrime 2 (some .boolean) 1 1 F_X2_isPrime) (h_X2_findOver : k_snd l D cI cS cM yX2_findOver cX2_findOver 2 none 2 1 F_X2_findOver) (h_X2_leastMaker : k_snd l D cI cS cM yX2_leastMaker cX2_leastMaker 4 (some .int) 2 1 F_X2_leastMaker) (h_X2_powerOf : k_snd l D cI cS cM yX2_powerOf cX2_powerOf 5 (some .int) 2 3 F_X2_powerOf) (h_X2_left : k_snd l D cI cS cM yX2_left cX2_left 3 (some .int) 1 2 F_X2_left) {J : List KC} (hJ : ∀ (i pc d : Nat), ([(16, 0), (97, 0)] : List (Nat × Nat))[i]? = some (pc, d) → KS l D cI cS cM yX2_choose.cls yX2_choose.name cX2_choose 5 none (k_rm 3 0 0) false pc d (k_jmp J i)) : KS l D cI cS cM yX2_choose.cls yX2_choose.name cX2_choose 5 none (k_rm 3 0 0) false 43 0 (b_X2_choose_43 F_Math_max F_X2_isPrime F_X2_findOver F_X2_leastMaker F_X2_powerOf F_X2_left J) :=
  s_iload dX2_choose_43 <|
  s_callS1 dX2_choose_45 kw_16_15 kw_16_16 ok_X2_isPrime (by decide) (by decide) h_X2_isPrime (by decide) <|
  s_if_eq dX2_choose_48 (by decide) (s_X2_choose_57 h_Math_max h_X2_isPrime h_X2_findOver h_X2_leastMaker h_X2_powerOf h_X2_left hJ) (s_X2_choose_51 h_Math_max h_X2_isPrime h_X2_findOver h_X2_leastMaker h_X2_powerOf h_X2_left hJ)
noncomputable def b_X2_choose_32 (F_Math_max F_X2_isPrime F_X2_findOver F_X2_leastMaker F_X2_powerOf F_X2_left : KF) (J : List KC) : KC := o_iload 4 <| o_iload 4 <| o_bin n_mul <| o_push 4 <| o_iload 1 <| o_bin n_mul <| o_c2 s_gt (b_X2_choose_43 F_Math_max F_X2_isPrime F_X2_findOver F_X2_leastMaker F_X2_powerOf F_X2_left J) (b_X2_choose_57 F_Math_max F_X2_isPrime F_X2_findOver F_X2_leastMaker F_X2_powerOf F_X2_left J)
set_option maxRecDepth 100000 in
theorem s_X2_choose_32 {l : Launch} {D : va_G} {cI cS cM : ClassId} {F_Math_max F_X2_isPrime F_X2_findOver F_X2_leastMaker F_X2_powerOf F_X2_left : KF} (h_Math_max : k_snd l D cI cS cM Lib.Math.max.name Lib.Math.max.code 2 (some .int) 1 2 F_Math_max) (h_X2_isPrime : k_snd l D cI cS cM yX2_isPrime cX2_isPrime 2 (some .boolean) 1 1 F_X2_isPrime) (h_X2_findOver : k_snd l D cI cS cM yX2_findOver cX2_findOver 2 none 2 1 F_X2_findOver) (h_X2_leastMaker : k_snd l D cI cS cM yX2_leastMaker cX2_leastMaker 4 (some .int) 2 1 F_X2_leastMaker) (h_X2_powerOf : k_snd l D cI cS cM yX2_powerOf cX2_powerOf 5 (some .int) 2 3 F_X2_powerOf) (h_X2_left : k_snd l D cI cS cM yX2_left cX2_left 3 (some .int) 1 2 F_X2_left) {J : List KC} (hJ : ∀ (i pc d : Nat), ([(16, 0), (97, 0)] : List (Nat × Nat))[i]? = some (pc, d) → KS l D cI cS cM yX2_choose.cls yX2_choose.name cX2_choose 5 none (k_rm 3 0 0) false pc d (k_jmp J i)) : KS l D cI cS cM yX2_choose.cls yX2_choose.name cX2_choose 5 none (k_rm 3 0 0) false 32 0 (b_X2_choose_32 F_Math_max F_X2_isPrime F_X2_findOver F_X2_leastMaker F_X2_powerOf F_X2_left J) :=
  s_iload dX2_choose_32 <|
  s_iload dX2_choose_34 <|
  s_imul dX2_choose_36 <|
  s_push1 dX2_choose_37 (by decide) (by decide) <|
  s_iload_n dX2_choose_38 rfl <|
  s_imul dX2_choose_39 <|
  s_icmp_le dX2_choose_40 (by decide) (s_X2_choose_57 h_Math_max h_X2_isPrime h_X2_findOver h_X2_leastMaker h_X2_powerOf h_X2_left hJ) (s_X2_choose_43 h_Math_max h_X2_isPrime h_X2_findOver h_X2_leastMaker h_X2_powerOf h_X2_left hJ)
noncomputable def b_X2_choose_23 (F_Math_max F_X2_isPrime F_X2_findOver F_X2_leastMaker F_X2_powerOf F_X2_left : KF) (J : List KC) : KC := o_iload 4 <| o_push 1 <| o_bin n_sub <| o_iload 3 <| o_div n_rem <| o_c1 g_eq (b_X2_choose_32 F_Math_max F_X2_isPrime F_X2_findOver F_X2_leastMaker F_X2_powerOf F_X2_left J) (b_X2_choose_57 F_Math_max F_X2_isPrime F_X2_findOver F_X2_leastMaker F_X2_powerOf F_X2_left J)
set_option maxRecDepth 100000 in
theorem s_X2_choose_23 {l : Launch} {D : va_G} {cI cS cM : ClassId} {F_Math_max F_X2_isPrime F_X2_findOver F_X2_leastMaker F_X2_powerOf F_X2_left : KF} (h_Math_max : k_snd l D cI cS cM Lib.Math.max.name Lib.Math.max.code 2 (some .int) 1 2 F_Math_max) (h_X2_isPrime : k_snd l D cI cS cM yX2_isPrime cX2_isPrime 2 (some .boolean) 1 1 F_X2_isPrime) (h_X2_findOver : k_snd l D cI cS cM yX2_findOver cX2_findOver 2 none 2 1 F_X2_findOver) (h_X2_leastMaker : k_snd l D cI cS cM yX2_leastMaker cX2_leastMaker 4 (some .int) 2 1 F_X2_leastMaker) (h_X2_powerOf : k_snd l D cI cS cM yX2_powerOf cX2_powerOf 5 (some .int) 2 3 F_X2_powerOf) (h_X2_left : k_snd l D cI cS cM yX2_left cX2_left 3 (some .int) 1 2 F_X2_left) {J : List KC} (hJ : ∀ (i pc d : Nat), ([(16, 0), (97, 0)] : List (Nat × Nat))[i]? = some (pc, d) → KS l D cI cS cM yX2_choose.cls yX2_choose.name cX2_choose 5 none (k_rm 3 0 0) false pc d (k_jmp J i)) : KS l D cI cS cM yX2_choose.cls yX2_choose.name cX2_choose 5 none (k_rm 3 0 0) false 23 0 (b_X2_choose_23 F_Math_max F_X2_isPrime F_X2_findOver F_X2_leastMaker F_X2_powerOf F_X2_left J) :=
  s_iload dX2_choose_23 <|
  s_push1 dX2_choose_25 (by decide) (by decide) <|
  s_isub dX2_choose_26 <|
  s_iload_n dX2_choose_27 rfl <|
  s_irem dX2_choose_28 <|
  s_if_ne dX2_choose_29 (by decide) (s_X2_choose_57 h_Math_max h_X2_isPrime h_X2_findOver h_X2_leastMaker h_X2_powerOf h_X2_left hJ) (s_X2_choose_32 h_Math_max h_X2_isPrime h_X2_findOver h_X2_leastMaker h_X2_powerOf h_X2_left hJ)
noncomputable def b_X2_choose_16 (F_Math_max F_X2_isPrime F_X2_findOver F_X2_leastMaker F_X2_powerOf F_X2_left : KF) (J : List KC) : KC := o_iload 4 <| o_push 7 <| o_c2 s_gt (b_X2_choose_23 F_Math_max F_X2_isPrime F_X2_findOver F_X2_leastMaker F_X2_powerOf F_X2_left J) (b_X2_choose_63 F_Math_max F_X2_isPrime F_X2_findOver F_X2_leastMaker F_X2_powerOf F_X2_left J)
set_option maxRecDepth 100000 in
theorem s_X2_choose_16 {l : Launch} {D : va_G} {cI cS cM : ClassId} {F_Math_max F_X2_isPrime F_X2_findOver F_X2_leastMaker F_X2_powerOf F_X2_left : KF} (h_Math_max : k_snd l D cI cS cM Lib.Math.max.name Lib.Math.max.code 2 (some .int) 1 2 F_Math_max) (h_X2_isPrime : k_snd l D cI cS cM yX2_isPrime cX2_isPrime 2 (some .boolean) 1 1 F_X2_isPrime) (h_X2_findOver : k_snd l D cI cS cM yX2_findOver cX2_findOver 2 none 2 1 F_X2_findOver) (h_X2_leastMaker : k_snd l D cI cS cM yX2_leastMaker cX2_leastMaker 4 (some .int) 2 1 F_X2_leastMaker) (h_X2_powerOf : k_snd l D cI cS cM yX2_powerOf cX2_powerOf 5 (some .int) 2 3 F_X2_powerOf) (h_X2_left : k_snd l D cI cS cM yX2_left cX2_left 3 (some .int) 1 2 F_X2_left) {J : List KC} (hJ : ∀ (i pc d : Nat), ([(16, 0), (97, 0)] : List (Nat × Nat))[i]? = some (pc, d) → KS l D cI cS cM yX2_choose.cls yX2_choose.name cX2_choose 5 none (k_rm 3 0 0) false pc d (k_jmp J i)) : KS l D cI cS cM yX2_choose.cls yX2_choose.name cX2_choose 5 none (k_rm 3 0 0) false 16 0 (b_X2_choose_16 F_Math_max F_X2_isPrime F_X2_findOver F_X2_leastMaker F_X2_powerOf F_X2_left J) :=
  s_iload dX2_choose_16 <|
  s_push2 dX2_choose_18 (by decide) (by decide) <|
  s_icmp_le dX2_choose_20 (by decide) (s_X2_choose_63 h_Math_max h_X2_isPrime h_X2_findOver h_X2_leastMaker h_X2_powerOf h_X2_left hJ) (s_X2_choose_23 h_Math_max h_X2_isPrime h_X2_findOver h_X2_leastMaker h_X2_powerOf h_X2_left hJ)
noncomputable def b_X2_choose_0 (F_Math_max F_X2_isPrime F_X2_findOver F_X2_leastMaker F_X2_powerOf F_X2_left : KF) (J : List KC) : KC := o_push 1 <| o_iload 2 <| o_cS1 2 F_Math_max <| o_istore 3 <| o_aload 0 <| o_push 61 <| o_puti 2 0 <| o_push 61 <| o_istore 4 <| b_X2_choose_16 F_Math_max F_X2_isPrime F_X2_findOver F_X2_leastMaker F_X2_powerOf F_X2_left J
set_option maxRecDepth 100000 in
theorem s_X2_choose_0 {l : Launch} {D : va_G} {cI cS cM : ClassId} {F_Math_max F_X2_isPrime F_X2_findOver F_X2_leastMaker F_X2_powerOf F_X2_left : KF} (h_Math_max : k_snd l D cI cS cM Lib.Math.max.name Lib.Math.max.code 2 (some .int) 1 2 F_Math_max) (h_X2_isPrime : k_snd l D cI cS cM yX2_isPrime cX2_isPrime 2 (some .boolean) 1 1 F_X2_isPrime) (h_X2_findOver : k_snd l D cI cS cM yX2_findOver cX2_findOver 2 none 2 1 F_X2_findOver) (h_X2_leastMaker : k_snd l D cI cS cM yX2_leastMaker cX2_leastMaker 4 (some .int) 2 1 F_X2_leastMaker) (h_X2_powerOf : k_snd l D cI cS cM yX2_powerOf cX2_powerOf 5 (some .int) 2 3 F_X2_powerOf) (h_X2_left : k_snd l D cI cS cM yX2_left cX2_left 3 (some .int) 1 2 F_X2_left) {J : List KC} (hJ : ∀ (i pc d : Nat), ([(16, 0), (97, 0)] : List (Nat × Nat))[i]? = some (pc, d) → KS l D cI cS cM yX2_choose.cls yX2_choose.name cX2_choose 5 none (k_rm 3 0 0) false pc d (k_jmp J i)) : KS l D cI cS cM yX2_choose.cls yX2_choose.name cX2_choose 5 none (k_rm 3 0 0) false 0 0 (b_X2_choose_0 F_Math_max F_X2_isPrime F_X2_findOver F_X2_leastMaker F_X2_powerOf F_X2_left J) :=
  s_push1 dX2_choose_0 (by decide) (by decide) <|
  s_iload_n dX2_choose_1 rfl <|
  s_callS1 dX2_choose_2 kw_16_11 kw_16_12 ok_Math_max (by decide) (by decide) h_Math_max (by decide) <|
  s_istore_n dX2_choose_5 rfl (by decide) <|
  s_aload_n dX2_choose_6 rfl <|
  s_push2 dX2_choose_7 (by decide) (by decide) <|
  s_puti dX2_choose_9 (ci := 2) (sl := 0) (Cn := RX2) (Tf := TX2) (N := 4) (tyf := tyX2) rfl (by decide) kiX2 tyX2_ok nmX2 kw_5_16 rfl rfl <|
  s_push2 dX2_choose_12 (by decide) (by decide) <|
  s_istore dX2_choose_14 (by decide) <|
  s_X2_choose_16 h_Math_max h_X2_isPrime h_X2_findOver h_X2_leastMaker h_X2_powerOf h_X2_left hJ
noncomputable def j_X2_choose (F_Math_max F_X2_isPrime F_X2_findOver F_X2_leastMaker F_X2_powerOf F_X2_left : KF) (J : List KC) : List KC := [b_X2_choose_16 F_Math_max F_X2_isPrime F_X2_findOver F_X2_leastMaker F_X2_powerOf F_X2_left J, b_X2_choose_97 F_Math_max F_X2_isPrime F_X2_findOver F_X2_leastMaker F_X2_powerOf F_X2_left J]
noncomputable def m_X2_choose (F_Math_max F_X2_isPrime F_X2_findOver F_X2_leastMaker F_X2_powerOf F_X2_left : KF) (n : Nat) : KF := k_fun [k_u, k_u] (b_X2_choose_0 F_Math_max F_X2_isPrime F_X2_findOver F_X2_leastMaker F_X2_powerOf F_X2_left (k_loop (j_X2_choose F_Math_max F_X2_isPrime F_X2_findOver F_X2_leastMaker F_X2_powerOf F_X2_left) n))
theorem r_X2_choose {l : Launch} {D : va_G} {cI cS cM : ClassId} {F_Math_max F_X2_isPrime F_X2_findOver F_X2_leastMaker F_X2_powerOf F_X2_left : KF} (h_Math_max : k_snd l D cI cS cM Lib.Math.max.name Lib.Math.max.code 2 (some .int) 1 2 F_Math_max) (h_X2_isPrime : k_snd l D cI cS cM yX2_isPrime cX2_isPrime 2 (some .boolean) 1 1 F_X2_isPrime) (h_X2_findOver : k_snd l D cI cS cM yX2_findOver cX2_findOver 2 none 2 1 F_X2_findOver) (h_X2_leastMaker : k_snd l D cI cS cM yX2_leastMaker cX2_leastMaker 4 (some .int) 2 1 F_X2_leastMaker) (h_X2_powerOf : k_snd l D cI cS cM yX2_powerOf cX2_powerOf 5 (some .int) 2 3 F_X2_powerOf) (h_X2_left : k_snd l D cI cS cM yX2_left cX2_left 3 (some .int) 1 2 F_X2_left) (n : Nat) : k_snd l D cI cS cM yX2_choose cX2_choose 5 none 3 3 (m_X2_choose F_Math_max F_X2_isPrime F_X2_findOver F_X2_leastMaker F_X2_powerOf F_X2_left n) :=
  k_method (by decide +kernel) (by simp) rfl (s_X2_choose_0 h_Math_max h_X2_isPrime h_X2_findOver h_X2_leastMaker h_X2_powerOf h_X2_left (k_loops (hs := [(16, 0), (97, 0)]) (fun J hJ i pc d h => match i, h with | 0, h => by cases h; exact s_X2_choose_16 h_Math_max h_X2_isPrime h_X2_findOver h_X2_leastMaker h_X2_powerOf h_X2_left hJ | 1, h => by cases h; exact s_X2_choose_97 h_Math_max h_X2_isPrime h_X2_findOver h_X2_leastMaker h_X2_powerOf h_X2_left hJ | _ + 2, h => by simp at h) n))
