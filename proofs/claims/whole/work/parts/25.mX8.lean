noncomputable def b_X8_forgetReckoned_0 : KC := o_aload 0 <| o_push 0 <| o_putz 8 6 <| o_aload 0 <| o_push 0 <| o_putz 8 7 <| o_ret
set_option maxRecDepth 100000 in
theorem s_X8_forgetReckoned_0 {l : Launch} {D : va_G} {cI cS cM : ClassId} : KS l D cI cS cM yX8_forgetReckoned.cls yX8_forgetReckoned.name cX8_forgetReckoned 1 none (k_rm 1 0 0) false 0 0 (b_X8_forgetReckoned_0) :=
  s_aload_n dX8_forgetReckoned_0 rfl <|
  s_push1 dX8_forgetReckoned_1 (by decide) (by decide) <|
  s_putz dX8_forgetReckoned_2 (ci := 8) (sl := 6) (Cn := RX8) (Tf := TX8) (N := 8) (tyf := tyX8) rfl (by decide) kiX8 tyX8_ok nmX8 kw_2_7 rfl rfl <|
  s_aload_n dX8_forgetReckoned_5 rfl <|
  s_push1 dX8_forgetReckoned_6 (by decide) (by decide) <|
  s_putz dX8_forgetReckoned_7 (ci := 8) (sl := 7) (Cn := RX8) (Tf := TX8) (N := 8) (tyf := tyX8) rfl (by decide) kiX8 tyX8_ok nmX8 kw_2_8 rfl rfl <|
  s_return dX8_forgetReckoned_10 rfl
noncomputable def m_X8_forgetReckoned : KF := k_fun [] (b_X8_forgetReckoned_0)
theorem r_X8_forgetReckoned {l : Launch} {D : va_G} {cI cS cM : ClassId} : k_snd l D cI cS cM yX8_forgetReckoned cX8_forgetReckoned 1 none 1 1 (m_X8_forgetReckoned) :=
  k_method (by decide +kernel) (by simp) rfl (s_X8_forgetReckoned_0)
noncomputable def b_X8_clear_0 (F_X4_empty : KF) : KC := o_aload 0 <| o_get 8 3 <| o_cV1 1 4 F_X4_empty <| o_iret
set_option maxRecDepth 100000 in
theorem s_X8_clear_0 {l : Launch} {D : va_G} {cI cS cM : ClassId} {F_X4_empty : KF} (h_X4_empty : k_snd l D cI cS cM yX4_empty cX4_empty 2 (some .int) 1 1 F_X4_empty) : KS l D cI cS cM yX8_clear.cls yX8_clear.name cX8_clear 1 (some .int) (k_rm 2 0 0) false 0 0 (b_X8_clear_0 F_X4_empty) :=
  s_aload_n dX8_clear_0 rfl <|
  s_get dX8_clear_1 (ci := 8) (sl := 3) (Cn := RX8) (Tf := TX8) (N := 8) rfl (by decide) kiX8 kw_2_0 <|
  s_callV1 dX8_clear_4 kw_35_16 kw_35_17 kw_35_18 (ci := 4) rfl ok_X4_empty (by decide) (by decide) h_X4_empty (by decide) <|
  s_ireturn dX8_clear_7 rfl
noncomputable def m_X8_clear (F_X4_empty : KF) : KF := k_fun [] (b_X8_clear_0 F_X4_empty)
theorem r_X8_clear {l : Launch} {D : va_G} {cI cS cM : ClassId} {F_X4_empty : KF} (h_X4_empty : k_snd l D cI cS cM yX4_empty cX4_empty 2 (some .int) 1 1 F_X4_empty) : k_snd l D cI cS cM yX8_clear cX8_clear 1 (some .int) 2 1 (m_X8_clear F_X4_empty) :=
  k_method (by decide +kernel) (by simp) rfl (s_X8_clear_0 h_X4_empty)
noncomputable def b_X8_refused_27 (F_X8_isBelow : KF) : KC := o_iload 1 <| o_iret
set_option maxRecDepth 100000 in
theorem s_X8_refused_27 {l : Launch} {D : va_G} {cI cS cM : ClassId} {F_X8_isBelow : KF} (h_X8_isBelow : k_snd l D cI cS cM yX8_isBelow cX8_isBelow 2 (some .boolean) 1 2 F_X8_isBelow) : KS l D cI cS cM yX8_refused.cls yX8_refused.name cX8_refused 3 (some .int) (k_rm 2 0 0) false 27 0 (b_X8_refused_27 F_X8_isBelow) :=
  s_iload_n dX8_refused_27 rfl <|
  s_ireturn dX8_refused_28 rfl
noncomputable def b_X8_refused_17 (F_X8_isBelow : KF) : KC := o_aload 0 <| o_get 8 5 <| o_iload 2 <| o_dup2 <| o_iald <| o_push 1 <| o_bin n_add <| o_iast <| b_X8_refused_27 F_X8_isBelow
set_option maxRecDepth 100000 in
theorem s_X8_refused_17 {l : Launch} {D : va_G} {cI cS cM : ClassId} {F_X8_isBelow : KF} (h_X8_isBelow : k_snd l D cI cS cM yX8_isBelow cX8_isBelow 2 (some .boolean) 1 2 F_X8_isBelow) : KS l D cI cS cM yX8_refused.cls yX8_refused.name cX8_refused 3 (some .int) (k_rm 2 0 0) false 17 0 (b_X8_refused_17 F_X8_isBelow) :=
  s_aload_n dX8_refused_17 rfl <|
  s_get dX8_refused_18 (ci := 8) (sl := 5) (Cn := RX8) (Tf := TX8) (N := 8) rfl (by decide) kiX8 kw_2_6 <|
  s_iload_n dX8_refused_21 rfl <|
  s_dup2 dX8_refused_22 <|
  s_iald dX8_refused_23 <|
  s_push1 dX8_refused_24 (by decide) (by decide) <|
  s_iadd dX8_refused_25 <|
  s_iast dX8_refused_26 <|
  s_X8_refused_27 h_X8_isBelow
noncomputable def b_X8_refused_0 (F_X8_isBelow : KF) : KC := o_push 4294967294 <| o_iload 1 <| o_bin n_sub <| o_istore 2 <| o_iload 2 <| o_aload 0 <| o_get 8 5 <| o_alen <| o_cS1 2 F_X8_isBelow <| o_c1 g_eq (b_X8_refused_27 F_X8_isBelow) (b_X8_refused_17 F_X8_isBelow)
set_option maxRecDepth 100000 in
theorem s_X8_refused_0 {l : Launch} {D : va_G} {cI cS cM : ClassId} {F_X8_isBelow : KF} (h_X8_isBelow : k_snd l D cI cS cM yX8_isBelow cX8_isBelow 2 (some .boolean) 1 2 F_X8_isBelow) : KS l D cI cS cM yX8_refused.cls yX8_refused.name cX8_refused 3 (some .int) (k_rm 2 0 0) false 0 0 (b_X8_refused_0 F_X8_isBelow) :=
  s_push2 dX8_refused_0 (by decide) (by decide) <|
  s_iload_n dX8_refused_2 rfl <|
  s_isub dX8_refused_3 <|
  s_istore_n dX8_refused_4 rfl (by decide) <|
  s_iload_n dX8_refused_5 rfl <|
  s_aload_n dX8_refused_6 rfl <|
  s_get dX8_refused_7 (ci := 8) (sl := 5) (Cn := RX8) (Tf := TX8) (N := 8) rfl (by decide) kiX8 kw_2_6 <|
  s_alen dX8_refused_10 <|
  s_callS1 dX8_refused_11 kw_8_13 kw_8_14 ok_X8_isBelow (by decide) (by decide) h_X8_isBelow (by decide) <|
  s_if_eq dX8_refused_14 (by decide) (s_X8_refused_27 h_X8_isBelow) (s_X8_refused_17 h_X8_isBelow)
noncomputable def m_X8_refused (F_X8_isBelow : KF) : KF := k_fun [k_u] (b_X8_refused_0 F_X8_isBelow)
theorem r_X8_refused {l : Launch} {D : va_G} {cI cS cM : ClassId} {F_X8_isBelow : KF} (h_X8_isBelow : k_snd l D cI cS cM yX8_isBelow cX8_isBelow 2 (some .boolean) 1 2 F_X8_isBelow) : k_snd l D cI cS cM yX8_refused cX8_refused 3 (some .int) 2 2 (m_X8_refused F_X8_isBelow) :=
  k_method (by decide +kernel) (by simp) rfl (s_X8_refused_0 h_X8_isBelow)
noncomputable def b_X8_sortAnswer_79 (F_X6_powerSort : KF) : KC := o_aload 3 <| o_get 6 8 <| o_iload 1 <| o_iald <| o_iret
set_option maxRecDepth 100000 in
theorem s_X8_sortAnswer_79 {l : Launch} {D : va_G} {cI cS cM : ClassId} {F_X6_powerSort : KF} (h_X6_powerSort : k_snd l D cI cS cM yX6_powerSort cX6_powerSort 3 (some .int) 1 3 F_X6_powerSort) : KS l D cI cS cM yX8_sortAnswer.cls yX8_sortAnswer.name cX8_sortAnswer 4 (some .int) (k_rm 2 0 0) false 79 0 (b_X8_sortAnswer_79 F_X6_powerSort) :=
  s_aload_n dX8_sortAnswer_79 rfl <|
  s_get dX8_sortAnswer_80 (ci := 6) (sl := 8) (Cn := RX6) (Tf := TX6) (N := 11) rfl (by decide) kiX6 kw_28_14 <|
  s_iload_n dX8_sortAnswer_83 rfl <|
  s_iald dX8_sortAnswer_84 <|
  s_ireturn dX8_sortAnswer_85 rfl
noncomputable def b_X8_sortAnswer_72 (F_X6_powerSort : KF) : KC := o_aload 3 <| o_iload 1 <| o_push 2 <| o_cV1 3 6 F_X6_powerSort <| o_iret
set_option maxRecDepth 100000 in
theorem s_X8_sortAnswer_72 {l : Launch} {D : va_G} {cI cS cM : ClassId} {F_X6_powerSort : KF} (h_X6_powerSort : k_snd l D cI cS cM yX6_powerSort cX6_powerSort 3 (some .int) 1 3 F_X6_powerSort) : KS l D cI cS cM yX8_sortAnswer.cls yX8_sortAnswer.name cX8_sortAnswer 4 (some .int) (k_rm 2 0 0) false 72 0 (b_X8_sortAnswer_72 F_X6_powerSort) :=
  s_aload_n dX8_sortAnswer_72 rfl <|
  s_iload_n dX8_sortAnswer_73 rfl <|
  s_push1 dX8_sortAnswer_74 (by decide) (by decide) <|
  s_callV1 dX8_sortAnswer_75 kw_28_15 kw_28_16 kw_28_17 (ci := 6) rfl ok_X6_powerSort (by decide) (by decide) h_X6_powerSort (by decide) <|
  s_ireturn dX8_sortAnswer_78 rfl
noncomputable def b_X8_sortAnswer_65 (F_X6_powerSort : KF) : KC := o_aload 3 <| o_get 6 7 <| o_iload 1 <| o_iald <| o_iret
set_option maxRecDepth 100000 in
theorem s_X8_sortAnswer_65 {l : Launch} {D : va_G} {cI cS cM : ClassId} {F_X6_powerSort : KF} (h_X6_powerSort : k_snd l D cI cS cM yX6_powerSort cX6_powerSort 3 (some .int) 1 3 F_X6_powerSort) : KS l D cI cS cM yX8_sortAnswer.cls yX8_sortAnswer.name cX8_sortAnswer 4 (some .int) (k_rm 2 0 0) false 65 0 (b_X8_sortAnswer_65 F_X6_powerSort) :=
  s_aload_n dX8_sortAnswer_65 rfl <|
  s_get dX8_sortAnswer_66 (ci := 6) (sl := 7) (Cn := RX6) (Tf := TX6) (N := 11) rfl (by decide) kiX6 kw_28_13 <|
  s_iload_n dX8_sortAnswer_69 rfl <|
  s_iald dX8_sortAnswer_70 <|
  s_ireturn dX8_sortAnswer_71 rfl
noncomputable def b_X8_sortAnswer_58 (F_X6_powerSort : KF) : KC := o_aload 3 <| o_get 6 6 <| o_iload 1 <| o_iald <| o_iret
set_option maxRecDepth 100000 in
theorem s_X8_sortAnswer_58 {l : Launch} {D : va_G} {cI cS cM : ClassId} {F_X6_powerSort : KF} (h_X6_powerSort : k_snd l D cI cS cM yX6_powerSort cX6_powerSort 3 (some .int) 1 3 F_X6_powerSort) : KS l D cI cS cM yX8_sortAnswer.cls yX8_sortAnswer.name cX8_sortAnswer 4 (some .int) (k_rm 2 0 0) false 58 0 (b_X8_sortAnswer_58 F_X6_powerSort) :=
  s_aload_n dX8_sortAnswer_58 rfl <|
  s_get dX8_sortAnswer_59 (ci := 6) (sl := 6) (Cn := RX6) (Tf := TX6) (N := 11) rfl (by decide) kiX6 kw_28_12 <|
  s_iload_n dX8_sortAnswer_62 rfl <|
  s_iald dX8_sortAnswer_63 <|
  s_ireturn dX8_sortAnswer_64 rfl
noncomputable def b_X8_sortAnswer_51 (F_X6_powerSort : KF) : KC := o_aload 3 <| o_get 6 5 <| o_iload 1 <| o_iald <| o_iret
set_option maxRecDepth 100000 in
theorem s_X8_sortAnswer_51 {l : Launch} {D : va_G} {cI cS cM : ClassId} {F_X6_powerSort : KF} (h_X6_powerSort : k_snd l D cI cS cM yX6_powerSort cX6_powerSort 3 (some .int) 1 3 F_X6_powerSort) : KS l D cI cS cM yX8_sortAnswer.cls yX8_sortAnswer.name cX8_sortAnswer 4 (some .int) (k_rm 2 0 0) false 51 0 (b_X8_sortAnswer_51 F_X6_powerSort) :=
  s_aload_n dX8_sortAnswer_51 rfl <|
  s_get dX8_sortAnswer_52 (ci := 6) (sl := 5) (Cn := RX6) (Tf := TX6) (N := 11) rfl (by decide) kiX6 kw_27_9 <|
  s_iload_n dX8_sortAnswer_55 rfl <|
  s_iald dX8_sortAnswer_56 <|
  s_ireturn dX8_sortAnswer_57 rfl
noncomputable def b_X8_sortAnswer_44 (F_X6_powerSort : KF) : KC := o_aload 3 <| o_get 6 4 <| o_iload 1 <| o_iald <| o_iret
set_option maxRecDepth 100000 in
theorem s_X8_sortAnswer_44 {l : Launch} {D : va_G} {cI cS cM : ClassId} {F_X6_powerSort : KF} (h_X6_powerSort : k_snd l D cI cS cM yX6_powerSort cX6_powerSort 3 (some .int) 1 3 F_X6_powerSort) : KS l D cI cS cM yX8_sortAnswer.cls yX8_sortAnswer.name cX8_sortAnswer 4 (some .int) (k_rm 2 0 0) false 44 0 (b_X8_sortAnswer_44 F_X6_powerSort) :=
  s_aload_n dX8_sortAnswer_44 rfl <|
  s_get dX8_sortAnswer_45 (ci := 6) (sl := 4) (Cn := RX6) (Tf := TX6) (N := 11) rfl (by decide) kiX6 kw_28_11 <|
  s_iload_n dX8_sortAnswer_48 rfl <|
  s_iald dX8_sortAnswer_49 <|
  s_ireturn dX8_sortAnswer_50 rfl
noncomputable def b_X8_sortAnswer_0 (F_X6_powerSort : KF) : KC := o_aload 0 <| o_get 8 4 <| o_get 3 0 <| o_astore 3 <| o_iload 2 <| o_switch [b_X8_sortAnswer_44 F_X6_powerSort, b_X8_sortAnswer_51 F_X6_powerSort, b_X8_sortAnswer_58 F_X6_powerSort, b_X8_sortAnswer_65 F_X6_powerSort, b_X8_sortAnswer_72 F_X6_powerSort] (b_X8_sortAnswer_79 F_X6_powerSort)
set_option maxRecDepth 100000 in
theorem s_X8_sortAnswer_0 {l : Launch} {D : va_G} {cI cS cM : ClassId} {F_X6_powerSort : KF} (h_X6_powerSort : k_snd l D cI cS cM yX6_powerSort cX6_powerSort 3 (some .int) 1 3 F_X6_powerSort) : KS l D cI cS cM yX8_sortAnswer.cls yX8_sortAnswer.name cX8_sortAnswer 4 (some .int) (k_rm 2 0 0) false 0 0 (b_X8_sortAnswer_0 F_X6_powerSort) :=
  s_aload_n dX8_sortAnswer_0 rfl <|
  s_get dX8_sortAnswer_1 (ci := 8) (sl := 4) (Cn := RX8) (Tf := TX8) (N := 8) rfl (by decide) kiX8 kw_2_4 <|
  s_get dX8_sortAnswer_4 (ci := 3) (sl := 0) (Cn := RX3) (Tf := TX3) (N := 8) rfl (by decide) kiX3 kw_12_18 <|
  s_astore_n dX8_sortAnswer_7 rfl (by decide) <|
  s_iload_n dX8_sortAnswer_8 rfl <|
  s_switch2 [44, 51, 58, 65, 72] dX8_sortAnswer_9 (by decide) (by decide) (by decide) (by decide) (s_X8_sortAnswer_79 h_X6_powerSort) ⟨s_X8_sortAnswer_44 h_X6_powerSort, s_X8_sortAnswer_51 h_X6_powerSort, s_X8_sortAnswer_58 h_X6_powerSort, s_X8_sortAnswer_65 h_X6_powerSort, s_X8_sortAnswer_72 h_X6_powerSort, trivial⟩
noncomputable def m_X8_sortAnswer (F_X6_powerSort : KF) : KF := k_fun [k_u] (b_X8_sortAnswer_0 F_X6_powerSort)
theorem r_X8_sortAnswer {l : Launch} {D : va_G} {cI cS cM : ClassId} {F_X6_powerSort : KF} (h_X6_powerSort : k_snd l D cI cS cM yX6_powerSort cX6_powerSort 3 (some .int) 1 3 F_X6_powerSort) : k_snd l D cI cS cM yX8_sortAnswer cX8_sortAnswer 4 (some .int) 2 3 (m_X8_sortAnswer F_X6_powerSort) :=
  k_method (by decide +kernel) (by simp) rfl (s_X8_sortAnswer_0 h_X6_powerSort)
noncomputable def b_X8_wholeAnswer_121 (F_X6_countAlone F_X3_countOfDegreeOne : KF) : KC := o_aload 0 <| o_get 8 4 <| o_cV1 1 3 F_X3_countOfDegreeOne <| o_iret
set_option maxRecDepth 100000 in
theorem s_X8_wholeAnswer_121 {l : Launch} {D : va_G} {cI cS cM : ClassId} {F_X6_countAlone F_X3_countOfDegreeOne : KF} (h_X6_countAlone : k_snd l D cI cS cM yX6_countAlone cX6_countAlone 3 (some .int) 1 1 F_X6_countAlone) (h_X3_countOfDegreeOne : k_snd l D cI cS cM yX3_countOfDegreeOne cX3_countOfDegreeOne 3 (some .int) 1 1 F_X3_countOfDegreeOne) : KS l D cI cS cM yX8_wholeAnswer.cls yX8_wholeAnswer.name cX8_wholeAnswer 2 (some .int) (k_rm 2 0 0) false 121 0 (b_X8_wholeAnswer_121 F_X6_countAlone F_X3_countOfDegreeOne) :=
  s_aload_n dX8_wholeAnswer_121 rfl <|
  s_get dX8_wholeAnswer_122 (ci := 8) (sl := 4) (Cn := RX8) (Tf := TX8) (N := 8) rfl (by decide) kiX8 kw_2_4 <|
  s_callV1 dX8_wholeAnswer_125 kw_22_1 kw_22_2 kw_22_3 (ci := 3) rfl ok_X3_countOfDegreeOne (by decide) (by decide) h_X3_countOfDegreeOne (by decide) <|
  s_ireturn dX8_wholeAnswer_128 rfl
noncomputable def b_X8_wholeAnswer_110 (F_X6_countAlone F_X3_countOfDegreeOne : KF) : KC := o_aload 0 <| o_get 8 4 <| o_get 3 0 <| o_cV1 1 6 F_X6_countAlone <| o_iret
set_option maxRecDepth 100000 in
theorem s_X8_wholeAnswer_110 {l : Launch} {D : va_G} {cI cS cM : ClassId} {F_X6_countAlone F_X3_countOfDegreeOne : KF} (h_X6_countAlone : k_snd l D cI cS cM yX6_countAlone cX6_countAlone 3 (some .int) 1 1 F_X6_countAlone) (h_X3_countOfDegreeOne : k_snd l D cI cS cM yX3_countOfDegreeOne cX3_countOfDegreeOne 3 (some .int) 1 1 F_X3_countOfDegreeOne) : KS l D cI cS cM yX8_wholeAnswer.cls yX8_wholeAnswer.name cX8_wholeAnswer 2 (some .int) (k_rm 2 0 0) false 110 0 (b_X8_wholeAnswer_110 F_X6_countAlone F_X3_countOfDegreeOne) :=
  s_aload_n dX8_wholeAnswer_110 rfl <|
  s_get dX8_wholeAnswer_111 (ci := 8) (sl := 4) (Cn := RX8) (Tf := TX8) (N := 8) rfl (by decide) kiX8 kw_2_4 <|
  s_get dX8_wholeAnswer_114 (ci := 3) (sl := 0) (Cn := RX3) (Tf := TX3) (N := 8) rfl (by decide) kiX3 kw_12_18 <|
  s_callV1 dX8_wholeAnswer_117 kw_21_21 kw_21_22 kw_21_23 (ci := 6) rfl ok_X6_countAlone (by decide) (by decide) h_X6_countAlone (by decide) <|
  s_ireturn dX8_wholeAnswer_120 rfl
noncomputable def b_X8_wholeAnswer_102 (F_X6_countAlone F_X3_countOfDegreeOne : KF) : KC := o_aload 0 <| o_get 8 0 <| o_get 5 1 <| o_iret
set_option maxRecDepth 100000 in
theorem s_X8_wholeAnswer_102 {l : Launch} {D : va_G} {cI cS cM : ClassId} {F_X6_countAlone F_X3_countOfDegreeOne : KF} (h_X6_countAlone : k_snd l D cI cS cM yX6_countAlone cX6_countAlone 3 (some .int) 1 1 F_X6_countAlone) (h_X3_countOfDegreeOne : k_snd l D cI cS cM yX3_countOfDegreeOne cX3_countOfDegreeOne 3 (some .int) 1 1 F_X3_countOfDegreeOne) : KS l D cI cS cM yX8_wholeAnswer.cls yX8_wholeAnswer.name cX8_wholeAnswer 2 (some .int) (k_rm 2 0 0) false 102 0 (b_X8_wholeAnswer_102 F_X6_countAlone F_X3_countOfDegreeOne) :=
  s_aload_n dX8_wholeAnswer_102 rfl <|
  s_get dX8_wholeAnswer_103 (ci := 8) (sl := 0) (Cn := RX8) (Tf := TX8) (N := 8) rfl (by decide) kiX8 kw_1_15 <|
  s_get dX8_wholeAnswer_106 (ci := 5) (sl := 1) (Cn := RX5) (Tf := TX5) (N := 3) rfl (by decide) kiX5 kw_21_20 <|
  s_ireturn dX8_wholeAnswer_109 rfl
noncomputable def b_X8_wholeAnswer_91 (F_X6_countAlone F_X3_countOfDegreeOne : KF) : KC := o_aload 0 <| o_get 8 4 <| o_get 3 1 <| o_get 2 1 <| o_iret
set_option maxRecDepth 100000 in
theorem s_X8_wholeAnswer_91 {l : Launch} {D : va_G} {cI cS cM : ClassId} {F_X6_countAlone F_X3_countOfDegreeOne : KF} (h_X6_countAlone : k_snd l D cI cS cM yX6_countAlone cX6_countAlone 3 (some .int) 1 1 F_X6_countAlone) (h_X3_countOfDegreeOne : k_snd l D cI cS cM yX3_countOfDegreeOne cX3_countOfDegreeOne 3 (some .int) 1 1 F_X3_countOfDegreeOne) : KS l D cI cS cM yX8_wholeAnswer.cls yX8_wholeAnswer.name cX8_wholeAnswer 2 (some .int) (k_rm 2 0 0) false 91 0 (b_X8_wholeAnswer_91 F_X6_countAlone F_X3_countOfDegreeOne) :=
  s_aload_n dX8_wholeAnswer_91 rfl <|
  s_get dX8_wholeAnswer_92 (ci := 8) (sl := 4) (Cn := RX8) (Tf := TX8) (N := 8) rfl (by decide) kiX8 kw_2_4 <|
  s_get dX8_wholeAnswer_95 (ci := 3) (sl := 1) (Cn := RX3) (Tf := TX3) (N := 8) rfl (by decide) kiX3 kw_12_20 <|
  s_get dX8_wholeAnswer_98 (ci := 2) (sl := 1) (Cn := RX2) (Tf := TX2) (N := 4) rfl (by decide) kiX2 kw_21_19 <|
  s_ireturn dX8_wholeAnswer_101 rfl
noncomputable def b_X8_wholeAnswer_80 (F_X6_countAlone F_X3_countOfDegreeOne : KF) : KC := o_aload 0 <| o_get 8 4 <| o_get 3 1 <| o_get 2 0 <| o_iret
set_option maxRecDepth 100000 in
theorem s_X8_wholeAnswer_80 {l : Launch} {D : va_G} {cI cS cM : ClassId} {F_X6_countAlone F_X3_countOfDegreeOne : KF} (h_X6_countAlone : k_snd l D cI cS cM yX6_countAlone cX6_countAlone 3 (some .int) 1 1 F_X6_countAlone) (h_X3_countOfDegreeOne : k_snd l D cI cS cM yX3_countOfDegreeOne cX3_countOfDegreeOne 3 (some .int) 1 1 F_X3_countOfDegreeOne) : KS l D cI cS cM yX8_wholeAnswer.cls yX8_wholeAnswer.name cX8_wholeAnswer 2 (some .int) (k_rm 2 0 0) false 80 0 (b_X8_wholeAnswer_80 F_X6_countAlone F_X3_countOfDegreeOne) :=
  s_aload_n dX8_wholeAnswer_80 rfl <|
  s_get dX8_wholeAnswer_81 (ci := 8) (sl := 4) (Cn := RX8) (Tf := TX8) (N := 8) rfl (by decide) kiX8 kw_2_4 <|
  s_get dX8_wholeAnswer_84 (ci := 3) (sl := 1) (Cn := RX3) (Tf := TX3) (N := 8) rfl (by decide) kiX3 kw_12_20 <|
  s_get dX8_wholeAnswer_87 (ci := 2) (sl := 0) (Cn := RX2) (Tf := TX2) (N := 4) rfl (by decide) kiX2 kw_21_18 <|
  s_ireturn dX8_wholeAnswer_90 rfl
noncomputable def b_X8_wholeAnswer_69 (F_X6_countAlone F_X3_countOfDegreeOne : KF) : KC := o_aload 0 <| o_get 8 4 <| o_get 3 0 <| o_get 6 2 <| o_iret
set_option maxRecDepth 100000 in
theorem s_X8_wholeAnswer_69 {l : Launch} {D : va_G} {cI cS cM : ClassId} {F_X6_countAlone F_X3_countOfDegreeOne : KF} (h_X6_countAlone : k_snd l D cI cS cM yX6_countAlone cX6_countAlone 3 (some .int) 1 1 F_X6_countAlone) (h_X3_countOfDegreeOne : k_snd l D cI cS cM yX3_countOfDegreeOne cX3_countOfDegreeOne 3 (some .int) 1 1 F_X3_countOfDegreeOne) : KS l D cI cS cM yX8_wholeAnswer.cls yX8_wholeAnswer.name cX8_wholeAnswer 2 (some .int) (k_rm 2 0 0) false 69 0 (b_X8_wholeAnswer_69 F_X6_countAlone F_X3_countOfDegreeOne) :=
  s_aload_n dX8_wholeAnswer_69 rfl <|
  s_get dX8_wholeAnswer_70 (ci := 8) (sl := 4) (Cn := RX8) (Tf := TX8) (N := 8) rfl (by decide) kiX8 kw_2_4 <|
  s_get dX8_wholeAnswer_73 (ci := 3) (sl := 0) (Cn := RX3) (Tf := TX3) (N := 8) rfl (by decide) kiX3 kw_12_18 <|
  s_get dX8_wholeAnswer_76 (ci := 6) (sl := 2) (Cn := RX6) (Tf := TX6) (N := 11) rfl (by decide) kiX6 kw_12_22 <|
  s_ireturn dX8_wholeAnswer_79 rfl
noncomputable def b_X8_wholeAnswer_58 (F_X6_countAlone F_X3_countOfDegreeOne : KF) : KC := o_aload 0 <| o_get 8 4 <| o_get 3 0 <| o_get 6 1 <| o_iret
set_option maxRecDepth 100000 in
theorem s_X8_wholeAnswer_58 {l : Launch} {D : va_G} {cI cS cM : ClassId} {F_X6_countAlone F_X3_countOfDegreeOne : KF} (h_X6_countAlone : k_snd l D cI cS cM yX6_countAlone cX6_countAlone 3 (some .int) 1 1 F_X6_countAlone) (h_X3_countOfDegreeOne : k_snd l D cI cS cM yX3_countOfDegreeOne cX3_countOfDegreeOne 3 (some .int) 1 1 F_X3_countOfDegreeOne) : KS l D cI cS cM yX8_wholeAnswer.cls yX8_wholeAnswer.name cX8_wholeAnswer 2 (some .int) (k_rm 2 0 0) false 58 0 (b_X8_wholeAnswer_58 F_X6_countAlone F_X3_countOfDegreeOne) :=
  s_aload_n dX8_wholeAnswer_58 rfl <|
  s_get dX8_wholeAnswer_59 (ci := 8) (sl := 4) (Cn := RX8) (Tf := TX8) (N := 8) rfl (by decide) kiX8 kw_2_4 <|
  s_get dX8_wholeAnswer_62 (ci := 3) (sl := 0) (Cn := RX3) (Tf := TX3) (N := 8) rfl (by decide) kiX3 kw_12_18 <|
  s_get dX8_wholeAnswer_65 (ci := 6) (sl := 1) (Cn := RX6) (Tf := TX6) (N := 11) rfl (by decide) kiX6 kw_21_17 <|
  s_ireturn dX8_wholeAnswer_68 rfl
noncomputable def b_X8_wholeAnswer_44 (F_X6_countAlone F_X3_countOfDegreeOne : KF) : KC := o_aload 0 <| o_get 8 4 <| o_get 3 0 <| o_get 6 0 <| o_get 0 0 <| o_iret
set_option maxRecDepth 100000 in
theorem s_X8_wholeAnswer_44 {l : Launch} {D : va_G} {cI cS cM : ClassId} {F_X6_countAlone F_X3_countOfDegreeOne : KF} (h_X6_countAlone : k_snd l D cI cS cM yX6_countAlone cX6_countAlone 3 (some .int) 1 1 F_X6_countAlone) (h_X3_countOfDegreeOne : k_snd l D cI cS cM yX3_countOfDegreeOne cX3_countOfDegreeOne 3 (some .int) 1 1 F_X3_countOfDegreeOne) : KS l D cI cS cM yX8_wholeAnswer.cls yX8_wholeAnswer.name cX8_wholeAnswer 2 (some .int) (k_rm 2 0 0) false 44 0 (b_X8_wholeAnswer_44 F_X6_countAlone F_X3_countOfDegreeOne) :=
  s_aload_n dX8_wholeAnswer_44 rfl <|
  s_get dX8_wholeAnswer_45 (ci := 8) (sl := 4) (Cn := RX8) (Tf := TX8) (N := 8) rfl (by decide) kiX8 kw_2_4 <|
  s_get dX8_wholeAnswer_48 (ci := 3) (sl := 0) (Cn := RX3) (Tf := TX3) (N := 8) rfl (by decide) kiX3 kw_12_18 <|
  s_get dX8_wholeAnswer_51 (ci := 6) (sl := 0) (Cn := RX6) (Tf := TX6) (N := 11) rfl (by decide) kiX6 kw_12_19 <|
  s_get dX8_wholeAnswer_54 (ci := 0) (sl := 0) (Cn := RX0) (Tf := TX0) (N := 9) rfl (by decide) kiX0 kw_12_21 <|
  s_ireturn dX8_wholeAnswer_57 rfl
noncomputable def b_X8_wholeAnswer_0 (F_X6_countAlone F_X3_countOfDegreeOne : KF) : KC := o_iload 1 <| o_switch [b_X8_wholeAnswer_44 F_X6_countAlone F_X3_countOfDegreeOne, b_X8_wholeAnswer_58 F_X6_countAlone F_X3_countOfDegreeOne, b_X8_wholeAnswer_69 F_X6_countAlone F_X3_countOfDegreeOne, b_X8_wholeAnswer_80 F_X6_countAlone F_X3_countOfDegreeOne, b_X8_wholeAnswer_91 F_X6_countAlone F_X3_countOfDegreeOne, b_X8_wholeAnswer_102 F_X6_countAlone F_X3_countOfDegreeOne, b_X8_wholeAnswer_110 F_X6_countAlone F_X3_countOfDegreeOne] (b_X8_wholeAnswer_121 F_X6_countAlone F_X3_countOfDegreeOne)
set_option maxRecDepth 100000 in
theorem s_X8_wholeAnswer_0 {l : Launch} {D : va_G} {cI cS cM : ClassId} {F_X6_countAlone F_X3_countOfDegreeOne : KF} (h_X6_countAlone : k_snd l D cI cS cM yX6_countAlone cX6_countAlone 3 (some .int) 1 1 F_X6_countAlone) (h_X3_countOfDegreeOne : k_snd l D cI cS cM yX3_countOfDegreeOne cX3_countOfDegreeOne 3 (some .int) 1 1 F_X3_countOfDegreeOne) : KS l D cI cS cM yX8_wholeAnswer.cls yX8_wholeAnswer.name cX8_wholeAnswer 2 (some .int) (k_rm 2 0 0) false 0 0 (b_X8_wholeAnswer_0 F_X6_countAlone F_X3_countOfDegreeOne) :=
  s_iload_n dX8_wholeAnswer_0 rfl <|
  s_switch2 [44, 58, 69, 80, 91, 102, 110] dX8_wholeAnswer_1 (by decide) (by decide) (by decide) (by decide) (s_X8_wholeAnswer_121 h_X6_countAlone h_X3_countOfDegreeOne) ⟨s_X8_wholeAnswer_44 h_X6_countAlone h_X3_countOfDegreeOne, s_X8_wholeAnswer_58 h_X6_countAlone h_X3_countOfDegreeOne, s_X8_wholeAnswer_69 h_X6_countAlone h_X3_countOfDegreeOne, s_X8_wholeAnswer_80 h_X6_countAlone h_X3_countOfDegreeOne, s_X8_wholeAnswer_91 h_X6_countAlone h_X3_countOfDegreeOne, s_X8_wholeAnswer_102 h_X6_countAlone h_X3_countOfDegreeOne, s_X8_wholeAnswer_110 h_X6_countAlone h_X3_countOfDegreeOne, trivial⟩
noncomputable def m_X8_wholeAnswer (F_X6_countAlone F_X3_countOfDegreeOne : KF) : KF := k_fun [] (b_X8_wholeAnswer_0 F_X6_countAlone F_X3_countOfDegreeOne)
theorem r_X8_wholeAnswer {l : Launch} {D : va_G} {cI cS cM : ClassId} {F_X6_countAlone F_X3_countOfDegreeOne : KF} (h_X6_countAlone : k_snd l D cI cS cM yX6_countAlone cX6_countAlone 3 (some .int) 1 1 F_X6_countAlone) (h_X3_countOfDegreeOne : k_snd l D cI cS cM yX3_countOfDegreeOne cX3_countOfDegreeOne 3 (some .int) 1 1 F_X3_countOfDegreeOne) : k_snd l D cI cS cM yX8_wholeAnswer cX8_wholeAnswer 2 (some .int) 2 2 (m_X8_wholeAnswer F_X6_countAlone F_X3_countOfDegreeOne) :=
  k_method (by decide +kernel) (by simp) rfl (s_X8_wholeAnswer_0 h_X6_countAlone h_X3_countOfDegreeOne)
noncomputable def b_X8_back_17 (F_X8_refused F_X1_restore F_X8_forgetReckoned : KF) : KC := o_aload 0 <| o_get 8 2 <| o_aload 0 <| o_get 8 0 <| o_cV0 2 1 F_X1_restore <| o_aload 0 <| o_cV0 1 8 F_X8_forgetReckoned <| o_aload 0 <| o_get 8 2 <| o_get 1 0 <| o_iret
set_option maxRecDepth 100000 in
theorem s_X8_back_17 {l : Launch} {D : va_G} {cI cS cM : ClassId} {F_X8_refused F_X1_restore F_X8_forgetReckoned : KF} (h_X8_refused : k_snd l D cI cS cM yX8_refused cX8_refused 3 (some .int) 2 2 F_X8_refused) (h_X1_restore : k_snd l D cI cS cM yX1_restore cX1_restore 2 none 2 2 F_X1_restore) (h_X8_forgetReckoned : k_snd l D cI cS cM yX8_forgetReckoned cX8_forgetReckoned 1 none 1 1 F_X8_forgetReckoned) : KS l D cI cS cM yX8_back.cls yX8_back.name cX8_back 1 (some .int) (k_rm 3 0 0) false 17 0 (b_X8_back_17 F_X8_refused F_X1_restore F_X8_forgetReckoned) :=
  s_aload_n dX8_back_17 rfl <|
  s_get dX8_back_18 (ci := 8) (sl := 2) (Cn := RX8) (Tf := TX8) (N := 8) rfl (by decide) kiX8 kw_1_20 <|
  s_aload_n dX8_back_21 rfl <|
  s_get dX8_back_22 (ci := 8) (sl := 0) (Cn := RX8) (Tf := TX8) (N := 8) rfl (by decide) kiX8 kw_1_15 <|
  s_callV0 dX8_back_25 kw_39_3 kw_39_4 kw_39_5 (ci := 1) rfl ok_X1_restore (by decide) (by decide) h_X1_restore (by decide) <|
  s_aload_n dX8_back_28 rfl <|
  s_callV0 dX8_back_29 kw_9_1 kw_9_2 kw_9_3 (ci := 8) rfl ok_X8_forgetReckoned (by decide) (by decide) h_X8_forgetReckoned (by decide) <|
  s_aload_n dX8_back_32 rfl <|
  s_get dX8_back_33 (ci := 8) (sl := 2) (Cn := RX8) (Tf := TX8) (N := 8) rfl (by decide) kiX8 kw_1_20 <|
  s_get dX8_back_36 (ci := 1) (sl := 0) (Cn := RX1) (Tf := TX1) (N := 2) rfl (by decide) kiX1 kw_39_2 <|
  s_ireturn dX8_back_39 rfl
noncomputable def b_X8_back_10 (F_X8_refused F_X1_restore F_X8_forgetReckoned : KF) : KC := o_aload 0 <| o_push 4294967293 <| o_cV1 2 8 F_X8_refused <| o_iret
set_option maxRecDepth 100000 in
theorem s_X8_back_10 {l : Launch} {D : va_G} {cI cS cM : ClassId} {F_X8_refused F_X1_restore F_X8_forgetReckoned : KF} (h_X8_refused : k_snd l D cI cS cM yX8_refused cX8_refused 3 (some .int) 2 2 F_X8_refused) (h_X1_restore : k_snd l D cI cS cM yX1_restore cX1_restore 2 none 2 2 F_X1_restore) (h_X8_forgetReckoned : k_snd l D cI cS cM yX8_forgetReckoned cX8_forgetReckoned 1 none 1 1 F_X8_forgetReckoned) : KS l D cI cS cM yX8_back.cls yX8_back.name cX8_back 1 (some .int) (k_rm 3 0 0) false 10 0 (b_X8_back_10 F_X8_refused F_X1_restore F_X8_forgetReckoned) :=
  s_aload_n dX8_back_10 rfl <|
  s_push2 dX8_back_11 (by decide) (by decide) <|
  s_callV1 dX8_back_13 kw_8_9 kw_8_10 kw_8_11 (ci := 8) rfl ok_X8_refused (by decide) (by decide) h_X8_refused (by decide) <|
  s_ireturn dX8_back_16 rfl
noncomputable def b_X8_back_0 (F_X8_refused F_X1_restore F_X8_forgetReckoned : KF) : KC := o_aload 0 <| o_get 8 2 <| o_get 1 0 <| o_c1 g_eq (b_X8_back_10 F_X8_refused F_X1_restore F_X8_forgetReckoned) (b_X8_back_17 F_X8_refused F_X1_restore F_X8_forgetReckoned)
set_option maxRecDepth 100000 in
theorem s_X8_back_0 {l : Launch} {D : va_G} {cI cS cM : ClassId} {F_X8_refused F_X1_restore F_X8_forgetReckoned : KF} (h_X8_refused : k_snd l D cI cS cM yX8_refused cX8_refused 3 (some .int) 2 2 F_X8_refused) (h_X1_restore : k_snd l D cI cS cM yX1_restore cX1_restore 2 none 2 2 F_X1_restore) (h_X8_forgetReckoned : k_snd l D cI cS cM yX8_forgetReckoned cX8_forgetReckoned 1 none 1 1 F_X8_forgetReckoned) : KS l D cI cS cM yX8_back.cls yX8_back.name cX8_back 1 (some .int) (k_rm 3 0 0) false 0 0 (b_X8_back_0 F_X8_refused F_X1_restore F_X8_forgetReckoned) :=
  s_aload_n dX8_back_0 rfl <|
  s_get dX8_back_1 (ci := 8) (sl := 2) (Cn := RX8) (Tf := TX8) (N := 8) rfl (by decide) kiX8 kw_1_20 <|
  s_get dX8_back_4 (ci := 1) (sl := 0) (Cn := RX1) (Tf := TX1) (N := 2) rfl (by decide) kiX1 kw_39_2 <|
  s_if_ne dX8_back_7 (by decide) (s_X8_back_17 h_X8_refused h_X1_restore h_X8_forgetReckoned) (s_X8_back_10 h_X8_refused h_X1_restore h_X8_forgetReckoned)
noncomputable def m_X8_back (F_X8_refused F_X1_restore F_X8_forgetReckoned : KF) : KF := k_fun [] (b_X8_back_0 F_X8_refused F_X1_restore F_X8_forgetReckoned)
theorem r_X8_back {l : Launch} {D : va_G} {cI cS cM : ClassId} {F_X8_refused F_X1_restore F_X8_forgetReckoned : KF} (h_X8_refused : k_snd l D cI cS cM yX8_refused cX8_refused 3 (some .int) 2 2 F_X8_refused) (h_X1_restore : k_snd l D cI cS cM yX1_restore cX1_restore 2 none 2 2 F_X1_restore) (h_X8_forgetReckoned : k_snd l D cI cS cM yX8_forgetReckoned cX8_forgetReckoned 1 none 1 1 F_X8_forgetReckoned) : k_snd l D cI cS cM yX8_back cX8_back 1 (some .int) 3 1 (m_X8_back F_X8_refused F_X1_restore F_X8_forgetReckoned) :=
  k_method (by decide +kernel) (by simp) rfl (s_X8_back_0 h_X8_refused h_X1_restore h_X8_forgetReckoned)
noncomputable def b_X8_settled_10 (F_X8_refused F_X1_keep F_X5_copyFrom F_X8_forgetReckoned : KF) : KC := o_aload 0 <| o_get 8 2 <| o_aload 0 <| o_get 8 0 <| o_cV0 2 1 F_X1_keep <| o_aload 0 <| o_get 8 0 <| o_aload 0 <| o_get 8 1 <| o_cV0 2 5 F_X5_copyFrom <| o_aload 0 <| o_cV0 1 8 F_X8_forgetReckoned <| o_iload 1 <| o_iret
set_option maxRecDepth 100000 in
theorem s_X8_settled_10 {l : Launch} {D : va_G} {cI cS cM : ClassId} {F_X8_refused F_X1_keep F_X5_copyFrom F_X8_forgetReckoned : KF} (h_X8_refused : k_snd l D cI cS cM yX8_refused cX8_refused 3 (some .int) 2 2 F_X8_refused) (h_X1_keep : k_snd l D cI cS cM yX1_keep cX1_keep 2 none 2 2 F_X1_keep) (h_X5_copyFrom : k_snd l D cI cS cM yX5_copyFrom cX5_copyFrom 3 none 1 2 F_X5_copyFrom) (h_X8_forgetReckoned : k_snd l D cI cS cM yX8_forgetReckoned cX8_forgetReckoned 1 none 1 1 F_X8_forgetReckoned) : KS l D cI cS cM yX8_settled.cls yX8_settled.name cX8_settled 2 (some .int) (k_rm 3 0 0) false 10 0 (b_X8_settled_10 F_X8_refused F_X1_keep F_X5_copyFrom F_X8_forgetReckoned) :=
  s_aload_n dX8_settled_10 rfl <|
  s_get dX8_settled_11 (ci := 8) (sl := 2) (Cn := RX8) (Tf := TX8) (N := 8) rfl (by decide) kiX8 kw_1_20 <|
  s_aload_n dX8_settled_14 rfl <|
  s_get dX8_settled_15 (ci := 8) (sl := 0) (Cn := RX8) (Tf := TX8) (N := 8) rfl (by decide) kiX8 kw_1_15 <|
  s_callV0 dX8_settled_18 kw_8_16 kw_8_17 kw_8_18 (ci := 1) rfl ok_X1_keep (by decide) (by decide) h_X1_keep (by decide) <|
  s_aload_n dX8_settled_21 rfl <|
  s_get dX8_settled_22 (ci := 8) (sl := 0) (Cn := RX8) (Tf := TX8) (N := 8) rfl (by decide) kiX8 kw_1_15 <|
  s_aload_n dX8_settled_25 rfl <|
  s_get dX8_settled_26 (ci := 8) (sl := 1) (Cn := RX8) (Tf := TX8) (N := 8) rfl (by decide) kiX8 kw_1_16 <|
  s_callV0 dX8_settled_29 kw_7_21 kw_7_22 kw_7_23 (ci := 5) rfl ok_X5_copyFrom (by decide) (by decide) h_X5_copyFrom (by decide) <|
  s_aload_n dX8_settled_32 rfl <|
  s_callV0 dX8_settled_33 kw_9_1 kw_9_2 kw_9_3 (ci := 8) rfl ok_X8_forgetReckoned (by decide) (by decide) h_X8_forgetReckoned (by decide) <|
  s_iload_n dX8_settled_36 rfl <|
  s_ireturn dX8_settled_37 rfl
noncomputable def b_X8_settled_4 (F_X8_refused F_X1_keep F_X5_copyFrom F_X8_forgetReckoned : KF) : KC := o_aload 0 <| o_iload 1 <| o_cV1 2 8 F_X8_refused <| o_iret
set_option maxRecDepth 100000 in
theorem s_X8_settled_4 {l : Launch} {D : va_G} {cI cS cM : ClassId} {F_X8_refused F_X1_keep F_X5_copyFrom F_X8_forgetReckoned : KF} (h_X8_refused : k_snd l D cI cS cM yX8_refused cX8_refused 3 (some .int) 2 2 F_X8_refused) (h_X1_keep : k_snd l D cI cS cM yX1_keep cX1_keep 2 none 2 2 F_X1_keep) (h_X5_copyFrom : k_snd l D cI cS cM yX5_copyFrom cX5_copyFrom 3 none 1 2 F_X5_copyFrom) (h_X8_forgetReckoned : k_snd l D cI cS cM yX8_forgetReckoned cX8_forgetReckoned 1 none 1 1 F_X8_forgetReckoned) : KS l D cI cS cM yX8_settled.cls yX8_settled.name cX8_settled 2 (some .int) (k_rm 3 0 0) false 4 0 (b_X8_settled_4 F_X8_refused F_X1_keep F_X5_copyFrom F_X8_forgetReckoned) :=
  s_aload_n dX8_settled_4 rfl <|
  s_iload_n dX8_settled_5 rfl <|
  s_callV1 dX8_settled_6 kw_8_9 kw_8_10 kw_8_11 (ci := 8) rfl ok_X8_refused (by decide) (by decide) h_X8_refused (by decide) <|
  s_ireturn dX8_settled_9 rfl
noncomputable def b_X8_settled_0 (F_X8_refused F_X1_keep F_X5_copyFrom F_X8_forgetReckoned : KF) : KC := o_iload 1 <| o_c1 g_lt (b_X8_settled_4 F_X8_refused F_X1_keep F_X5_copyFrom F_X8_forgetReckoned) (b_X8_settled_10 F_X8_refused F_X1_keep F_X5_copyFrom F_X8_forgetReckoned)
set_option maxRecDepth 100000 in
theorem s_X8_settled_0 {l : Launch} {D : va_G} {cI cS cM : ClassId} {F_X8_refused F_X1_keep F_X5_copyFrom F_X8_forgetReckoned : KF} (h_X8_refused : k_snd l D cI cS cM yX8_refused cX8_refused 3 (some .int) 2 2 F_X8_refused) (h_X1_keep : k_snd l D cI cS cM yX1_keep cX1_keep 2 none 2 2 F_X1_keep) (h_X5_copyFrom : k_snd l D cI cS cM yX5_copyFrom cX5_copyFrom 3 none 1 2 F_X5_copyFrom) (h_X8_forgetReckoned : k_snd l D cI cS cM yX8_forgetReckoned cX8_forgetReckoned 1 none 1 1 F_X8_forgetReckoned) : KS l D cI cS cM yX8_settled.cls yX8_settled.name cX8_settled 2 (some .int) (k_rm 3 0 0) false 0 0 (b_X8_settled_0 F_X8_refused F_X1_keep F_X5_copyFrom F_X8_forgetReckoned) :=
  s_iload_n dX8_settled_0 rfl <|
  s_if_ge dX8_settled_1 (by decide) (s_X8_settled_10 h_X8_refused h_X1_keep h_X5_copyFrom h_X8_forgetReckoned) (s_X8_settled_4 h_X8_refused h_X1_keep h_X5_copyFrom h_X8_forgetReckoned)
noncomputable def m_X8_settled (F_X8_refused F_X1_keep F_X5_copyFrom F_X8_forgetReckoned : KF) : KF := k_fun [] (b_X8_settled_0 F_X8_refused F_X1_keep F_X5_copyFrom F_X8_forgetReckoned)
theorem r_X8_settled {l : Launch} {D : va_G} {cI cS cM : ClassId} {F_X8_refused F_X1_keep F_X5_copyFrom F_X8_forgetReckoned : KF} (h_X8_refused : k_snd l D cI cS cM yX8_refused cX8_refused 3 (some .int) 2 2 F_X8_refused) (h_X1_keep : k_snd l D cI cS cM yX1_keep cX1_keep 2 none 2 2 F_X1_keep) (h_X5_copyFrom : k_snd l D cI cS cM yX5_copyFrom cX5_copyFrom 3 none 1 2 F_X5_copyFrom) (h_X8_forgetReckoned : k_snd l D cI cS cM yX8_forgetReckoned cX8_forgetReckoned 1 none 1 1 F_X8_forgetReckoned) : k_snd l D cI cS cM yX8_settled cX8_settled 2 (some .int) 3 2 (m_X8_settled F_X8_refused F_X1_keep F_X5_copyFrom F_X8_forgetReckoned) :=
  k_method (by decide +kernel) (by simp) rfl (s_X8_settled_0 h_X8_refused h_X1_keep h_X5_copyFrom h_X8_forgetReckoned)
noncomputable def b_X8_told_83 (F_X8_refused : KF) : KC := o_aload 0 <| o_push 4294967294 <| o_cV1 2 8 F_X8_refused <| o_iret
set_option maxRecDepth 100000 in
theorem s_X8_told_83 {l : Launch} {D : va_G} {cI cS cM : ClassId} {F_X8_refused : KF} (h_X8_refused : k_snd l D cI cS cM yX8_refused cX8_refused 3 (some .int) 2 2 F_X8_refused) : KS l D cI cS cM yX8_told.cls yX8_told.name cX8_told 2 (some .int) (k_rm 3 0 0) false 83 0 (b_X8_told_83 F_X8_refused) :=
  s_aload_n dX8_told_83 rfl <|
  s_push2 dX8_told_84 (by decide) (by decide) <|
  s_callV1 dX8_told_86 kw_8_9 kw_8_10 kw_8_11 (ci := 8) rfl ok_X8_refused (by decide) (by decide) h_X8_refused (by decide) <|
  s_ireturn dX8_told_89 rfl
noncomputable def b_X8_told_75 (F_X8_refused : KF) : KC := o_aload 0 <| o_get 8 2 <| o_get 1 0 <| o_iret
set_option maxRecDepth 100000 in
theorem s_X8_told_75 {l : Launch} {D : va_G} {cI cS cM : ClassId} {F_X8_refused : KF} (h_X8_refused : k_snd l D cI cS cM yX8_refused cX8_refused 3 (some .int) 2 2 F_X8_refused) : KS l D cI cS cM yX8_told.cls yX8_told.name cX8_told 2 (some .int) (k_rm 3 0 0) false 75 0 (b_X8_told_75 F_X8_refused) :=
  s_aload_n dX8_told_75 rfl <|
  s_get dX8_told_76 (ci := 8) (sl := 2) (Cn := RX8) (Tf := TX8) (N := 8) rfl (by decide) kiX8 kw_1_20 <|
  s_get dX8_told_79 (ci := 1) (sl := 0) (Cn := RX1) (Tf := TX1) (N := 2) rfl (by decide) kiX1 kw_39_2 <|
  s_ireturn dX8_told_82 rfl
noncomputable def b_X8_told_67 (F_X8_refused : KF) : KC := o_aload 0 <| o_get 8 0 <| o_get 5 1 <| o_iret
set_option maxRecDepth 100000 in
theorem s_X8_told_67 {l : Launch} {D : va_G} {cI cS cM : ClassId} {F_X8_refused : KF} (h_X8_refused : k_snd l D cI cS cM yX8_refused cX8_refused 3 (some .int) 2 2 F_X8_refused) : KS l D cI cS cM yX8_told.cls yX8_told.name cX8_told 2 (some .int) (k_rm 3 0 0) false 67 0 (b_X8_told_67 F_X8_refused) :=
  s_aload_n dX8_told_67 rfl <|
  s_get dX8_told_68 (ci := 8) (sl := 0) (Cn := RX8) (Tf := TX8) (N := 8) rfl (by decide) kiX8 kw_1_15 <|
  s_get dX8_told_71 (ci := 5) (sl := 1) (Cn := RX5) (Tf := TX5) (N := 3) rfl (by decide) kiX5 kw_21_20 <|
  s_ireturn dX8_told_74 rfl
noncomputable def b_X8_told_59 (F_X8_refused : KF) : KC := o_aload 0 <| o_get 8 0 <| o_get 5 0 <| o_iret
set_option maxRecDepth 100000 in
theorem s_X8_told_59 {l : Launch} {D : va_G} {cI cS cM : ClassId} {F_X8_refused : KF} (h_X8_refused : k_snd l D cI cS cM yX8_refused cX8_refused 3 (some .int) 2 2 F_X8_refused) : KS l D cI cS cM yX8_told.cls yX8_told.name cX8_told 2 (some .int) (k_rm 3 0 0) false 59 0 (b_X8_told_59 F_X8_refused) :=
  s_aload_n dX8_told_59 rfl <|
  s_get dX8_told_60 (ci := 8) (sl := 0) (Cn := RX8) (Tf := TX8) (N := 8) rfl (by decide) kiX8 kw_1_15 <|
  s_get dX8_told_63 (ci := 5) (sl := 0) (Cn := RX5) (Tf := TX5) (N := 3) rfl (by decide) kiX5 kw_39_16 <|
  s_ireturn dX8_told_66 rfl
noncomputable def b_X8_told_51 (F_X8_refused : KF) : KC := o_aload 0 <| o_get 8 3 <| o_get 4 0 <| o_iret
set_option maxRecDepth 100000 in
theorem s_X8_told_51 {l : Launch} {D : va_G} {cI cS cM : ClassId} {F_X8_refused : KF} (h_X8_refused : k_snd l D cI cS cM yX8_refused cX8_refused 3 (some .int) 2 2 F_X8_refused) : KS l D cI cS cM yX8_told.cls yX8_told.name cX8_told 2 (some .int) (k_rm 3 0 0) false 51 0 (b_X8_told_51 F_X8_refused) :=
  s_aload_n dX8_told_51 rfl <|
  s_get dX8_told_52 (ci := 8) (sl := 3) (Cn := RX8) (Tf := TX8) (N := 8) rfl (by decide) kiX8 kw_2_0 <|
  s_get dX8_told_55 (ci := 4) (sl := 0) (Cn := RX4) (Tf := TX4) (N := 10) rfl (by decide) kiX4 kw_39_15 <|
  s_ireturn dX8_told_58 rfl
noncomputable def b_X8_told_44 (F_X8_refused : KF) : KC := o_aload 0 <| o_get 8 5 <| o_iload 1 <| o_iald <| o_iret
set_option maxRecDepth 100000 in
theorem s_X8_told_44 {l : Launch} {D : va_G} {cI cS cM : ClassId} {F_X8_refused : KF} (h_X8_refused : k_snd l D cI cS cM yX8_refused cX8_refused 3 (some .int) 2 2 F_X8_refused) : KS l D cI cS cM yX8_told.cls yX8_told.name cX8_told 2 (some .int) (k_rm 3 0 0) false 44 0 (b_X8_told_44 F_X8_refused) :=
  s_aload_n dX8_told_44 rfl <|
  s_get dX8_told_45 (ci := 8) (sl := 5) (Cn := RX8) (Tf := TX8) (N := 8) rfl (by decide) kiX8 kw_2_6 <|
  s_iload_n dX8_told_48 rfl <|
  s_iald dX8_told_49 <|
  s_ireturn dX8_told_50 rfl
noncomputable def b_X8_told_0 (F_X8_refused : KF) : KC := o_iload 1 <| o_switch [b_X8_told_44 F_X8_refused, b_X8_told_44 F_X8_refused, b_X8_told_44 F_X8_refused, b_X8_told_51 F_X8_refused, b_X8_told_59 F_X8_refused, b_X8_told_67 F_X8_refused, b_X8_told_75 F_X8_refused] (b_X8_told_83 F_X8_refused)
set_option maxRecDepth 100000 in
theorem s_X8_told_0 {l : Launch} {D : va_G} {cI cS cM : ClassId} {F_X8_refused : KF} (h_X8_refused : k_snd l D cI cS cM yX8_refused cX8_refused 3 (some .int) 2 2 F_X8_refused) : KS l D cI cS cM yX8_told.cls yX8_told.name cX8_told 2 (some .int) (k_rm 3 0 0) false 0 0 (b_X8_told_0 F_X8_refused) :=
  s_iload_n dX8_told_0 rfl <|
  s_switch2 [44, 44, 44, 51, 59, 67, 75] dX8_told_1 (by decide) (by decide) (by decide) (by decide) (s_X8_told_83 h_X8_refused) ⟨s_X8_told_44 h_X8_refused, s_X8_told_44 h_X8_refused, s_X8_told_44 h_X8_refused, s_X8_told_51 h_X8_refused, s_X8_told_59 h_X8_refused, s_X8_told_67 h_X8_refused, s_X8_told_75 h_X8_refused, trivial⟩
noncomputable def m_X8_told (F_X8_refused : KF) : KF := k_fun [] (b_X8_told_0 F_X8_refused)
theorem r_X8_told {l : Launch} {D : va_G} {cI cS cM : ClassId} {F_X8_refused : KF} (h_X8_refused : k_snd l D cI cS cM yX8_refused cX8_refused 3 (some .int) 2 2 F_X8_refused) : k_snd l D cI cS cM yX8_told cX8_told 2 (some .int) 3 2 (m_X8_told F_X8_refused) :=
  k_method (by decide +kernel) (by simp) rfl (s_X8_told_0 h_X8_refused)
noncomputable def b_X8_type_22 (F_X4_append F_X8_refused : KF) : KC := o_iret
set_option maxRecDepth 100000 in
theorem s_X8_type_22 {l : Launch} {D : va_G} {cI cS cM : ClassId} {F_X4_append F_X8_refused : KF} (h_X4_append : k_snd l D cI cS cM yX4_append cX4_append 2 (some .int) 2 2 F_X4_append) (h_X8_refused : k_snd l D cI cS cM yX8_refused cX8_refused 3 (some .int) 2 2 F_X8_refused) : KS l D cI cS cM yX8_type.cls yX8_type.name cX8_type 3 (some .int) (k_rm 3 0 0) false 22 1 (b_X8_type_22 F_X4_append F_X8_refused) :=
  s_ireturn dX8_type_22 rfl
noncomputable def b_X8_type_21 (F_X4_append F_X8_refused : KF) : KC := o_iload 2 <| b_X8_type_22 F_X4_append F_X8_refused
set_option maxRecDepth 100000 in
theorem s_X8_type_21 {l : Launch} {D : va_G} {cI cS cM : ClassId} {F_X4_append F_X8_refused : KF} (h_X4_append : k_snd l D cI cS cM yX4_append cX4_append 2 (some .int) 2 2 F_X4_append) (h_X8_refused : k_snd l D cI cS cM yX8_refused cX8_refused 3 (some .int) 2 2 F_X8_refused) : KS l D cI cS cM yX8_type.cls yX8_type.name cX8_type 3 (some .int) (k_rm 3 0 0) false 21 0 (b_X8_type_21 F_X4_append F_X8_refused) :=
  s_iload_n dX8_type_21 rfl <|
  s_X8_type_22 h_X4_append h_X8_refused
noncomputable def b_X8_type_13 (F_X4_append F_X8_refused : KF) : KC := o_aload 0 <| o_iload 2 <| o_cV1 2 8 F_X8_refused <| b_X8_type_22 F_X4_append F_X8_refused
set_option maxRecDepth 100000 in
theorem s_X8_type_13 {l : Launch} {D : va_G} {cI cS cM : ClassId} {F_X4_append F_X8_refused : KF} (h_X4_append : k_snd l D cI cS cM yX4_append cX4_append 2 (some .int) 2 2 F_X4_append) (h_X8_refused : k_snd l D cI cS cM yX8_refused cX8_refused 3 (some .int) 2 2 F_X8_refused) : KS l D cI cS cM yX8_type.cls yX8_type.name cX8_type 3 (some .int) (k_rm 3 0 0) false 13 0 (b_X8_type_13 F_X4_append F_X8_refused) :=
  s_aload_n dX8_type_13 rfl <|
  s_iload_n dX8_type_14 rfl <|
  s_callV1 dX8_type_15 kw_8_9 kw_8_10 kw_8_11 (ci := 8) rfl ok_X8_refused (by decide) (by decide) h_X8_refused (by decide) <|
  s_goto dX8_type_18 (by decide) (s_X8_type_22 h_X4_append h_X8_refused)
noncomputable def b_X8_type_0 (F_X4_append F_X8_refused : KF) : KC := o_aload 0 <| o_get 8 3 <| o_iload 1 <| o_cV1 2 4 F_X4_append <| o_istore 2 <| o_iload 2 <| o_c1 g_lt (b_X8_type_13 F_X4_append F_X8_refused) (b_X8_type_21 F_X4_append F_X8_refused)
set_option maxRecDepth 100000 in
theorem s_X8_type_0 {l : Launch} {D : va_G} {cI cS cM : ClassId} {F_X4_append F_X8_refused : KF} (h_X4_append : k_snd l D cI cS cM yX4_append cX4_append 2 (some .int) 2 2 F_X4_append) (h_X8_refused : k_snd l D cI cS cM yX8_refused cX8_refused 3 (some .int) 2 2 F_X8_refused) : KS l D cI cS cM yX8_type.cls yX8_type.name cX8_type 3 (some .int) (k_rm 3 0 0) false 0 0 (b_X8_type_0 F_X4_append F_X8_refused) :=
  s_aload_n dX8_type_0 rfl <|
  s_get dX8_type_1 (ci := 8) (sl := 3) (Cn := RX8) (Tf := TX8) (N := 8) rfl (by decide) kiX8 kw_2_0 <|
  s_iload_n dX8_type_4 rfl <|
  s_callV1 dX8_type_5 kw_35_3 kw_35_4 kw_35_5 (ci := 4) rfl ok_X4_append (by decide) (by decide) h_X4_append (by decide) <|
  s_istore_n dX8_type_8 rfl (by decide) <|
  s_iload_n dX8_type_9 rfl <|
  s_if_ge dX8_type_10 (by decide) (s_X8_type_21 h_X4_append h_X8_refused) (s_X8_type_13 h_X4_append h_X8_refused)
noncomputable def m_X8_type (F_X4_append F_X8_refused : KF) : KF := k_fun [k_u] (b_X8_type_0 F_X4_append F_X8_refused)
theorem r_X8_type {l : Launch} {D : va_G} {cI cS cM : ClassId} {F_X4_append F_X8_refused : KF} (h_X4_append : k_snd l D cI cS cM yX4_append cX4_append 2 (some .int) 2 2 F_X4_append) (h_X8_refused : k_snd l D cI cS cM yX8_refused cX8_refused 3 (some .int) 2 2 F_X8_refused) : k_snd l D cI cS cM yX8_type cX8_type 3 (some .int) 3 2 (m_X8_type F_X4_append F_X8_refused) :=
  k_method (by decide +kernel) (by simp) rfl (s_X8_type_0 h_X4_append h_X8_refused)
noncomputable def b_X8_drops_0 (F_X5_copyFrom F_X5_dropGenerator F_X8_settled : KF) : KC := o_aload 0 <| o_get 8 1 <| o_aload 0 <| o_get 8 0 <| o_cV0 2 5 F_X5_copyFrom <| o_aload 0 <| o_aload 0 <| o_get 8 1 <| o_iload 1 <| o_cV1 2 5 F_X5_dropGenerator <| o_cV1 2 8 F_X8_settled <| o_iret
set_option maxRecDepth 100000 in
theorem s_X8_drops_0 {l : Launch} {D : va_G} {cI cS cM : ClassId} {F_X5_copyFrom F_X5_dropGenerator F_X8_settled : KF} (h_X5_copyFrom : k_snd l D cI cS cM yX5_copyFrom cX5_copyFrom 3 none 1 2 F_X5_copyFrom) (h_X5_dropGenerator : k_snd l D cI cS cM yX5_dropGenerator cX5_dropGenerator 3 (some .int) 2 2 F_X5_dropGenerator) (h_X8_settled : k_snd l D cI cS cM yX8_settled cX8_settled 2 (some .int) 3 2 F_X8_settled) : KS l D cI cS cM yX8_drops.cls yX8_drops.name cX8_drops 2 (some .int) (k_rm 4 0 0) false 0 0 (b_X8_drops_0 F_X5_copyFrom F_X5_dropGenerator F_X8_settled) :=
  s_aload_n dX8_drops_0 rfl <|
  s_get dX8_drops_1 (ci := 8) (sl := 1) (Cn := RX8) (Tf := TX8) (N := 8) rfl (by decide) kiX8 kw_1_16 <|
  s_aload_n dX8_drops_4 rfl <|
  s_get dX8_drops_5 (ci := 8) (sl := 0) (Cn := RX8) (Tf := TX8) (N := 8) rfl (by decide) kiX8 kw_1_15 <|
  s_callV0 dX8_drops_8 kw_7_21 kw_7_22 kw_7_23 (ci := 5) rfl ok_X5_copyFrom (by decide) (by decide) h_X5_copyFrom (by decide) <|
  s_aload_n dX8_drops_11 rfl <|
  s_aload_n dX8_drops_12 rfl <|
  s_get dX8_drops_13 (ci := 8) (sl := 1) (Cn := RX8) (Tf := TX8) (N := 8) rfl (by decide) kiX8 kw_1_16 <|
  s_iload_n dX8_drops_16 rfl <|
  s_callV1 dX8_drops_17 kw_11_18 kw_11_19 kw_11_20 (ci := 5) rfl ok_X5_dropGenerator (by decide) (by decide) h_X5_dropGenerator (by decide) <|
  s_callV1 dX8_drops_20 kw_8_5 kw_8_6 kw_8_7 (ci := 8) rfl ok_X8_settled (by decide) (by decide) h_X8_settled (by decide) <|
  s_ireturn dX8_drops_23 rfl
noncomputable def m_X8_drops (F_X5_copyFrom F_X5_dropGenerator F_X8_settled : KF) : KF := k_fun [] (b_X8_drops_0 F_X5_copyFrom F_X5_dropGenerator F_X8_settled)
theorem r_X8_drops {l : Launch} {D : va_G} {cI cS cM : ClassId} {F_X5_copyFrom F_X5_dropGenerator F_X8_settled : KF} (h_X5_copyFrom : k_snd l D cI cS cM yX5_copyFrom cX5_copyFrom 3 none 1 2 F_X5_copyFrom) (h_X5_dropGenerator : k_snd l D cI cS cM yX5_dropGenerator cX5_dropGenerator 3 (some .int) 2 2 F_X5_dropGenerator) (h_X8_settled : k_snd l D cI cS cM yX8_settled cX8_settled 2 (some .int) 3 2 F_X8_settled) : k_snd l D cI cS cM yX8_drops cX8_drops 2 (some .int) 4 2 (m_X8_drops F_X5_copyFrom F_X5_dropGenerator F_X8_settled) :=
  k_method (by decide +kernel) (by simp) rfl (s_X8_drops_0 h_X5_copyFrom h_X5_dropGenerator h_X8_settled)
noncomputable def b_X8_moves_0 (F_X5_copyFrom F_X5_addGenerator F_X8_settled : KF) : KC := o_aload 0 <| o_get 8 1 <| o_aload 0 <| o_get 8 0 <| o_cV0 2 5 F_X5_copyFrom <| o_aload 0 <| o_aload 0 <| o_get 8 1 <| o_iload 1 <| o_cV1 2 5 F_X5_addGenerator <| o_cV1 2 8 F_X8_settled <| o_iret
set_option maxRecDepth 100000 in
theorem s_X8_moves_0 {l : Launch} {D : va_G} {cI cS cM : ClassId} {F_X5_copyFrom F_X5_addGenerator F_X8_settled : KF} (h_X5_copyFrom : k_snd l D cI cS cM yX5_copyFrom cX5_copyFrom 3 none 1 2 F_X5_copyFrom) (h_X5_addGenerator : k_snd l D cI cS cM yX5_addGenerator cX5_addGenerator 2 (some .int) 2 2 F_X5_addGenerator) (h_X8_settled : k_snd l D cI cS cM yX8_settled cX8_settled 2 (some .int) 3 2 F_X8_settled) : KS l D cI cS cM yX8_moves.cls yX8_moves.name cX8_moves 2 (some .int) (k_rm 4 0 0) false 0 0 (b_X8_moves_0 F_X5_copyFrom F_X5_addGenerator F_X8_settled) :=
  s_aload_n dX8_moves_0 rfl <|
  s_get dX8_moves_1 (ci := 8) (sl := 1) (Cn := RX8) (Tf := TX8) (N := 8) rfl (by decide) kiX8 kw_1_16 <|
  s_aload_n dX8_moves_4 rfl <|
  s_get dX8_moves_5 (ci := 8) (sl := 0) (Cn := RX8) (Tf := TX8) (N := 8) rfl (by decide) kiX8 kw_1_15 <|
  s_callV0 dX8_moves_8 kw_7_21 kw_7_22 kw_7_23 (ci := 5) rfl ok_X5_copyFrom (by decide) (by decide) h_X5_copyFrom (by decide) <|
  s_aload_n dX8_moves_11 rfl <|
  s_aload_n dX8_moves_12 rfl <|
  s_get dX8_moves_13 (ci := 8) (sl := 1) (Cn := RX8) (Tf := TX8) (N := 8) rfl (by decide) kiX8 kw_1_16 <|
  s_iload_n dX8_moves_16 rfl <|
  s_callV1 dX8_moves_17 kw_10_14 kw_10_15 kw_10_16 (ci := 5) rfl ok_X5_addGenerator (by decide) (by decide) h_X5_addGenerator (by decide) <|
  s_callV1 dX8_moves_20 kw_8_5 kw_8_6 kw_8_7 (ci := 8) rfl ok_X8_settled (by decide) (by decide) h_X8_settled (by decide) <|
  s_ireturn dX8_moves_23 rfl
noncomputable def m_X8_moves (F_X5_copyFrom F_X5_addGenerator F_X8_settled : KF) : KF := k_fun [] (b_X8_moves_0 F_X5_copyFrom F_X5_addGenerator F_X8_settled)
theorem r_X8_moves {l : Launch} {D : va_G} {cI cS cM : ClassId} {F_X5_copyFrom F_X5_addGenerator F_X8_settled : KF} (h_X5_copyFrom : k_snd l D cI cS cM yX5_copyFrom cX5_copyFrom 3 none 1 2 F_X5_copyFrom) (h_X5_addGenerator : k_snd l D cI cS cM yX5_addGenerator cX5_addGenerator 2 (some .int) 2 2 F_X5_addGenerator) (h_X8_settled : k_snd l D cI cS cM yX8_settled cX8_settled 2 (some .int) 3 2 F_X8_settled) : k_snd l D cI cS cM yX8_moves cX8_moves 2 (some .int) 4 2 (m_X8_moves F_X5_copyFrom F_X5_addGenerator F_X8_settled) :=
  k_method (by decide +kernel) (by simp) rfl (s_X8_moves_0 h_X5_copyFrom h_X5_addGenerator h_X8_settled)
noncomputable def b_X8_points_0 (F_X5_copyFrom F_X5_setPoints F_X8_settled : KF) : KC := o_aload 0 <| o_get 8 1 <| o_aload 0 <| o_get 8 0 <| o_cV0 2 5 F_X5_copyFrom <| o_aload 0 <| o_aload 0 <| o_get 8 1 <| o_iload 1 <| o_cV1 2 5 F_X5_setPoints <| o_cV1 2 8 F_X8_settled <| o_iret
set_option maxRecDepth 100000 in
theorem s_X8_points_0 {l : Launch} {D : va_G} {cI cS cM : ClassId} {F_X5_copyFrom F_X5_setPoints F_X8_settled : KF} (h_X5_copyFrom : k_snd l D cI cS cM yX5_copyFrom cX5_copyFrom 3 none 1 2 F_X5_copyFrom) (h_X5_setPoints : k_snd l D cI cS cM yX5_setPoints cX5_setPoints 3 (some .int) 1 2 F_X5_setPoints) (h_X8_settled : k_snd l D cI cS cM yX8_settled cX8_settled 2 (some .int) 3 2 F_X8_settled) : KS l D cI cS cM yX8_points.cls yX8_points.name cX8_points 2 (some .int) (k_rm 4 0 0) false 0 0 (b_X8_points_0 F_X5_copyFrom F_X5_setPoints F_X8_settled) :=
  s_aload_n dX8_points_0 rfl <|
  s_get dX8_points_1 (ci := 8) (sl := 1) (Cn := RX8) (Tf := TX8) (N := 8) rfl (by decide) kiX8 kw_1_16 <|
  s_aload_n dX8_points_4 rfl <|
  s_get dX8_points_5 (ci := 8) (sl := 0) (Cn := RX8) (Tf := TX8) (N := 8) rfl (by decide) kiX8 kw_1_15 <|
  s_callV0 dX8_points_8 kw_7_21 kw_7_22 kw_7_23 (ci := 5) rfl ok_X5_copyFrom (by decide) (by decide) h_X5_copyFrom (by decide) <|
  s_aload_n dX8_points_11 rfl <|
  s_aload_n dX8_points_12 rfl <|
  s_get dX8_points_13 (ci := 8) (sl := 1) (Cn := RX8) (Tf := TX8) (N := 8) rfl (by decide) kiX8 kw_1_16 <|
  s_iload_n dX8_points_16 rfl <|
  s_callV1 dX8_points_17 kw_8_1 kw_8_2 kw_8_3 (ci := 5) rfl ok_X5_setPoints (by decide) (by decide) h_X5_setPoints (by decide) <|
  s_callV1 dX8_points_20 kw_8_5 kw_8_6 kw_8_7 (ci := 8) rfl ok_X8_settled (by decide) (by decide) h_X8_settled (by decide) <|
  s_ireturn dX8_points_23 rfl
noncomputable def m_X8_points (F_X5_copyFrom F_X5_setPoints F_X8_settled : KF) : KF := k_fun [] (b_X8_points_0 F_X5_copyFrom F_X5_setPoints F_X8_settled)
theorem r_X8_points {l : Launch} {D : va_G} {cI cS cM : ClassId} {F_X5_copyFrom F_X5_setPoints F_X8_settled : KF} (h_X5_copyFrom : k_snd l D cI cS cM yX5_copyFrom cX5_copyFrom 3 none 1 2 F_X5_copyFrom) (h_X5_setPoints : k_snd l D cI cS cM yX5_setPoints cX5_setPoints 3 (some .int) 1 2 F_X5_setPoints) (h_X8_settled : k_snd l D cI cS cM yX8_settled cX8_settled 2 (some .int) 3 2 F_X8_settled) : k_snd l D cI cS cM yX8_points cX8_points 2 (some .int) 4 2 (m_X8_points F_X5_copyFrom F_X5_setPoints F_X8_settled) :=
  k_method (by decide +kernel) (by simp) rfl (s_X8_points_0 h_X5_copyFrom h_X5_setPoints h_X8_settled)
noncomputable def b_X8_learnSorts_82 (F_X0_build F_X6_takeApart F_X6_describe F_X2_choose : KF) : KC := o_ret
set_option maxRecDepth 100000 in
theorem s_X8_learnSorts_82 {l : Launch} {D : va_G} {cI cS cM : ClassId} {F_X0_build F_X6_takeApart F_X6_describe F_X2_choose : KF} (h_X0_build : k_snd l D cI cS cM yX0_build cX0_build 3 none 4 2 F_X0_build) (h_X6_takeApart : k_snd l D cI cS cM yX6_takeApart cX6_takeApart 2 none 5 1 F_X6_takeApart) (h_X6_describe : k_snd l D cI cS cM yX6_describe cX6_describe 2 none 5 1 F_X6_describe) (h_X2_choose : k_snd l D cI cS cM yX2_choose cX2_choose 5 none 3 3 F_X2_choose) : KS l D cI cS cM yX8_learnSorts.cls yX8_learnSorts.name cX8_learnSorts 1 none (k_rm 6 0 0) false 82 0 (b_X8_learnSorts_82 F_X0_build F_X6_takeApart F_X6_describe F_X2_choose) :=
  s_return dX8_learnSorts_82 rfl
noncomputable def b_X8_learnSorts_7 (F_X0_build F_X6_takeApart F_X6_describe F_X2_choose : KF) : KC := o_aload 0 <| o_get 8 4 <| o_get 3 0 <| o_get 6 0 <| o_aload 0 <| o_get 8 0 <| o_cV0 2 0 F_X0_build <| o_aload 0 <| o_get 8 4 <| o_get 3 0 <| o_cV0 1 6 F_X6_takeApart <| o_aload 0 <| o_get 8 4 <| o_get 3 0 <| o_cV0 1 6 F_X6_describe <| o_aload 0 <| o_get 8 4 <| o_get 3 1 <| o_aload 0 <| o_get 8 4 <| o_get 3 0 <| o_get 6 0 <| o_get 0 0 <| o_aload 0 <| o_get 8 4 <| o_get 3 0 <| o_get 6 2 <| o_cV0 3 2 F_X2_choose <| o_aload 0 <| o_push 1 <| o_putz 8 6 <| b_X8_learnSorts_82 F_X0_build F_X6_takeApart F_X6_describe F_X2_choose
set_option maxRecDepth 100000 in
theorem s_X8_learnSorts_7 {l : Launch} {D : va_G} {cI cS cM : ClassId} {F_X0_build F_X6_takeApart F_X6_describe F_X2_choose : KF} (h_X0_build : k_snd l D cI cS cM yX0_build cX0_build 3 none 4 2 F_X0_build) (h_X6_takeApart : k_snd l D cI cS cM yX6_takeApart cX6_takeApart 2 none 5 1 F_X6_takeApart) (h_X6_describe : k_snd l D cI cS cM yX6_describe cX6_describe 2 none 5 1 F_X6_describe) (h_X2_choose : k_snd l D cI cS cM yX2_choose cX2_choose 5 none 3 3 F_X2_choose) : KS l D cI cS cM yX8_learnSorts.cls yX8_learnSorts.name cX8_learnSorts 1 none (k_rm 6 0 0) false 7 0 (b_X8_learnSorts_7 F_X0_build F_X6_takeApart F_X6_describe F_X2_choose) :=
  s_aload_n dX8_learnSorts_7 rfl <|
  s_get dX8_learnSorts_8 (ci := 8) (sl := 4) (Cn := RX8) (Tf := TX8) (N := 8) rfl (by decide) kiX8 kw_2_4 <|
  s_get dX8_learnSorts_11 (ci := 3) (sl := 0) (Cn := RX3) (Tf := TX3) (N := 8) rfl (by decide) kiX3 kw_12_18 <|
  s_get dX8_learnSorts_14 (ci := 6) (sl := 0) (Cn := RX6) (Tf := TX6) (N := 11) rfl (by decide) kiX6 kw_12_19 <|
  s_aload_n dX8_learnSorts_17 rfl <|
  s_get dX8_learnSorts_18 (ci := 8) (sl := 0) (Cn := RX8) (Tf := TX8) (N := 8) rfl (by decide) kiX8 kw_1_15 <|
  s_callV0 dX8_learnSorts_21 kw_12_23 kw_13_0 kw_13_1 (ci := 0) rfl ok_X0_build (by decide) (by decide) h_X0_build (by decide) <|
  s_aload_n dX8_learnSorts_24 rfl <|
  s_get dX8_learnSorts_25 (ci := 8) (sl := 4) (Cn := RX8) (Tf := TX8) (N := 8) rfl (by decide) kiX8 kw_2_4 <|
  s_get dX8_learnSorts_28 (ci := 3) (sl := 0) (Cn := RX3) (Tf := TX3) (N := 8) rfl (by decide) kiX3 kw_12_18 <|
  s_callV0 dX8_learnSorts_31 kw_14_14 kw_14_15 kw_14_16 (ci := 6) rfl ok_X6_takeApart (by decide) (by decide) h_X6_takeApart (by decide) <|
  s_aload_n dX8_learnSorts_34 rfl <|
  s_get dX8_learnSorts_35 (ci := 8) (sl := 4) (Cn := RX8) (Tf := TX8) (N := 8) rfl (by decide) kiX8 kw_2_4 <|
  s_get dX8_learnSorts_38 (ci := 3) (sl := 0) (Cn := RX3) (Tf := TX3) (N := 8) rfl (by decide) kiX3 kw_12_18 <|
  s_callV0 dX8_learnSorts_41 kw_15_4 kw_15_5 kw_15_6 (ci := 6) rfl ok_X6_describe (by decide) (by decide) h_X6_describe (by decide) <|
  s_aload_n dX8_learnSorts_44 rfl <|
  s_get dX8_learnSorts_45 (ci := 8) (sl := 4) (Cn := RX8) (Tf := TX8) (N := 8) rfl (by decide) kiX8 kw_2_4 <|
  s_get dX8_learnSorts_48 (ci := 3) (sl := 1) (Cn := RX3) (Tf := TX3) (N := 8) rfl (by decide) kiX3 kw_12_20 <|
  s_aload_n dX8_learnSorts_51 rfl <|
  s_get dX8_learnSorts_52 (ci := 8) (sl := 4) (Cn := RX8) (Tf := TX8) (N := 8) rfl (by decide) kiX8 kw_2_4 <|
  s_get dX8_learnSorts_55 (ci := 3) (sl := 0) (Cn := RX3) (Tf := TX3) (N := 8) rfl (by decide) kiX3 kw_12_18 <|
  s_get dX8_learnSorts_58 (ci := 6) (sl := 0) (Cn := RX6) (Tf := TX6) (N := 11) rfl (by decide) kiX6 kw_12_19 <|
  s_get dX8_learnSorts_61 (ci := 0) (sl := 0) (Cn := RX0) (Tf := TX0) (N := 9) rfl (by decide) kiX0 kw_12_21 <|
  s_aload_n dX8_learnSorts_64 rfl <|
  s_get dX8_learnSorts_65 (ci := 8) (sl := 4) (Cn := RX8) (Tf := TX8) (N := 8) rfl (by decide) kiX8 kw_2_4 <|
  s_get dX8_learnSorts_68 (ci := 3) (sl := 0) (Cn := RX3) (Tf := TX3) (N := 8) rfl (by decide) kiX3 kw_12_18 <|
  s_get dX8_learnSorts_71 (ci := 6) (sl := 2) (Cn := RX6) (Tf := TX6) (N := 11) rfl (by decide) kiX6 kw_12_22 <|
  s_callV0 dX8_learnSorts_74 kw_16_7 kw_16_8 kw_16_9 (ci := 2) rfl ok_X2_choose (by decide) (by decide) h_X2_choose (by decide) <|
  s_aload_n dX8_learnSorts_77 rfl <|
  s_push1 dX8_learnSorts_78 (by decide) (by decide) <|
  s_putz dX8_learnSorts_79 (ci := 8) (sl := 6) (Cn := RX8) (Tf := TX8) (N := 8) (tyf := tyX8) rfl (by decide) kiX8 tyX8_ok nmX8 kw_2_7 rfl rfl <|
  s_X8_learnSorts_82 h_X0_build h_X6_takeApart h_X6_describe h_X2_choose
noncomputable def b_X8_learnSorts_0 (F_X0_build F_X6_takeApart F_X6_describe F_X2_choose : KF) : KC := o_aload 0 <| o_get 8 6 <| o_c1 g_eq (b_X8_learnSorts_7 F_X0_build F_X6_takeApart F_X6_describe F_X2_choose) (b_X8_learnSorts_82 F_X0_build F_X6_takeApart F_X6_describe F_X2_choose)
set_option maxRecDepth 100000 in
theorem s_X8_learnSorts_0 {l : Launch} {D : va_G} {cI cS cM : ClassId} {F_X0_build F_X6_takeApart F_X6_describe F_X2_choose : KF} (h_X0_build : k_snd l D cI cS cM yX0_build cX0_build 3 none 4 2 F_X0_build) (h_X6_takeApart : k_snd l D cI cS cM yX6_takeApart cX6_takeApart 2 none 5 1 F_X6_takeApart) (h_X6_describe : k_snd l D cI cS cM yX6_describe cX6_describe 2 none 5 1 F_X6_describe) (h_X2_choose : k_snd l D cI cS cM yX2_choose cX2_choose 5 none 3 3 F_X2_choose) : KS l D cI cS cM yX8_learnSorts.cls yX8_learnSorts.name cX8_learnSorts 1 none (k_rm 6 0 0) false 0 0 (b_X8_learnSorts_0 F_X0_build F_X6_takeApart F_X6_describe F_X2_choose) :=
  s_aload_n dX8_learnSorts_0 rfl <|
  s_get dX8_learnSorts_1 (ci := 8) (sl := 6) (Cn := RX8) (Tf := TX8) (N := 8) rfl (by decide) kiX8 kw_2_7 <|
  s_if_ne dX8_learnSorts_4 (by decide) (s_X8_learnSorts_82 h_X0_build h_X6_takeApart h_X6_describe h_X2_choose) (s_X8_learnSorts_7 h_X0_build h_X6_takeApart h_X6_describe h_X2_choose)
noncomputable def m_X8_learnSorts (F_X0_build F_X6_takeApart F_X6_describe F_X2_choose : KF) : KF := k_fun [] (b_X8_learnSorts_0 F_X0_build F_X6_takeApart F_X6_describe F_X2_choose)
theorem r_X8_learnSorts {l : Launch} {D : va_G} {cI cS cM : ClassId} {F_X0_build F_X6_takeApart F_X6_describe F_X2_choose : KF} (h_X0_build : k_snd l D cI cS cM yX0_build cX0_build 3 none 4 2 F_X0_build) (h_X6_takeApart : k_snd l D cI cS cM yX6_takeApart cX6_takeApart 2 none 5 1 F_X6_takeApart) (h_X6_describe : k_snd l D cI cS cM yX6_describe cX6_describe 2 none 5 1 F_X6_describe) (h_X2_choose : k_snd l D cI cS cM yX2_choose cX2_choose 5 none 3 3 F_X2_choose) : k_snd l D cI cS cM yX8_learnSorts cX8_learnSorts 1 none 6 1 (m_X8_learnSorts F_X0_build F_X6_takeApart F_X6_describe F_X2_choose) :=
  k_method (by decide +kernel) (by simp) rfl (s_X8_learnSorts_0 h_X0_build h_X6_takeApart h_X6_describe h_X2_choose)
noncomputable def b_X8_reads_36 (F_X5_copyFrom F_X4_carryOut F_X8_settled : KF) : KC := o_iret
set_option maxRecDepth 100000 in
theorem s_X8_reads_36 {l : Launch} {D : va_G} {cI cS cM : ClassId} {F_X5_copyFrom F_X4_carryOut F_X8_settled : KF} (h_X5_copyFrom : k_snd l D cI cS cM yX5_copyFrom cX5_copyFrom 3 none 1 2 F_X5_copyFrom) (h_X4_carryOut : k_snd l D cI cS cM yX4_carryOut cX4_carryOut 4 (some .int) 5 2 F_X4_carryOut) (h_X8_settled : k_snd l D cI cS cM yX8_settled cX8_settled 2 (some .int) 3 2 F_X8_settled) : KS l D cI cS cM yX8_reads.cls yX8_reads.name cX8_reads 2 (some .int) (k_rm 6 0 0) false 36 1 (b_X8_reads_36 F_X5_copyFrom F_X4_carryOut F_X8_settled) :=
  s_ireturn dX8_reads_36 rfl
noncomputable def b_X8_reads_31 (F_X5_copyFrom F_X4_carryOut F_X8_settled : KF) : KC := o_aload 0 <| o_iload 1 <| o_cV1 2 8 F_X8_settled <| b_X8_reads_36 F_X5_copyFrom F_X4_carryOut F_X8_settled
set_option maxRecDepth 100000 in
theorem s_X8_reads_31 {l : Launch} {D : va_G} {cI cS cM : ClassId} {F_X5_copyFrom F_X4_carryOut F_X8_settled : KF} (h_X5_copyFrom : k_snd l D cI cS cM yX5_copyFrom cX5_copyFrom 3 none 1 2 F_X5_copyFrom) (h_X4_carryOut : k_snd l D cI cS cM yX4_carryOut cX4_carryOut 4 (some .int) 5 2 F_X4_carryOut) (h_X8_settled : k_snd l D cI cS cM yX8_settled cX8_settled 2 (some .int) 3 2 F_X8_settled) : KS l D cI cS cM yX8_reads.cls yX8_reads.name cX8_reads 2 (some .int) (k_rm 6 0 0) false 31 0 (b_X8_reads_31 F_X5_copyFrom F_X4_carryOut F_X8_settled) :=
  s_aload_n dX8_reads_31 rfl <|
  s_iload_n dX8_reads_32 rfl <|
  s_callV1 dX8_reads_33 kw_8_5 kw_8_6 kw_8_7 (ci := 8) rfl ok_X8_settled (by decide) (by decide) h_X8_settled (by decide) <|
  s_X8_reads_36 h_X5_copyFrom h_X4_carryOut h_X8_settled
noncomputable def b_X8_reads_27 (F_X5_copyFrom F_X4_carryOut F_X8_settled : KF) : KC := o_iload 1 <| b_X8_reads_36 F_X5_copyFrom F_X4_carryOut F_X8_settled
set_option maxRecDepth 100000 in
theorem s_X8_reads_27 {l : Launch} {D : va_G} {cI cS cM : ClassId} {F_X5_copyFrom F_X4_carryOut F_X8_settled : KF} (h_X5_copyFrom : k_snd l D cI cS cM yX5_copyFrom cX5_copyFrom 3 none 1 2 F_X5_copyFrom) (h_X4_carryOut : k_snd l D cI cS cM yX4_carryOut cX4_carryOut 4 (some .int) 5 2 F_X4_carryOut) (h_X8_settled : k_snd l D cI cS cM yX8_settled cX8_settled 2 (some .int) 3 2 F_X8_settled) : KS l D cI cS cM yX8_reads.cls yX8_reads.name cX8_reads 2 (some .int) (k_rm 6 0 0) false 27 0 (b_X8_reads_27 F_X5_copyFrom F_X4_carryOut F_X8_settled) :=
  s_iload_n dX8_reads_27 rfl <|
  s_goto dX8_reads_28 (by decide) (s_X8_reads_36 h_X5_copyFrom h_X4_carryOut h_X8_settled)
noncomputable def b_X8_reads_0 (F_X5_copyFrom F_X4_carryOut F_X8_settled : KF) : KC := o_aload 0 <| o_get 8 1 <| o_aload 0 <| o_get 8 0 <| o_cV0 2 5 F_X5_copyFrom <| o_aload 0 <| o_get 8 3 <| o_aload 0 <| o_get 8 1 <| o_cV1 2 4 F_X4_carryOut <| o_istore 1 <| o_iload 1 <| o_c1 g_lt (b_X8_reads_27 F_X5_copyFrom F_X4_carryOut F_X8_settled) (b_X8_reads_31 F_X5_copyFrom F_X4_carryOut F_X8_settled)
set_option maxRecDepth 100000 in
theorem s_X8_reads_0 {l : Launch} {D : va_G} {cI cS cM : ClassId} {F_X5_copyFrom F_X4_carryOut F_X8_settled : KF} (h_X5_copyFrom : k_snd l D cI cS cM yX5_copyFrom cX5_copyFrom 3 none 1 2 F_X5_copyFrom) (h_X4_carryOut : k_snd l D cI cS cM yX4_carryOut cX4_carryOut 4 (some .int) 5 2 F_X4_carryOut) (h_X8_settled : k_snd l D cI cS cM yX8_settled cX8_settled 2 (some .int) 3 2 F_X8_settled) : KS l D cI cS cM yX8_reads.cls yX8_reads.name cX8_reads 2 (some .int) (k_rm 6 0 0) false 0 0 (b_X8_reads_0 F_X5_copyFrom F_X4_carryOut F_X8_settled) :=
  s_aload_n dX8_reads_0 rfl <|
  s_get dX8_reads_1 (ci := 8) (sl := 1) (Cn := RX8) (Tf := TX8) (N := 8) rfl (by decide) kiX8 kw_1_16 <|
  s_aload_n dX8_reads_4 rfl <|
  s_get dX8_reads_5 (ci := 8) (sl := 0) (Cn := RX8) (Tf := TX8) (N := 8) rfl (by decide) kiX8 kw_1_15 <|
  s_callV0 dX8_reads_8 kw_7_21 kw_7_22 kw_7_23 (ci := 5) rfl ok_X5_copyFrom (by decide) (by decide) h_X5_copyFrom (by decide) <|
  s_aload_n dX8_reads_11 rfl <|
  s_get dX8_reads_12 (ci := 8) (sl := 3) (Cn := RX8) (Tf := TX8) (N := 8) rfl (by decide) kiX8 kw_2_0 <|
  s_aload_n dX8_reads_15 rfl <|
  s_get dX8_reads_16 (ci := 8) (sl := 1) (Cn := RX8) (Tf := TX8) (N := 8) rfl (by decide) kiX8 kw_1_16 <|
  s_callV1 dX8_reads_19 kw_36_4 kw_36_5 kw_36_6 (ci := 4) rfl ok_X4_carryOut (by decide) (by decide) h_X4_carryOut (by decide) <|
  s_istore_n dX8_reads_22 rfl (by decide) <|
  s_iload_n dX8_reads_23 rfl <|
  s_if_ge dX8_reads_24 (by decide) (s_X8_reads_31 h_X5_copyFrom h_X4_carryOut h_X8_settled) (s_X8_reads_27 h_X5_copyFrom h_X4_carryOut h_X8_settled)
noncomputable def m_X8_reads (F_X5_copyFrom F_X4_carryOut F_X8_settled : KF) : KF := k_fun [k_u] (b_X8_reads_0 F_X5_copyFrom F_X4_carryOut F_X8_settled)
theorem r_X8_reads {l : Launch} {D : va_G} {cI cS cM : ClassId} {F_X5_copyFrom F_X4_carryOut F_X8_settled : KF} (h_X5_copyFrom : k_snd l D cI cS cM yX5_copyFrom cX5_copyFrom 3 none 1 2 F_X5_copyFrom) (h_X4_carryOut : k_snd l D cI cS cM yX4_carryOut cX4_carryOut 4 (some .int) 5 2 F_X4_carryOut) (h_X8_settled : k_snd l D cI cS cM yX8_settled cX8_settled 2 (some .int) 3 2 F_X8_settled) : k_snd l D cI cS cM yX8_reads cX8_reads 2 (some .int) 6 1 (m_X8_reads F_X5_copyFrom F_X4_carryOut F_X8_settled) :=
  k_method (by decide +kernel) (by simp) rfl (s_X8_reads_0 h_X5_copyFrom h_X4_carryOut h_X8_settled)
noncomputable def b_X8_element_95 (F_X8_learnSorts F_X8_isBelow F_X8_refused : KF) : KC := o_aload 0 <| o_get 8 4 <| o_get 3 0 <| o_get 6 5 <| o_aload 0 <| o_get 8 4 <| o_get 3 0 <| o_get 6 3 <| o_iload 1 <| o_iald <| o_iald <| o_iret
set_option maxRecDepth 100000 in
theorem s_X8_element_95 {l : Launch} {D : va_G} {cI cS cM : ClassId} {F_X8_learnSorts F_X8_isBelow F_X8_refused : KF} (h_X8_learnSorts : k_snd l D cI cS cM yX8_learnSorts cX8_learnSorts 1 none 6 1 F_X8_learnSorts) (h_X8_isBelow : k_snd l D cI cS cM yX8_isBelow cX8_isBelow 2 (some .boolean) 1 2 F_X8_isBelow) (h_X8_refused : k_snd l D cI cS cM yX8_refused cX8_refused 3 (some .int) 2 2 F_X8_refused) : KS l D cI cS cM yX8_element.cls yX8_element.name cX8_element 4 (some .int) (k_rm 7 0 0) false 95 0 (b_X8_element_95 F_X8_learnSorts F_X8_isBelow F_X8_refused) :=
  s_aload_n dX8_element_95 rfl <|
  s_get dX8_element_96 (ci := 8) (sl := 4) (Cn := RX8) (Tf := TX8) (N := 8) rfl (by decide) kiX8 kw_2_4 <|
  s_get dX8_element_99 (ci := 3) (sl := 0) (Cn := RX3) (Tf := TX3) (N := 8) rfl (by decide) kiX3 kw_12_18 <|
  s_get dX8_element_102 (ci := 6) (sl := 5) (Cn := RX6) (Tf := TX6) (N := 11) rfl (by decide) kiX6 kw_27_9 <|
  s_aload_n dX8_element_105 rfl <|
  s_get dX8_element_106 (ci := 8) (sl := 4) (Cn := RX8) (Tf := TX8) (N := 8) rfl (by decide) kiX8 kw_2_4 <|
  s_get dX8_element_109 (ci := 3) (sl := 0) (Cn := RX3) (Tf := TX3) (N := 8) rfl (by decide) kiX3 kw_12_18 <|
  s_get dX8_element_112 (ci := 6) (sl := 3) (Cn := RX6) (Tf := TX6) (N := 11) rfl (by decide) kiX6 kw_27_7 <|
  s_iload_n dX8_element_115 rfl <|
  s_iald dX8_element_116 <|
  s_iald dX8_element_117 <|
  s_ireturn dX8_element_118 rfl
noncomputable def b_X8_element_88 (F_X8_learnSorts F_X8_isBelow F_X8_refused : KF) : KC := o_aload 3 <| o_get 0 2 <| o_iload 1 <| o_iald <| o_iret
set_option maxRecDepth 100000 in
theorem s_X8_element_88 {l : Launch} {D : va_G} {cI cS cM : ClassId} {F_X8_learnSorts F_X8_isBelow F_X8_refused : KF} (h_X8_learnSorts : k_snd l D cI cS cM yX8_learnSorts cX8_learnSorts 1 none 6 1 F_X8_learnSorts) (h_X8_isBelow : k_snd l D cI cS cM yX8_isBelow cX8_isBelow 2 (some .boolean) 1 2 F_X8_isBelow) (h_X8_refused : k_snd l D cI cS cM yX8_refused cX8_refused 3 (some .int) 2 2 F_X8_refused) : KS l D cI cS cM yX8_element.cls yX8_element.name cX8_element 4 (some .int) (k_rm 7 0 0) false 88 0 (b_X8_element_88 F_X8_learnSorts F_X8_isBelow F_X8_refused) :=
  s_aload_n dX8_element_88 rfl <|
  s_get dX8_element_89 (ci := 0) (sl := 2) (Cn := RX0) (Tf := TX0) (N := 9) rfl (by decide) kiX0 kw_27_8 <|
  s_iload_n dX8_element_92 rfl <|
  s_iald dX8_element_93 <|
  s_ireturn dX8_element_94 rfl
noncomputable def b_X8_element_75 (F_X8_learnSorts F_X8_isBelow F_X8_refused : KF) : KC := o_aload 0 <| o_get 8 4 <| o_get 3 0 <| o_get 6 3 <| o_iload 1 <| o_iald <| o_iret
set_option maxRecDepth 100000 in
theorem s_X8_element_75 {l : Launch} {D : va_G} {cI cS cM : ClassId} {F_X8_learnSorts F_X8_isBelow F_X8_refused : KF} (h_X8_learnSorts : k_snd l D cI cS cM yX8_learnSorts cX8_learnSorts 1 none 6 1 F_X8_learnSorts) (h_X8_isBelow : k_snd l D cI cS cM yX8_isBelow cX8_isBelow 2 (some .boolean) 1 2 F_X8_isBelow) (h_X8_refused : k_snd l D cI cS cM yX8_refused cX8_refused 3 (some .int) 2 2 F_X8_refused) : KS l D cI cS cM yX8_element.cls yX8_element.name cX8_element 4 (some .int) (k_rm 7 0 0) false 75 0 (b_X8_element_75 F_X8_learnSorts F_X8_isBelow F_X8_refused) :=
  s_aload_n dX8_element_75 rfl <|
  s_get dX8_element_76 (ci := 8) (sl := 4) (Cn := RX8) (Tf := TX8) (N := 8) rfl (by decide) kiX8 kw_2_4 <|
  s_get dX8_element_79 (ci := 3) (sl := 0) (Cn := RX3) (Tf := TX3) (N := 8) rfl (by decide) kiX3 kw_12_18 <|
  s_get dX8_element_82 (ci := 6) (sl := 3) (Cn := RX6) (Tf := TX6) (N := 11) rfl (by decide) kiX6 kw_27_7 <|
  s_iload_n dX8_element_85 rfl <|
  s_iald dX8_element_86 <|
  s_ireturn dX8_element_87 rfl
noncomputable def b_X8_element_68 (F_X8_learnSorts F_X8_isBelow F_X8_refused : KF) : KC := o_aload 3 <| o_get 0 1 <| o_iload 1 <| o_iald <| o_iret
set_option maxRecDepth 100000 in
theorem s_X8_element_68 {l : Launch} {D : va_G} {cI cS cM : ClassId} {F_X8_learnSorts F_X8_isBelow F_X8_refused : KF} (h_X8_learnSorts : k_snd l D cI cS cM yX8_learnSorts cX8_learnSorts 1 none 6 1 F_X8_learnSorts) (h_X8_isBelow : k_snd l D cI cS cM yX8_isBelow cX8_isBelow 2 (some .boolean) 1 2 F_X8_isBelow) (h_X8_refused : k_snd l D cI cS cM yX8_refused cX8_refused 3 (some .int) 2 2 F_X8_refused) : KS l D cI cS cM yX8_element.cls yX8_element.name cX8_element 4 (some .int) (k_rm 7 0 0) false 68 0 (b_X8_element_68 F_X8_learnSorts F_X8_isBelow F_X8_refused) :=
  s_aload_n dX8_element_68 rfl <|
  s_get dX8_element_69 (ci := 0) (sl := 1) (Cn := RX0) (Tf := TX0) (N := 9) rfl (by decide) kiX0 kw_27_6 <|
  s_iload_n dX8_element_72 rfl <|
  s_iald dX8_element_73 <|
  s_ireturn dX8_element_74 rfl
noncomputable def b_X8_element_41 (F_X8_learnSorts F_X8_isBelow F_X8_refused : KF) : KC := o_iload 2 <| o_switch [b_X8_element_68 F_X8_learnSorts F_X8_isBelow F_X8_refused, b_X8_element_75 F_X8_learnSorts F_X8_isBelow F_X8_refused, b_X8_element_88 F_X8_learnSorts F_X8_isBelow F_X8_refused] (b_X8_element_95 F_X8_learnSorts F_X8_isBelow F_X8_refused)
set_option maxRecDepth 100000 in
theorem s_X8_element_41 {l : Launch} {D : va_G} {cI cS cM : ClassId} {F_X8_learnSorts F_X8_isBelow F_X8_refused : KF} (h_X8_learnSorts : k_snd l D cI cS cM yX8_learnSorts cX8_learnSorts 1 none 6 1 F_X8_learnSorts) (h_X8_isBelow : k_snd l D cI cS cM yX8_isBelow cX8_isBelow 2 (some .boolean) 1 2 F_X8_isBelow) (h_X8_refused : k_snd l D cI cS cM yX8_refused cX8_refused 3 (some .int) 2 2 F_X8_refused) : KS l D cI cS cM yX8_element.cls yX8_element.name cX8_element 4 (some .int) (k_rm 7 0 0) false 41 0 (b_X8_element_41 F_X8_learnSorts F_X8_isBelow F_X8_refused) :=
  s_iload_n dX8_element_41 rfl <|
  s_switch2 [68, 75, 88] dX8_element_42 (by decide) (by decide) (by decide) (by decide) (s_X8_element_95 h_X8_learnSorts h_X8_isBelow h_X8_refused) ⟨s_X8_element_68 h_X8_learnSorts h_X8_isBelow h_X8_refused, s_X8_element_75 h_X8_learnSorts h_X8_isBelow h_X8_refused, s_X8_element_88 h_X8_learnSorts h_X8_isBelow h_X8_refused, trivial⟩
noncomputable def b_X8_element_34 (F_X8_learnSorts F_X8_isBelow F_X8_refused : KF) : KC := o_aload 0 <| o_push 4294967294 <| o_cV1 2 8 F_X8_refused <| o_iret
set_option maxRecDepth 100000 in
theorem s_X8_element_34 {l : Launch} {D : va_G} {cI cS cM : ClassId} {F_X8_learnSorts F_X8_isBelow F_X8_refused : KF} (h_X8_learnSorts : k_snd l D cI cS cM yX8_learnSorts cX8_learnSorts 1 none 6 1 F_X8_learnSorts) (h_X8_isBelow : k_snd l D cI cS cM yX8_isBelow cX8_isBelow 2 (some .boolean) 1 2 F_X8_isBelow) (h_X8_refused : k_snd l D cI cS cM yX8_refused cX8_refused 3 (some .int) 2 2 F_X8_refused) : KS l D cI cS cM yX8_element.cls yX8_element.name cX8_element 4 (some .int) (k_rm 7 0 0) false 34 0 (b_X8_element_34 F_X8_learnSorts F_X8_isBelow F_X8_refused) :=
  s_aload_n dX8_element_34 rfl <|
  s_push2 dX8_element_35 (by decide) (by decide) <|
  s_callV1 dX8_element_37 kw_8_9 kw_8_10 kw_8_11 (ci := 8) rfl ok_X8_refused (by decide) (by decide) h_X8_refused (by decide) <|
  s_ireturn dX8_element_40 rfl
noncomputable def b_X8_element_26 (F_X8_learnSorts F_X8_isBelow F_X8_refused : KF) : KC := o_iload 2 <| o_push 4 <| o_cS1 2 F_X8_isBelow <| o_c1 g_eq (b_X8_element_34 F_X8_learnSorts F_X8_isBelow F_X8_refused) (b_X8_element_41 F_X8_learnSorts F_X8_isBelow F_X8_refused)
set_option maxRecDepth 100000 in
theorem s_X8_element_26 {l : Launch} {D : va_G} {cI cS cM : ClassId} {F_X8_learnSorts F_X8_isBelow F_X8_refused : KF} (h_X8_learnSorts : k_snd l D cI cS cM yX8_learnSorts cX8_learnSorts 1 none 6 1 F_X8_learnSorts) (h_X8_isBelow : k_snd l D cI cS cM yX8_isBelow cX8_isBelow 2 (some .boolean) 1 2 F_X8_isBelow) (h_X8_refused : k_snd l D cI cS cM yX8_refused cX8_refused 3 (some .int) 2 2 F_X8_refused) : KS l D cI cS cM yX8_element.cls yX8_element.name cX8_element 4 (some .int) (k_rm 7 0 0) false 26 0 (b_X8_element_26 F_X8_learnSorts F_X8_isBelow F_X8_refused) :=
  s_iload_n dX8_element_26 rfl <|
  s_push1 dX8_element_27 (by decide) (by decide) <|
  s_callS1 dX8_element_28 kw_8_13 kw_8_14 ok_X8_isBelow (by decide) (by decide) h_X8_isBelow (by decide) <|
  s_if_ne dX8_element_31 (by decide) (s_X8_element_41 h_X8_learnSorts h_X8_isBelow h_X8_refused) (s_X8_element_34 h_X8_learnSorts h_X8_isBelow h_X8_refused)
noncomputable def b_X8_element_0 (F_X8_learnSorts F_X8_isBelow F_X8_refused : KF) : KC := o_aload 0 <| o_cV0 1 8 F_X8_learnSorts <| o_aload 0 <| o_get 8 4 <| o_get 3 0 <| o_get 6 0 <| o_astore 3 <| o_iload 1 <| o_aload 3 <| o_get 0 0 <| o_cS1 2 F_X8_isBelow <| o_c1 g_eq (b_X8_element_34 F_X8_learnSorts F_X8_isBelow F_X8_refused) (b_X8_element_26 F_X8_learnSorts F_X8_isBelow F_X8_refused)
set_option maxRecDepth 100000 in
theorem s_X8_element_0 {l : Launch} {D : va_G} {cI cS cM : ClassId} {F_X8_learnSorts F_X8_isBelow F_X8_refused : KF} (h_X8_learnSorts : k_snd l D cI cS cM yX8_learnSorts cX8_learnSorts 1 none 6 1 F_X8_learnSorts) (h_X8_isBelow : k_snd l D cI cS cM yX8_isBelow cX8_isBelow 2 (some .boolean) 1 2 F_X8_isBelow) (h_X8_refused : k_snd l D cI cS cM yX8_refused cX8_refused 3 (some .int) 2 2 F_X8_refused) : KS l D cI cS cM yX8_element.cls yX8_element.name cX8_element 4 (some .int) (k_rm 7 0 0) false 0 0 (b_X8_element_0 F_X8_learnSorts F_X8_isBelow F_X8_refused) :=
  s_aload_n dX8_element_0 rfl <|
  s_callV0 dX8_element_1 kw_12_14 kw_12_15 kw_12_16 (ci := 8) rfl ok_X8_learnSorts (by decide) (by decide) h_X8_learnSorts (by decide) <|
  s_aload_n dX8_element_4 rfl <|
  s_get dX8_element_5 (ci := 8) (sl := 4) (Cn := RX8) (Tf := TX8) (N := 8) rfl (by decide) kiX8 kw_2_4 <|
  s_get dX8_element_8 (ci := 3) (sl := 0) (Cn := RX3) (Tf := TX3) (N := 8) rfl (by decide) kiX3 kw_12_18 <|
  s_get dX8_element_11 (ci := 6) (sl := 0) (Cn := RX6) (Tf := TX6) (N := 11) rfl (by decide) kiX6 kw_12_19 <|
  s_astore_n dX8_element_14 rfl (by decide) <|
  s_iload_n dX8_element_15 rfl <|
  s_aload_n dX8_element_16 rfl <|
  s_get dX8_element_17 (ci := 0) (sl := 0) (Cn := RX0) (Tf := TX0) (N := 9) rfl (by decide) kiX0 kw_12_21 <|
  s_callS1 dX8_element_20 kw_8_13 kw_8_14 ok_X8_isBelow (by decide) (by decide) h_X8_isBelow (by decide) <|
  s_if_eq dX8_element_23 (by decide) (s_X8_element_34 h_X8_learnSorts h_X8_isBelow h_X8_refused) (s_X8_element_26 h_X8_learnSorts h_X8_isBelow h_X8_refused)
noncomputable def m_X8_element (F_X8_learnSorts F_X8_isBelow F_X8_refused : KF) : KF := k_fun [k_u] (b_X8_element_0 F_X8_learnSorts F_X8_isBelow F_X8_refused)
theorem r_X8_element {l : Launch} {D : va_G} {cI cS cM : ClassId} {F_X8_learnSorts F_X8_isBelow F_X8_refused : KF} (h_X8_learnSorts : k_snd l D cI cS cM yX8_learnSorts cX8_learnSorts 1 none 6 1 F_X8_learnSorts) (h_X8_isBelow : k_snd l D cI cS cM yX8_isBelow cX8_isBelow 2 (some .boolean) 1 2 F_X8_isBelow) (h_X8_refused : k_snd l D cI cS cM yX8_refused cX8_refused 3 (some .int) 2 2 F_X8_refused) : k_snd l D cI cS cM yX8_element cX8_element 4 (some .int) 7 3 (m_X8_element F_X8_learnSorts F_X8_isBelow F_X8_refused) :=
  k_method (by decide +kernel) (by simp) rfl (s_X8_element_0 h_X8_learnSorts h_X8_isBelow h_X8_refused)
noncomputable def b_X8_learnRows_23 (F_X8_learnSorts F_X3_build : KF) : KC := o_ret
set_option maxRecDepth 100000 in
theorem s_X8_learnRows_23 {l : Launch} {D : va_G} {cI cS cM : ClassId} {F_X8_learnSorts F_X3_build : KF} (h_X8_learnSorts : k_snd l D cI cS cM yX8_learnSorts cX8_learnSorts 1 none 6 1 F_X8_learnSorts) (h_X3_build : k_snd l D cI cS cM yX3_build cX3_build 3 none 5 1 F_X3_build) : KS l D cI cS cM yX8_learnRows.cls yX8_learnRows.name cX8_learnRows 1 none (k_rm 7 0 0) false 23 0 (b_X8_learnRows_23 F_X8_learnSorts F_X3_build) :=
  s_return dX8_learnRows_23 rfl
noncomputable def b_X8_learnRows_11 (F_X8_learnSorts F_X3_build : KF) : KC := o_aload 0 <| o_get 8 4 <| o_cV0 1 3 F_X3_build <| o_aload 0 <| o_push 1 <| o_putz 8 7 <| b_X8_learnRows_23 F_X8_learnSorts F_X3_build
set_option maxRecDepth 100000 in
theorem s_X8_learnRows_11 {l : Launch} {D : va_G} {cI cS cM : ClassId} {F_X8_learnSorts F_X3_build : KF} (h_X8_learnSorts : k_snd l D cI cS cM yX8_learnSorts cX8_learnSorts 1 none 6 1 F_X8_learnSorts) (h_X3_build : k_snd l D cI cS cM yX3_build cX3_build 3 none 5 1 F_X3_build) : KS l D cI cS cM yX8_learnRows.cls yX8_learnRows.name cX8_learnRows 1 none (k_rm 7 0 0) false 11 0 (b_X8_learnRows_11 F_X8_learnSorts F_X3_build) :=
  s_aload_n dX8_learnRows_11 rfl <|
  s_get dX8_learnRows_12 (ci := 8) (sl := 4) (Cn := RX8) (Tf := TX8) (N := 8) rfl (by decide) kiX8 kw_2_4 <|
  s_callV0 dX8_learnRows_15 kw_17_10 kw_17_11 kw_17_12 (ci := 3) rfl ok_X3_build (by decide) (by decide) h_X3_build (by decide) <|
  s_aload_n dX8_learnRows_18 rfl <|
  s_push1 dX8_learnRows_19 (by decide) (by decide) <|
  s_putz dX8_learnRows_20 (ci := 8) (sl := 7) (Cn := RX8) (Tf := TX8) (N := 8) (tyf := tyX8) rfl (by decide) kiX8 tyX8_ok nmX8 kw_2_8 rfl rfl <|
  s_X8_learnRows_23 h_X8_learnSorts h_X3_build
noncomputable def b_X8_learnRows_0 (F_X8_learnSorts F_X3_build : KF) : KC := o_aload 0 <| o_cV0 1 8 F_X8_learnSorts <| o_aload 0 <| o_get 8 7 <| o_c1 g_eq (b_X8_learnRows_11 F_X8_learnSorts F_X3_build) (b_X8_learnRows_23 F_X8_learnSorts F_X3_build)
set_option maxRecDepth 100000 in
theorem s_X8_learnRows_0 {l : Launch} {D : va_G} {cI cS cM : ClassId} {F_X8_learnSorts F_X3_build : KF} (h_X8_learnSorts : k_snd l D cI cS cM yX8_learnSorts cX8_learnSorts 1 none 6 1 F_X8_learnSorts) (h_X3_build : k_snd l D cI cS cM yX3_build cX3_build 3 none 5 1 F_X3_build) : KS l D cI cS cM yX8_learnRows.cls yX8_learnRows.name cX8_learnRows 1 none (k_rm 7 0 0) false 0 0 (b_X8_learnRows_0 F_X8_learnSorts F_X3_build) :=
  s_aload_n dX8_learnRows_0 rfl <|
  s_callV0 dX8_learnRows_1 kw_12_14 kw_12_15 kw_12_16 (ci := 8) rfl ok_X8_learnSorts (by decide) (by decide) h_X8_learnSorts (by decide) <|
  s_aload_n dX8_learnRows_4 rfl <|
  s_get dX8_learnRows_5 (ci := 8) (sl := 7) (Cn := RX8) (Tf := TX8) (N := 8) rfl (by decide) kiX8 kw_2_8 <|
  s_if_ne dX8_learnRows_8 (by decide) (s_X8_learnRows_23 h_X8_learnSorts h_X3_build) (s_X8_learnRows_11 h_X8_learnSorts h_X3_build)
noncomputable def m_X8_learnRows (F_X8_learnSorts F_X3_build : KF) : KF := k_fun [] (b_X8_learnRows_0 F_X8_learnSorts F_X3_build)
theorem r_X8_learnRows {l : Launch} {D : va_G} {cI cS cM : ClassId} {F_X8_learnSorts F_X3_build : KF} (h_X8_learnSorts : k_snd l D cI cS cM yX8_learnSorts cX8_learnSorts 1 none 6 1 F_X8_learnSorts) (h_X3_build : k_snd l D cI cS cM yX3_build cX3_build 3 none 5 1 F_X3_build) : k_snd l D cI cS cM yX8_learnRows cX8_learnRows 1 none 7 1 (m_X8_learnRows F_X8_learnSorts F_X3_build) :=
  k_method (by decide +kernel) (by simp) rfl (s_X8_learnRows_0 h_X8_learnSorts h_X3_build)
noncomputable def b_X8_product_44 (F_X8_learnSorts F_X8_isBelow F_X8_refused F_X0_multiplied : KF) : KC := o_aload 3 <| o_iload 1 <| o_iload 2 <| o_cV1 3 0 F_X0_multiplied <| o_iret
set_option maxRecDepth 100000 in
theorem s_X8_product_44 {l : Launch} {D : va_G} {cI cS cM : ClassId} {F_X8_learnSorts F_X8_isBelow F_X8_refused F_X0_multiplied : KF} (h_X8_learnSorts : k_snd l D cI cS cM yX8_learnSorts cX8_learnSorts 1 none 6 1 F_X8_learnSorts) (h_X8_isBelow : k_snd l D cI cS cM yX8_isBelow cX8_isBelow 2 (some .boolean) 1 2 F_X8_isBelow) (h_X8_refused : k_snd l D cI cS cM yX8_refused cX8_refused 3 (some .int) 2 2 F_X8_refused) (h_X0_multiplied : k_snd l D cI cS cM yX0_multiplied cX0_multiplied 4 (some .int) 3 3 F_X0_multiplied) : KS l D cI cS cM yX8_product.cls yX8_product.name cX8_product 4 (some .int) (k_rm 7 0 0) false 44 0 (b_X8_product_44 F_X8_learnSorts F_X8_isBelow F_X8_refused F_X0_multiplied) :=
  s_aload_n dX8_product_44 rfl <|
  s_iload_n dX8_product_45 rfl <|
  s_iload_n dX8_product_46 rfl <|
  s_callV1 dX8_product_47 kw_27_22 kw_15_18 kw_15_19 (ci := 0) rfl ok_X0_multiplied (by decide) (by decide) h_X0_multiplied (by decide) <|
  s_ireturn dX8_product_50 rfl
noncomputable def b_X8_product_37 (F_X8_learnSorts F_X8_isBelow F_X8_refused F_X0_multiplied : KF) : KC := o_aload 0 <| o_push 4294967294 <| o_cV1 2 8 F_X8_refused <| o_iret
set_option maxRecDepth 100000 in
theorem s_X8_product_37 {l : Launch} {D : va_G} {cI cS cM : ClassId} {F_X8_learnSorts F_X8_isBelow F_X8_refused F_X0_multiplied : KF} (h_X8_learnSorts : k_snd l D cI cS cM yX8_learnSorts cX8_learnSorts 1 none 6 1 F_X8_learnSorts) (h_X8_isBelow : k_snd l D cI cS cM yX8_isBelow cX8_isBelow 2 (some .boolean) 1 2 F_X8_isBelow) (h_X8_refused : k_snd l D cI cS cM yX8_refused cX8_refused 3 (some .int) 2 2 F_X8_refused) (h_X0_multiplied : k_snd l D cI cS cM yX0_multiplied cX0_multiplied 4 (some .int) 3 3 F_X0_multiplied) : KS l D cI cS cM yX8_product.cls yX8_product.name cX8_product 4 (some .int) (k_rm 7 0 0) false 37 0 (b_X8_product_37 F_X8_learnSorts F_X8_isBelow F_X8_refused F_X0_multiplied) :=
  s_aload_n dX8_product_37 rfl <|
  s_push2 dX8_product_38 (by decide) (by decide) <|
  s_callV1 dX8_product_40 kw_8_9 kw_8_10 kw_8_11 (ci := 8) rfl ok_X8_refused (by decide) (by decide) h_X8_refused (by decide) <|
  s_ireturn dX8_product_43 rfl
noncomputable def b_X8_product_26 (F_X8_learnSorts F_X8_isBelow F_X8_refused F_X0_multiplied : KF) : KC := o_iload 2 <| o_aload 3 <| o_get 0 0 <| o_cS1 2 F_X8_isBelow <| o_c1 g_eq (b_X8_product_37 F_X8_learnSorts F_X8_isBelow F_X8_refused F_X0_multiplied) (b_X8_product_44 F_X8_learnSorts F_X8_isBelow F_X8_refused F_X0_multiplied)
set_option maxRecDepth 100000 in
theorem s_X8_product_26 {l : Launch} {D : va_G} {cI cS cM : ClassId} {F_X8_learnSorts F_X8_isBelow F_X8_refused F_X0_multiplied : KF} (h_X8_learnSorts : k_snd l D cI cS cM yX8_learnSorts cX8_learnSorts 1 none 6 1 F_X8_learnSorts) (h_X8_isBelow : k_snd l D cI cS cM yX8_isBelow cX8_isBelow 2 (some .boolean) 1 2 F_X8_isBelow) (h_X8_refused : k_snd l D cI cS cM yX8_refused cX8_refused 3 (some .int) 2 2 F_X8_refused) (h_X0_multiplied : k_snd l D cI cS cM yX0_multiplied cX0_multiplied 4 (some .int) 3 3 F_X0_multiplied) : KS l D cI cS cM yX8_product.cls yX8_product.name cX8_product 4 (some .int) (k_rm 7 0 0) false 26 0 (b_X8_product_26 F_X8_learnSorts F_X8_isBelow F_X8_refused F_X0_multiplied) :=
  s_iload_n dX8_product_26 rfl <|
  s_aload_n dX8_product_27 rfl <|
  s_get dX8_product_28 (ci := 0) (sl := 0) (Cn := RX0) (Tf := TX0) (N := 9) rfl (by decide) kiX0 kw_12_21 <|
  s_callS1 dX8_product_31 kw_8_13 kw_8_14 ok_X8_isBelow (by decide) (by decide) h_X8_isBelow (by decide) <|
  s_if_ne dX8_product_34 (by decide) (s_X8_product_44 h_X8_learnSorts h_X8_isBelow h_X8_refused h_X0_multiplied) (s_X8_product_37 h_X8_learnSorts h_X8_isBelow h_X8_refused h_X0_multiplied)
noncomputable def b_X8_product_0 (F_X8_learnSorts F_X8_isBelow F_X8_refused F_X0_multiplied : KF) : KC := o_aload 0 <| o_cV0 1 8 F_X8_learnSorts <| o_aload 0 <| o_get 8 4 <| o_get 3 0 <| o_get 6 0 <| o_astore 3 <| o_iload 1 <| o_aload 3 <| o_get 0 0 <| o_cS1 2 F_X8_isBelow <| o_c1 g_eq (b_X8_product_37 F_X8_learnSorts F_X8_isBelow F_X8_refused F_X0_multiplied) (b_X8_product_26 F_X8_learnSorts F_X8_isBelow F_X8_refused F_X0_multiplied)
set_option maxRecDepth 100000 in
theorem s_X8_product_0 {l : Launch} {D : va_G} {cI cS cM : ClassId} {F_X8_learnSorts F_X8_isBelow F_X8_refused F_X0_multiplied : KF} (h_X8_learnSorts : k_snd l D cI cS cM yX8_learnSorts cX8_learnSorts 1 none 6 1 F_X8_learnSorts) (h_X8_isBelow : k_snd l D cI cS cM yX8_isBelow cX8_isBelow 2 (some .boolean) 1 2 F_X8_isBelow) (h_X8_refused : k_snd l D cI cS cM yX8_refused cX8_refused 3 (some .int) 2 2 F_X8_refused) (h_X0_multiplied : k_snd l D cI cS cM yX0_multiplied cX0_multiplied 4 (some .int) 3 3 F_X0_multiplied) : KS l D cI cS cM yX8_product.cls yX8_product.name cX8_product 4 (some .int) (k_rm 7 0 0) false 0 0 (b_X8_product_0 F_X8_learnSorts F_X8_isBelow F_X8_refused F_X0_multiplied) :=
  s_aload_n dX8_product_0 rfl <|
  s_callV0 dX8_product_1 kw_12_14 kw_12_15 kw_12_16 (ci := 8) rfl ok_X8_learnSorts (by decide) (by decide) h_X8_learnSorts (by decide) <|
  s_aload_n dX8_product_4 rfl <|
  s_get dX8_product_5 (ci := 8) (sl := 4) (Cn := RX8) (Tf := TX8) (N := 8) rfl (by decide) kiX8 kw_2_4 <|
  s_get dX8_product_8 (ci := 3) (sl := 0) (Cn := RX3) (Tf := TX3) (N := 8) rfl (by decide) kiX3 kw_12_18 <|
  s_get dX8_product_11 (ci := 6) (sl := 0) (Cn := RX6) (Tf := TX6) (N := 11) rfl (by decide) kiX6 kw_12_19 <|
  s_astore_n dX8_product_14 rfl (by decide) <|
  s_iload_n dX8_product_15 rfl <|
  s_aload_n dX8_product_16 rfl <|
  s_get dX8_product_17 (ci := 0) (sl := 0) (Cn := RX0) (Tf := TX0) (N := 9) rfl (by decide) kiX0 kw_12_21 <|
  s_callS1 dX8_product_20 kw_8_13 kw_8_14 ok_X8_isBelow (by decide) (by decide) h_X8_isBelow (by decide) <|
  s_if_eq dX8_product_23 (by decide) (s_X8_product_37 h_X8_learnSorts h_X8_isBelow h_X8_refused h_X0_multiplied) (s_X8_product_26 h_X8_learnSorts h_X8_isBelow h_X8_refused h_X0_multiplied)
noncomputable def m_X8_product (F_X8_learnSorts F_X8_isBelow F_X8_refused F_X0_multiplied : KF) : KF := k_fun [k_u] (b_X8_product_0 F_X8_learnSorts F_X8_isBelow F_X8_refused F_X0_multiplied)
theorem r_X8_product {l : Launch} {D : va_G} {cI cS cM : ClassId} {F_X8_learnSorts F_X8_isBelow F_X8_refused F_X0_multiplied : KF} (h_X8_learnSorts : k_snd l D cI cS cM yX8_learnSorts cX8_learnSorts 1 none 6 1 F_X8_learnSorts) (h_X8_isBelow : k_snd l D cI cS cM yX8_isBelow cX8_isBelow 2 (some .boolean) 1 2 F_X8_isBelow) (h_X8_refused : k_snd l D cI cS cM yX8_refused cX8_refused 3 (some .int) 2 2 F_X8_refused) (h_X0_multiplied : k_snd l D cI cS cM yX0_multiplied cX0_multiplied 4 (some .int) 3 3 F_X0_multiplied) : k_snd l D cI cS cM yX8_product cX8_product 4 (some .int) 7 3 (m_X8_product F_X8_learnSorts F_X8_isBelow F_X8_refused F_X0_multiplied) :=
  k_method (by decide +kernel) (by simp) rfl (s_X8_product_0 h_X8_learnSorts h_X8_isBelow h_X8_refused h_X0_multiplied)
noncomputable def b_X8_sort_37 (F_X8_learnSorts F_X8_isBelow F_X8_refused F_X8_sortAnswer : KF) : KC := o_aload 0 <| o_iload 1 <| o_iload 2 <| o_cV1 3 8 F_X8_sortAnswer <| o_iret
set_option maxRecDepth 100000 in
theorem s_X8_sort_37 {l : Launch} {D : va_G} {cI cS cM : ClassId} {F_X8_learnSorts F_X8_isBelow F_X8_refused F_X8_sortAnswer : KF} (h_X8_learnSorts : k_snd l D cI cS cM yX8_learnSorts cX8_learnSorts 1 none 6 1 F_X8_learnSorts) (h_X8_isBelow : k_snd l D cI cS cM yX8_isBelow cX8_isBelow 2 (some .boolean) 1 2 F_X8_isBelow) (h_X8_refused : k_snd l D cI cS cM yX8_refused cX8_refused 3 (some .int) 2 2 F_X8_refused) (h_X8_sortAnswer : k_snd l D cI cS cM yX8_sortAnswer cX8_sortAnswer 4 (some .int) 2 3 F_X8_sortAnswer) : KS l D cI cS cM yX8_sort.cls yX8_sort.name cX8_sort 3 (some .int) (k_rm 7 0 0) false 37 0 (b_X8_sort_37 F_X8_learnSorts F_X8_isBelow F_X8_refused F_X8_sortAnswer) :=
  s_aload_n dX8_sort_37 rfl <|
  s_iload_n dX8_sort_38 rfl <|
  s_iload_n dX8_sort_39 rfl <|
  s_callV1 dX8_sort_40 kw_28_7 kw_28_8 kw_28_9 (ci := 8) rfl ok_X8_sortAnswer (by decide) (by decide) h_X8_sortAnswer (by decide) <|
  s_ireturn dX8_sort_43 rfl
noncomputable def b_X8_sort_30 (F_X8_learnSorts F_X8_isBelow F_X8_refused F_X8_sortAnswer : KF) : KC := o_aload 0 <| o_push 4294967294 <| o_cV1 2 8 F_X8_refused <| o_iret
set_option maxRecDepth 100000 in
theorem s_X8_sort_30 {l : Launch} {D : va_G} {cI cS cM : ClassId} {F_X8_learnSorts F_X8_isBelow F_X8_refused F_X8_sortAnswer : KF} (h_X8_learnSorts : k_snd l D cI cS cM yX8_learnSorts cX8_learnSorts 1 none 6 1 F_X8_learnSorts) (h_X8_isBelow : k_snd l D cI cS cM yX8_isBelow cX8_isBelow 2 (some .boolean) 1 2 F_X8_isBelow) (h_X8_refused : k_snd l D cI cS cM yX8_refused cX8_refused 3 (some .int) 2 2 F_X8_refused) (h_X8_sortAnswer : k_snd l D cI cS cM yX8_sortAnswer cX8_sortAnswer 4 (some .int) 2 3 F_X8_sortAnswer) : KS l D cI cS cM yX8_sort.cls yX8_sort.name cX8_sort 3 (some .int) (k_rm 7 0 0) false 30 0 (b_X8_sort_30 F_X8_learnSorts F_X8_isBelow F_X8_refused F_X8_sortAnswer) :=
  s_aload_n dX8_sort_30 rfl <|
  s_push2 dX8_sort_31 (by decide) (by decide) <|
  s_callV1 dX8_sort_33 kw_8_9 kw_8_10 kw_8_11 (ci := 8) rfl ok_X8_refused (by decide) (by decide) h_X8_refused (by decide) <|
  s_ireturn dX8_sort_36 rfl
noncomputable def b_X8_sort_21 (F_X8_learnSorts F_X8_isBelow F_X8_refused F_X8_sortAnswer : KF) : KC := o_iload 2 <| o_push 6 <| o_cS1 2 F_X8_isBelow <| o_c1 g_eq (b_X8_sort_30 F_X8_learnSorts F_X8_isBelow F_X8_refused F_X8_sortAnswer) (b_X8_sort_37 F_X8_learnSorts F_X8_isBelow F_X8_refused F_X8_sortAnswer)
set_option maxRecDepth 100000 in
theorem s_X8_sort_21 {l : Launch} {D : va_G} {cI cS cM : ClassId} {F_X8_learnSorts F_X8_isBelow F_X8_refused F_X8_sortAnswer : KF} (h_X8_learnSorts : k_snd l D cI cS cM yX8_learnSorts cX8_learnSorts 1 none 6 1 F_X8_learnSorts) (h_X8_isBelow : k_snd l D cI cS cM yX8_isBelow cX8_isBelow 2 (some .boolean) 1 2 F_X8_isBelow) (h_X8_refused : k_snd l D cI cS cM yX8_refused cX8_refused 3 (some .int) 2 2 F_X8_refused) (h_X8_sortAnswer : k_snd l D cI cS cM yX8_sortAnswer cX8_sortAnswer 4 (some .int) 2 3 F_X8_sortAnswer) : KS l D cI cS cM yX8_sort.cls yX8_sort.name cX8_sort 3 (some .int) (k_rm 7 0 0) false 21 0 (b_X8_sort_21 F_X8_learnSorts F_X8_isBelow F_X8_refused F_X8_sortAnswer) :=
  s_iload_n dX8_sort_21 rfl <|
  s_push2 dX8_sort_22 (by decide) (by decide) <|
  s_callS1 dX8_sort_24 kw_8_13 kw_8_14 ok_X8_isBelow (by decide) (by decide) h_X8_isBelow (by decide) <|
  s_if_ne dX8_sort_27 (by decide) (s_X8_sort_37 h_X8_learnSorts h_X8_isBelow h_X8_refused h_X8_sortAnswer) (s_X8_sort_30 h_X8_learnSorts h_X8_isBelow h_X8_refused h_X8_sortAnswer)
noncomputable def b_X8_sort_0 (F_X8_learnSorts F_X8_isBelow F_X8_refused F_X8_sortAnswer : KF) : KC := o_aload 0 <| o_cV0 1 8 F_X8_learnSorts <| o_iload 1 <| o_aload 0 <| o_get 8 4 <| o_get 3 0 <| o_get 6 1 <| o_cS1 2 F_X8_isBelow <| o_c1 g_eq (b_X8_sort_30 F_X8_learnSorts F_X8_isBelow F_X8_refused F_X8_sortAnswer) (b_X8_sort_21 F_X8_learnSorts F_X8_isBelow F_X8_refused F_X8_sortAnswer)
set_option maxRecDepth 100000 in
theorem s_X8_sort_0 {l : Launch} {D : va_G} {cI cS cM : ClassId} {F_X8_learnSorts F_X8_isBelow F_X8_refused F_X8_sortAnswer : KF} (h_X8_learnSorts : k_snd l D cI cS cM yX8_learnSorts cX8_learnSorts 1 none 6 1 F_X8_learnSorts) (h_X8_isBelow : k_snd l D cI cS cM yX8_isBelow cX8_isBelow 2 (some .boolean) 1 2 F_X8_isBelow) (h_X8_refused : k_snd l D cI cS cM yX8_refused cX8_refused 3 (some .int) 2 2 F_X8_refused) (h_X8_sortAnswer : k_snd l D cI cS cM yX8_sortAnswer cX8_sortAnswer 4 (some .int) 2 3 F_X8_sortAnswer) : KS l D cI cS cM yX8_sort.cls yX8_sort.name cX8_sort 3 (some .int) (k_rm 7 0 0) false 0 0 (b_X8_sort_0 F_X8_learnSorts F_X8_isBelow F_X8_refused F_X8_sortAnswer) :=
  s_aload_n dX8_sort_0 rfl <|
  s_callV0 dX8_sort_1 kw_12_14 kw_12_15 kw_12_16 (ci := 8) rfl ok_X8_learnSorts (by decide) (by decide) h_X8_learnSorts (by decide) <|
  s_iload_n dX8_sort_4 rfl <|
  s_aload_n dX8_sort_5 rfl <|
  s_get dX8_sort_6 (ci := 8) (sl := 4) (Cn := RX8) (Tf := TX8) (N := 8) rfl (by decide) kiX8 kw_2_4 <|
  s_get dX8_sort_9 (ci := 3) (sl := 0) (Cn := RX3) (Tf := TX3) (N := 8) rfl (by decide) kiX3 kw_12_18 <|
  s_get dX8_sort_12 (ci := 6) (sl := 1) (Cn := RX6) (Tf := TX6) (N := 11) rfl (by decide) kiX6 kw_21_17 <|
  s_callS1 dX8_sort_15 kw_8_13 kw_8_14 ok_X8_isBelow (by decide) (by decide) h_X8_isBelow (by decide) <|
  s_if_eq dX8_sort_18 (by decide) (s_X8_sort_30 h_X8_learnSorts h_X8_isBelow h_X8_refused h_X8_sortAnswer) (s_X8_sort_21 h_X8_learnSorts h_X8_isBelow h_X8_refused h_X8_sortAnswer)
noncomputable def m_X8_sort (F_X8_learnSorts F_X8_isBelow F_X8_refused F_X8_sortAnswer : KF) : KF := k_fun [] (b_X8_sort_0 F_X8_learnSorts F_X8_isBelow F_X8_refused F_X8_sortAnswer)
theorem r_X8_sort {l : Launch} {D : va_G} {cI cS cM : ClassId} {F_X8_learnSorts F_X8_isBelow F_X8_refused F_X8_sortAnswer : KF} (h_X8_learnSorts : k_snd l D cI cS cM yX8_learnSorts cX8_learnSorts 1 none 6 1 F_X8_learnSorts) (h_X8_isBelow : k_snd l D cI cS cM yX8_isBelow cX8_isBelow 2 (some .boolean) 1 2 F_X8_isBelow) (h_X8_refused : k_snd l D cI cS cM yX8_refused cX8_refused 3 (some .int) 2 2 F_X8_refused) (h_X8_sortAnswer : k_snd l D cI cS cM yX8_sortAnswer cX8_sortAnswer 4 (some .int) 2 3 F_X8_sortAnswer) : k_snd l D cI cS cM yX8_sort cX8_sort 3 (some .int) 7 3 (m_X8_sort F_X8_learnSorts F_X8_isBelow F_X8_refused F_X8_sortAnswer) :=
  k_method (by decide +kernel) (by simp) rfl (s_X8_sort_0 h_X8_learnSorts h_X8_isBelow h_X8_refused h_X8_sortAnswer)
noncomputable def b_X8_times_50 (F_X8_learnSorts F_X8_isBelow F_X8_refused F_X6_pairPlace : KF) : KC := o_aload 0 <| o_get 8 4 <| o_get 3 0 <| o_get 6 9 <| o_iload 1 <| o_iload 2 <| o_iload 3 <| o_cS1 3 F_X6_pairPlace <| o_iald <| o_iret
set_option maxRecDepth 100000 in
theorem s_X8_times_50 {l : Launch} {D : va_G} {cI cS cM : ClassId} {F_X8_learnSorts F_X8_isBelow F_X8_refused F_X6_pairPlace : KF} (h_X8_learnSorts : k_snd l D cI cS cM yX8_learnSorts cX8_learnSorts 1 none 6 1 F_X8_learnSorts) (h_X8_isBelow : k_snd l D cI cS cM yX8_isBelow cX8_isBelow 2 (some .boolean) 1 2 F_X8_isBelow) (h_X8_refused : k_snd l D cI cS cM yX8_refused cX8_refused 3 (some .int) 2 2 F_X8_refused) (h_X6_pairPlace : k_snd l D cI cS cM yX6_pairPlace cX6_pairPlace 3 (some .int) 1 3 F_X6_pairPlace) : KS l D cI cS cM yX8_times.cls yX8_times.name cX8_times 5 (some .int) (k_rm 7 0 0) false 50 0 (b_X8_times_50 F_X8_learnSorts F_X8_isBelow F_X8_refused F_X6_pairPlace) :=
  s_aload_n dX8_times_50 rfl <|
  s_get dX8_times_51 (ci := 8) (sl := 4) (Cn := RX8) (Tf := TX8) (N := 8) rfl (by decide) kiX8 kw_2_4 <|
  s_get dX8_times_54 (ci := 3) (sl := 0) (Cn := RX3) (Tf := TX3) (N := 8) rfl (by decide) kiX3 kw_12_18 <|
  s_get dX8_times_57 (ci := 6) (sl := 9) (Cn := RX6) (Tf := TX6) (N := 11) rfl (by decide) kiX6 kw_29_15 <|
  s_iload_n dX8_times_60 rfl <|
  s_iload_n dX8_times_61 rfl <|
  s_iload_n dX8_times_62 rfl <|
  s_callS1 dX8_times_63 kw_29_16 kw_16_5 ok_X6_pairPlace (by decide) (by decide) h_X6_pairPlace (by decide) <|
  s_iald dX8_times_66 <|
  s_ireturn dX8_times_67 rfl
noncomputable def b_X8_times_43 (F_X8_learnSorts F_X8_isBelow F_X8_refused F_X6_pairPlace : KF) : KC := o_aload 0 <| o_push 4294967294 <| o_cV1 2 8 F_X8_refused <| o_iret
set_option maxRecDepth 100000 in
theorem s_X8_times_43 {l : Launch} {D : va_G} {cI cS cM : ClassId} {F_X8_learnSorts F_X8_isBelow F_X8_refused F_X6_pairPlace : KF} (h_X8_learnSorts : k_snd l D cI cS cM yX8_learnSorts cX8_learnSorts 1 none 6 1 F_X8_learnSorts) (h_X8_isBelow : k_snd l D cI cS cM yX8_isBelow cX8_isBelow 2 (some .boolean) 1 2 F_X8_isBelow) (h_X8_refused : k_snd l D cI cS cM yX8_refused cX8_refused 3 (some .int) 2 2 F_X8_refused) (h_X6_pairPlace : k_snd l D cI cS cM yX6_pairPlace cX6_pairPlace 3 (some .int) 1 3 F_X6_pairPlace) : KS l D cI cS cM yX8_times.cls yX8_times.name cX8_times 5 (some .int) (k_rm 7 0 0) false 43 0 (b_X8_times_43 F_X8_learnSorts F_X8_isBelow F_X8_refused F_X6_pairPlace) :=
  s_aload_n dX8_times_43 rfl <|
  s_push2 dX8_times_44 (by decide) (by decide) <|
  s_callV1 dX8_times_46 kw_8_9 kw_8_10 kw_8_11 (ci := 8) rfl ok_X8_refused (by decide) (by decide) h_X8_refused (by decide) <|
  s_ireturn dX8_times_49 rfl
noncomputable def b_X8_times_34 (F_X8_learnSorts F_X8_isBelow F_X8_refused F_X6_pairPlace : KF) : KC := o_iload 3 <| o_iload 4 <| o_cS1 2 F_X8_isBelow <| o_c1 g_eq (b_X8_times_43 F_X8_learnSorts F_X8_isBelow F_X8_refused F_X6_pairPlace) (b_X8_times_50 F_X8_learnSorts F_X8_isBelow F_X8_refused F_X6_pairPlace)
set_option maxRecDepth 100000 in
theorem s_X8_times_34 {l : Launch} {D : va_G} {cI cS cM : ClassId} {F_X8_learnSorts F_X8_isBelow F_X8_refused F_X6_pairPlace : KF} (h_X8_learnSorts : k_snd l D cI cS cM yX8_learnSorts cX8_learnSorts 1 none 6 1 F_X8_learnSorts) (h_X8_isBelow : k_snd l D cI cS cM yX8_isBelow cX8_isBelow 2 (some .boolean) 1 2 F_X8_isBelow) (h_X8_refused : k_snd l D cI cS cM yX8_refused cX8_refused 3 (some .int) 2 2 F_X8_refused) (h_X6_pairPlace : k_snd l D cI cS cM yX6_pairPlace cX6_pairPlace 3 (some .int) 1 3 F_X6_pairPlace) : KS l D cI cS cM yX8_times.cls yX8_times.name cX8_times 5 (some .int) (k_rm 7 0 0) false 34 0 (b_X8_times_34 F_X8_learnSorts F_X8_isBelow F_X8_refused F_X6_pairPlace) :=
  s_iload_n dX8_times_34 rfl <|
  s_iload dX8_times_35 <|
  s_callS1 dX8_times_37 kw_8_13 kw_8_14 ok_X8_isBelow (by decide) (by decide) h_X8_isBelow (by decide) <|
  s_if_ne dX8_times_40 (by decide) (s_X8_times_50 h_X8_learnSorts h_X8_isBelow h_X8_refused h_X6_pairPlace) (s_X8_times_43 h_X8_learnSorts h_X8_isBelow h_X8_refused h_X6_pairPlace)
noncomputable def b_X8_times_25 (F_X8_learnSorts F_X8_isBelow F_X8_refused F_X6_pairPlace : KF) : KC := o_iload 2 <| o_iload 4 <| o_cS1 2 F_X8_isBelow <| o_c1 g_eq (b_X8_times_43 F_X8_learnSorts F_X8_isBelow F_X8_refused F_X6_pairPlace) (b_X8_times_34 F_X8_learnSorts F_X8_isBelow F_X8_refused F_X6_pairPlace)
set_option maxRecDepth 100000 in
theorem s_X8_times_25 {l : Launch} {D : va_G} {cI cS cM : ClassId} {F_X8_learnSorts F_X8_isBelow F_X8_refused F_X6_pairPlace : KF} (h_X8_learnSorts : k_snd l D cI cS cM yX8_learnSorts cX8_learnSorts 1 none 6 1 F_X8_learnSorts) (h_X8_isBelow : k_snd l D cI cS cM yX8_isBelow cX8_isBelow 2 (some .boolean) 1 2 F_X8_isBelow) (h_X8_refused : k_snd l D cI cS cM yX8_refused cX8_refused 3 (some .int) 2 2 F_X8_refused) (h_X6_pairPlace : k_snd l D cI cS cM yX6_pairPlace cX6_pairPlace 3 (some .int) 1 3 F_X6_pairPlace) : KS l D cI cS cM yX8_times.cls yX8_times.name cX8_times 5 (some .int) (k_rm 7 0 0) false 25 0 (b_X8_times_25 F_X8_learnSorts F_X8_isBelow F_X8_refused F_X6_pairPlace) :=
  s_iload_n dX8_times_25 rfl <|
  s_iload dX8_times_26 <|
  s_callS1 dX8_times_28 kw_8_13 kw_8_14 ok_X8_isBelow (by decide) (by decide) h_X8_isBelow (by decide) <|
  s_if_eq dX8_times_31 (by decide) (s_X8_times_43 h_X8_learnSorts h_X8_isBelow h_X8_refused h_X6_pairPlace) (s_X8_times_34 h_X8_learnSorts h_X8_isBelow h_X8_refused h_X6_pairPlace)
noncomputable def b_X8_times_0 (F_X8_learnSorts F_X8_isBelow F_X8_refused F_X6_pairPlace : KF) : KC := o_aload 0 <| o_cV0 1 8 F_X8_learnSorts <| o_aload 0 <| o_get 8 4 <| o_get 3 0 <| o_get 6 1 <| o_istore 4 <| o_iload 1 <| o_iload 4 <| o_cS1 2 F_X8_isBelow <| o_c1 g_eq (b_X8_times_43 F_X8_learnSorts F_X8_isBelow F_X8_refused F_X6_pairPlace) (b_X8_times_25 F_X8_learnSorts F_X8_isBelow F_X8_refused F_X6_pairPlace)
set_option maxRecDepth 100000 in
theorem s_X8_times_0 {l : Launch} {D : va_G} {cI cS cM : ClassId} {F_X8_learnSorts F_X8_isBelow F_X8_refused F_X6_pairPlace : KF} (h_X8_learnSorts : k_snd l D cI cS cM yX8_learnSorts cX8_learnSorts 1 none 6 1 F_X8_learnSorts) (h_X8_isBelow : k_snd l D cI cS cM yX8_isBelow cX8_isBelow 2 (some .boolean) 1 2 F_X8_isBelow) (h_X8_refused : k_snd l D cI cS cM yX8_refused cX8_refused 3 (some .int) 2 2 F_X8_refused) (h_X6_pairPlace : k_snd l D cI cS cM yX6_pairPlace cX6_pairPlace 3 (some .int) 1 3 F_X6_pairPlace) : KS l D cI cS cM yX8_times.cls yX8_times.name cX8_times 5 (some .int) (k_rm 7 0 0) false 0 0 (b_X8_times_0 F_X8_learnSorts F_X8_isBelow F_X8_refused F_X6_pairPlace) :=
  s_aload_n dX8_times_0 rfl <|
  s_callV0 dX8_times_1 kw_12_14 kw_12_15 kw_12_16 (ci := 8) rfl ok_X8_learnSorts (by decide) (by decide) h_X8_learnSorts (by decide) <|
  s_aload_n dX8_times_4 rfl <|
  s_get dX8_times_5 (ci := 8) (sl := 4) (Cn := RX8) (Tf := TX8) (N := 8) rfl (by decide) kiX8 kw_2_4 <|
  s_get dX8_times_8 (ci := 3) (sl := 0) (Cn := RX3) (Tf := TX3) (N := 8) rfl (by decide) kiX3 kw_12_18 <|
  s_get dX8_times_11 (ci := 6) (sl := 1) (Cn := RX6) (Tf := TX6) (N := 11) rfl (by decide) kiX6 kw_21_17 <|
  s_istore dX8_times_14 (by decide) <|
  s_iload_n dX8_times_16 rfl <|
  s_iload dX8_times_17 <|
  s_callS1 dX8_times_19 kw_8_13 kw_8_14 ok_X8_isBelow (by decide) (by decide) h_X8_isBelow (by decide) <|
  s_if_eq dX8_times_22 (by decide) (s_X8_times_43 h_X8_learnSorts h_X8_isBelow h_X8_refused h_X6_pairPlace) (s_X8_times_25 h_X8_learnSorts h_X8_isBelow h_X8_refused h_X6_pairPlace)
noncomputable def m_X8_times (F_X8_learnSorts F_X8_isBelow F_X8_refused F_X6_pairPlace : KF) : KF := k_fun [k_u] (b_X8_times_0 F_X8_learnSorts F_X8_isBelow F_X8_refused F_X6_pairPlace)
theorem r_X8_times {l : Launch} {D : va_G} {cI cS cM : ClassId} {F_X8_learnSorts F_X8_isBelow F_X8_refused F_X6_pairPlace : KF} (h_X8_learnSorts : k_snd l D cI cS cM yX8_learnSorts cX8_learnSorts 1 none 6 1 F_X8_learnSorts) (h_X8_isBelow : k_snd l D cI cS cM yX8_isBelow cX8_isBelow 2 (some .boolean) 1 2 F_X8_isBelow) (h_X8_refused : k_snd l D cI cS cM yX8_refused cX8_refused 3 (some .int) 2 2 F_X8_refused) (h_X6_pairPlace : k_snd l D cI cS cM yX6_pairPlace cX6_pairPlace 3 (some .int) 1 3 F_X6_pairPlace) : k_snd l D cI cS cM yX8_times cX8_times 5 (some .int) 7 4 (m_X8_times F_X8_learnSorts F_X8_isBelow F_X8_refused F_X6_pairPlace) :=
  k_method (by decide +kernel) (by simp) rfl (s_X8_times_0 h_X8_learnSorts h_X8_isBelow h_X8_refused h_X6_pairPlace)
noncomputable def b_X8_blind_25 (F_X8_learnRows F_X8_isBelow F_X8_refused F_X3_blindBits : KF) : KC := o_aload 0 <| o_get 8 4 <| o_iload 1 <| o_cV1 2 3 F_X3_blindBits <| o_iret
set_option maxRecDepth 100000 in
theorem s_X8_blind_25 {l : Launch} {D : va_G} {cI cS cM : ClassId} {F_X8_learnRows F_X8_isBelow F_X8_refused F_X3_blindBits : KF} (h_X8_learnRows : k_snd l D cI cS cM yX8_learnRows cX8_learnRows 1 none 7 1 F_X8_learnRows) (h_X8_isBelow : k_snd l D cI cS cM yX8_isBelow cX8_isBelow 2 (some .boolean) 1 2 F_X8_isBelow) (h_X8_refused : k_snd l D cI cS cM yX8_refused cX8_refused 3 (some .int) 2 2 F_X8_refused) (h_X3_blindBits : k_snd l D cI cS cM yX3_blindBits cX3_blindBits 4 (some .int) 1 2 F_X3_blindBits) : KS l D cI cS cM yX8_blind.cls yX8_blind.name cX8_blind 2 (some .int) (k_rm 8 0 0) false 25 0 (b_X8_blind_25 F_X8_learnRows F_X8_isBelow F_X8_refused F_X3_blindBits) :=
  s_aload_n dX8_blind_25 rfl <|
  s_get dX8_blind_26 (ci := 8) (sl := 4) (Cn := RX8) (Tf := TX8) (N := 8) rfl (by decide) kiX8 kw_2_4 <|
  s_iload_n dX8_blind_29 rfl <|
  s_callV1 dX8_blind_30 kw_32_18 kw_32_19 kw_32_20 (ci := 3) rfl ok_X3_blindBits (by decide) (by decide) h_X3_blindBits (by decide) <|
  s_ireturn dX8_blind_33 rfl
noncomputable def b_X8_blind_18 (F_X8_learnRows F_X8_isBelow F_X8_refused F_X3_blindBits : KF) : KC := o_aload 0 <| o_push 4294967294 <| o_cV1 2 8 F_X8_refused <| o_iret
set_option maxRecDepth 100000 in
theorem s_X8_blind_18 {l : Launch} {D : va_G} {cI cS cM : ClassId} {F_X8_learnRows F_X8_isBelow F_X8_refused F_X3_blindBits : KF} (h_X8_learnRows : k_snd l D cI cS cM yX8_learnRows cX8_learnRows 1 none 7 1 F_X8_learnRows) (h_X8_isBelow : k_snd l D cI cS cM yX8_isBelow cX8_isBelow 2 (some .boolean) 1 2 F_X8_isBelow) (h_X8_refused : k_snd l D cI cS cM yX8_refused cX8_refused 3 (some .int) 2 2 F_X8_refused) (h_X3_blindBits : k_snd l D cI cS cM yX3_blindBits cX3_blindBits 4 (some .int) 1 2 F_X3_blindBits) : KS l D cI cS cM yX8_blind.cls yX8_blind.name cX8_blind 2 (some .int) (k_rm 8 0 0) false 18 0 (b_X8_blind_18 F_X8_learnRows F_X8_isBelow F_X8_refused F_X3_blindBits) :=
  s_aload_n dX8_blind_18 rfl <|
  s_push2 dX8_blind_19 (by decide) (by decide) <|
  s_callV1 dX8_blind_21 kw_8_9 kw_8_10 kw_8_11 (ci := 8) rfl ok_X8_refused (by decide) (by decide) h_X8_refused (by decide) <|
  s_ireturn dX8_blind_24 rfl
noncomputable def b_X8_blind_0 (F_X8_learnRows F_X8_isBelow F_X8_refused F_X3_blindBits : KF) : KC := o_aload 0 <| o_cV0 1 8 F_X8_learnRows <| o_iload 1 <| o_aload 0 <| o_get 8 4 <| o_get 3 2 <| o_cS1 2 F_X8_isBelow <| o_c1 g_eq (b_X8_blind_18 F_X8_learnRows F_X8_isBelow F_X8_refused F_X3_blindBits) (b_X8_blind_25 F_X8_learnRows F_X8_isBelow F_X8_refused F_X3_blindBits)
set_option maxRecDepth 100000 in
theorem s_X8_blind_0 {l : Launch} {D : va_G} {cI cS cM : ClassId} {F_X8_learnRows F_X8_isBelow F_X8_refused F_X3_blindBits : KF} (h_X8_learnRows : k_snd l D cI cS cM yX8_learnRows cX8_learnRows 1 none 7 1 F_X8_learnRows) (h_X8_isBelow : k_snd l D cI cS cM yX8_isBelow cX8_isBelow 2 (some .boolean) 1 2 F_X8_isBelow) (h_X8_refused : k_snd l D cI cS cM yX8_refused cX8_refused 3 (some .int) 2 2 F_X8_refused) (h_X3_blindBits : k_snd l D cI cS cM yX3_blindBits cX3_blindBits 4 (some .int) 1 2 F_X3_blindBits) : KS l D cI cS cM yX8_blind.cls yX8_blind.name cX8_blind 2 (some .int) (k_rm 8 0 0) false 0 0 (b_X8_blind_0 F_X8_learnRows F_X8_isBelow F_X8_refused F_X3_blindBits) :=
  s_aload_n dX8_blind_0 rfl <|
  s_callV0 dX8_blind_1 kw_12_10 kw_12_11 kw_12_12 (ci := 8) rfl ok_X8_learnRows (by decide) (by decide) h_X8_learnRows (by decide) <|
  s_iload_n dX8_blind_4 rfl <|
  s_aload_n dX8_blind_5 rfl <|
  s_get dX8_blind_6 (ci := 8) (sl := 4) (Cn := RX8) (Tf := TX8) (N := 8) rfl (by decide) kiX8 kw_2_4 <|
  s_get dX8_blind_9 (ci := 3) (sl := 2) (Cn := RX3) (Tf := TX3) (N := 8) rfl (by decide) kiX3 kw_30_1 <|
  s_callS1 dX8_blind_12 kw_8_13 kw_8_14 ok_X8_isBelow (by decide) (by decide) h_X8_isBelow (by decide) <|
  s_if_ne dX8_blind_15 (by decide) (s_X8_blind_25 h_X8_learnRows h_X8_isBelow h_X8_refused h_X3_blindBits) (s_X8_blind_18 h_X8_learnRows h_X8_isBelow h_X8_refused h_X3_blindBits)
noncomputable def m_X8_blind (F_X8_learnRows F_X8_isBelow F_X8_refused F_X3_blindBits : KF) : KF := k_fun [] (b_X8_blind_0 F_X8_learnRows F_X8_isBelow F_X8_refused F_X3_blindBits)
theorem r_X8_blind {l : Launch} {D : va_G} {cI cS cM : ClassId} {F_X8_learnRows F_X8_isBelow F_X8_refused F_X3_blindBits : KF} (h_X8_learnRows : k_snd l D cI cS cM yX8_learnRows cX8_learnRows 1 none 7 1 F_X8_learnRows) (h_X8_isBelow : k_snd l D cI cS cM yX8_isBelow cX8_isBelow 2 (some .boolean) 1 2 F_X8_isBelow) (h_X8_refused : k_snd l D cI cS cM yX8_refused cX8_refused 3 (some .int) 2 2 F_X8_refused) (h_X3_blindBits : k_snd l D cI cS cM yX3_blindBits cX3_blindBits 4 (some .int) 1 2 F_X3_blindBits) : k_snd l D cI cS cM yX8_blind cX8_blind 2 (some .int) 8 2 (m_X8_blind F_X8_learnRows F_X8_isBelow F_X8_refused F_X3_blindBits) :=
  k_method (by decide +kernel) (by simp) rfl (s_X8_blind_0 h_X8_learnRows h_X8_isBelow h_X8_refused h_X3_blindBits)
noncomputable def b_X8_degree_25 (F_X8_learnRows F_X8_isBelow F_X8_refused : KF) : KC := o_aload 0 <| o_get 8 4 <| o_get 3 3 <| o_iload 1 <| o_iald <| o_iret
set_option maxRecDepth 100000 in
theorem s_X8_degree_25 {l : Launch} {D : va_G} {cI cS cM : ClassId} {F_X8_learnRows F_X8_isBelow F_X8_refused : KF} (h_X8_learnRows : k_snd l D cI cS cM yX8_learnRows cX8_learnRows 1 none 7 1 F_X8_learnRows) (h_X8_isBelow : k_snd l D cI cS cM yX8_isBelow cX8_isBelow 2 (some .boolean) 1 2 F_X8_isBelow) (h_X8_refused : k_snd l D cI cS cM yX8_refused cX8_refused 3 (some .int) 2 2 F_X8_refused) : KS l D cI cS cM yX8_degree.cls yX8_degree.name cX8_degree 2 (some .int) (k_rm 8 0 0) false 25 0 (b_X8_degree_25 F_X8_learnRows F_X8_isBelow F_X8_refused) :=
  s_aload_n dX8_degree_25 rfl <|
  s_get dX8_degree_26 (ci := 8) (sl := 4) (Cn := RX8) (Tf := TX8) (N := 8) rfl (by decide) kiX8 kw_2_4 <|
  s_get dX8_degree_29 (ci := 3) (sl := 3) (Cn := RX3) (Tf := TX3) (N := 8) rfl (by decide) kiX3 kw_30_2 <|
  s_iload_n dX8_degree_32 rfl <|
  s_iald dX8_degree_33 <|
  s_ireturn dX8_degree_34 rfl
noncomputable def b_X8_degree_18 (F_X8_learnRows F_X8_isBelow F_X8_refused : KF) : KC := o_aload 0 <| o_push 4294967294 <| o_cV1 2 8 F_X8_refused <| o_iret
set_option maxRecDepth 100000 in
theorem s_X8_degree_18 {l : Launch} {D : va_G} {cI cS cM : ClassId} {F_X8_learnRows F_X8_isBelow F_X8_refused : KF} (h_X8_learnRows : k_snd l D cI cS cM yX8_learnRows cX8_learnRows 1 none 7 1 F_X8_learnRows) (h_X8_isBelow : k_snd l D cI cS cM yX8_isBelow cX8_isBelow 2 (some .boolean) 1 2 F_X8_isBelow) (h_X8_refused : k_snd l D cI cS cM yX8_refused cX8_refused 3 (some .int) 2 2 F_X8_refused) : KS l D cI cS cM yX8_degree.cls yX8_degree.name cX8_degree 2 (some .int) (k_rm 8 0 0) false 18 0 (b_X8_degree_18 F_X8_learnRows F_X8_isBelow F_X8_refused) :=
  s_aload_n dX8_degree_18 rfl <|
  s_push2 dX8_degree_19 (by decide) (by decide) <|
  s_callV1 dX8_degree_21 kw_8_9 kw_8_10 kw_8_11 (ci := 8) rfl ok_X8_refused (by decide) (by decide) h_X8_refused (by decide) <|
  s_ireturn dX8_degree_24 rfl
noncomputable def b_X8_degree_0 (F_X8_learnRows F_X8_isBelow F_X8_refused : KF) : KC := o_aload 0 <| o_cV0 1 8 F_X8_learnRows <| o_iload 1 <| o_aload 0 <| o_get 8 4 <| o_get 3 2 <| o_cS1 2 F_X8_isBelow <| o_c1 g_eq (b_X8_degree_18 F_X8_learnRows F_X8_isBelow F_X8_refused) (b_X8_degree_25 F_X8_learnRows F_X8_isBelow F_X8_refused)
set_option maxRecDepth 100000 in
theorem s_X8_degree_0 {l : Launch} {D : va_G} {cI cS cM : ClassId} {F_X8_learnRows F_X8_isBelow F_X8_refused : KF} (h_X8_learnRows : k_snd l D cI cS cM yX8_learnRows cX8_learnRows 1 none 7 1 F_X8_learnRows) (h_X8_isBelow : k_snd l D cI cS cM yX8_isBelow cX8_isBelow 2 (some .boolean) 1 2 F_X8_isBelow) (h_X8_refused : k_snd l D cI cS cM yX8_refused cX8_refused 3 (some .int) 2 2 F_X8_refused) : KS l D cI cS cM yX8_degree.cls yX8_degree.name cX8_degree 2 (some .int) (k_rm 8 0 0) false 0 0 (b_X8_degree_0 F_X8_learnRows F_X8_isBelow F_X8_refused) :=
  s_aload_n dX8_degree_0 rfl <|
  s_callV0 dX8_degree_1 kw_12_10 kw_12_11 kw_12_12 (ci := 8) rfl ok_X8_learnRows (by decide) (by decide) h_X8_learnRows (by decide) <|
  s_iload_n dX8_degree_4 rfl <|
  s_aload_n dX8_degree_5 rfl <|
  s_get dX8_degree_6 (ci := 8) (sl := 4) (Cn := RX8) (Tf := TX8) (N := 8) rfl (by decide) kiX8 kw_2_4 <|
  s_get dX8_degree_9 (ci := 3) (sl := 2) (Cn := RX3) (Tf := TX3) (N := 8) rfl (by decide) kiX3 kw_30_1 <|
  s_callS1 dX8_degree_12 kw_8_13 kw_8_14 ok_X8_isBelow (by decide) (by decide) h_X8_isBelow (by decide) <|
  s_if_ne dX8_degree_15 (by decide) (s_X8_degree_25 h_X8_learnRows h_X8_isBelow h_X8_refused) (s_X8_degree_18 h_X8_learnRows h_X8_isBelow h_X8_refused)
noncomputable def m_X8_degree (F_X8_learnRows F_X8_isBelow F_X8_refused : KF) : KF := k_fun [] (b_X8_degree_0 F_X8_learnRows F_X8_isBelow F_X8_refused)
theorem r_X8_degree {l : Launch} {D : va_G} {cI cS cM : ClassId} {F_X8_learnRows F_X8_isBelow F_X8_refused : KF} (h_X8_learnRows : k_snd l D cI cS cM yX8_learnRows cX8_learnRows 1 none 7 1 F_X8_learnRows) (h_X8_isBelow : k_snd l D cI cS cM yX8_isBelow cX8_isBelow 2 (some .boolean) 1 2 F_X8_isBelow) (h_X8_refused : k_snd l D cI cS cM yX8_refused cX8_refused 3 (some .int) 2 2 F_X8_refused) : k_snd l D cI cS cM yX8_degree cX8_degree 2 (some .int) 8 2 (m_X8_degree F_X8_learnRows F_X8_isBelow F_X8_refused) :=
  k_method (by decide +kernel) (by simp) rfl (s_X8_degree_0 h_X8_learnRows h_X8_isBelow h_X8_refused)
noncomputable def b_X8_digest_208 (F_X8_learnRows F_X8_told F_X8_wholeAnswer F_X8_sortAnswer F_X3_mirrorSign : KF) (J : List KC) : KC := o_lload 1 <| o_lret
set_option maxRecDepth 100000 in
theorem s_X8_digest_208 {l : Launch} {D : va_G} {cI cS cM : ClassId} {F_X8_learnRows F_X8_told F_X8_wholeAnswer F_X8_sortAnswer F_X3_mirrorSign : KF} (h_X8_learnRows : k_snd l D cI cS cM yX8_learnRows cX8_learnRows 1 none 7 1 F_X8_learnRows) (h_X8_told : k_snd l D cI cS cM yX8_told cX8_told 2 (some .int) 3 2 F_X8_told) (h_X8_wholeAnswer : k_snd l D cI cS cM yX8_wholeAnswer cX8_wholeAnswer 2 (some .int) 2 2 F_X8_wholeAnswer) (h_X8_sortAnswer : k_snd l D cI cS cM yX8_sortAnswer cX8_sortAnswer 4 (some .int) 2 3 F_X8_sortAnswer) (h_X3_mirrorSign : k_snd l D cI cS cM yX3_mirrorSign cX3_mirrorSign 4 (some .int) 3 2 F_X3_mirrorSign) {J : List KC} (hJ : ∀ (i pc d : Nat), ([(10, 0), (37, 0), (64, 0), (81, 0), (117, 0), (148, 0)] : List (Nat × Nat))[i]? = some (pc, d) → KS l D cI cS cM yX8_digest.cls yX8_digest.name cX8_digest 5 (some .long) (k_rm 8 0 0) true pc d (k_jmp J i)) : KS l D cI cS cM yX8_digest.cls yX8_digest.name cX8_digest 5 (some .long) (k_rm 8 0 0) true 208 0 (b_X8_digest_208 F_X8_learnRows F_X8_told F_X8_wholeAnswer F_X8_sortAnswer F_X3_mirrorSign J) :=
  s_lload_n dX8_digest_208 rfl <|
  s_lreturn dX8_digest_209 rfl
noncomputable def b_X8_digest_186 (F_X8_learnRows F_X8_told F_X8_wholeAnswer F_X8_sortAnswer F_X3_mirrorSign : KF) (J : List KC) : KC := o_lpush 31 <| o_lload 1 <| o_lbin l_mul <| o_aload 0 <| o_get 8 4 <| o_iload 3 <| o_cV1 2 3 F_X3_mirrorSign <| o_i2l <| o_lbin l_add <| o_lstore 1 <| o_iincL 3 1 <| k_jmp J 4
set_option maxRecDepth 100000 in
theorem s_X8_digest_186 {l : Launch} {D : va_G} {cI cS cM : ClassId} {F_X8_learnRows F_X8_told F_X8_wholeAnswer F_X8_sortAnswer F_X3_mirrorSign : KF} (h_X8_learnRows : k_snd l D cI cS cM yX8_learnRows cX8_learnRows 1 none 7 1 F_X8_learnRows) (h_X8_told : k_snd l D cI cS cM yX8_told cX8_told 2 (some .int) 3 2 F_X8_told) (h_X8_wholeAnswer : k_snd l D cI cS cM yX8_wholeAnswer cX8_wholeAnswer 2 (some .int) 2 2 F_X8_wholeAnswer) (h_X8_sortAnswer : k_snd l D cI cS cM yX8_sortAnswer cX8_sortAnswer 4 (some .int) 2 3 F_X8_sortAnswer) (h_X3_mirrorSign : k_snd l D cI cS cM yX3_mirrorSign cX3_mirrorSign 4 (some .int) 3 2 F_X3_mirrorSign) {J : List KC} (hJ : ∀ (i pc d : Nat), ([(10, 0), (37, 0), (64, 0), (81, 0), (117, 0), (148, 0)] : List (Nat × Nat))[i]? = some (pc, d) → KS l D cI cS cM yX8_digest.cls yX8_digest.name cX8_digest 5 (some .long) (k_rm 8 0 0) true pc d (k_jmp J i)) : KS l D cI cS cM yX8_digest.cls yX8_digest.name cX8_digest 5 (some .long) (k_rm 8 0 0) true 186 0 (b_X8_digest_186 F_X8_learnRows F_X8_told F_X8_wholeAnswer F_X8_sortAnswer F_X3_mirrorSign J) :=
  s_ldc2 dX8_digest_186 kw_40_6 rfl (by decide) <|
  s_lload_n dX8_digest_189 rfl <|
  s_lmul dX8_digest_190 <|
  s_aload_n dX8_digest_191 rfl <|
  s_get dX8_digest_192 (ci := 8) (sl := 4) (Cn := RX8) (Tf := TX8) (N := 8) rfl (by decide) kiX8 kw_2_4 <|
  s_iload_n dX8_digest_195 rfl <|
  s_callV1 dX8_digest_196 kw_32_1 kw_32_2 kw_32_3 (ci := 3) rfl ok_X3_mirrorSign (by decide) (by decide) h_X3_mirrorSign (by decide) <|
  s_i2l dX8_digest_199 <|
  s_ladd dX8_digest_200 <|
  s_lstore_n dX8_digest_201 rfl (by decide) <|
  s_iincL dX8_digest_202 (by decide) (by decide) <|
  s_goto dX8_digest_205 (by decide) (hJ 4 _ _ rfl)
noncomputable def b_X8_digest_160 (F_X8_learnRows F_X8_told F_X8_wholeAnswer F_X8_sortAnswer F_X3_mirrorSign : KF) (J : List KC) : KC := o_lpush 31 <| o_lload 1 <| o_lbin l_mul <| o_aload 0 <| o_get 8 4 <| o_get 3 5 <| o_iload 3 <| o_aald <| o_iload 4 <| o_iald <| o_i2l <| o_lbin l_add <| o_lstore 1 <| o_iincL 4 1 <| k_jmp J 5
set_option maxRecDepth 100000 in
theorem s_X8_digest_160 {l : Launch} {D : va_G} {cI cS cM : ClassId} {F_X8_learnRows F_X8_told F_X8_wholeAnswer F_X8_sortAnswer F_X3_mirrorSign : KF} (h_X8_learnRows : k_snd l D cI cS cM yX8_learnRows cX8_learnRows 1 none 7 1 F_X8_learnRows) (h_X8_told : k_snd l D cI cS cM yX8_told cX8_told 2 (some .int) 3 2 F_X8_told) (h_X8_wholeAnswer : k_snd l D cI cS cM yX8_wholeAnswer cX8_wholeAnswer 2 (some .int) 2 2 F_X8_wholeAnswer) (h_X8_sortAnswer : k_snd l D cI cS cM yX8_sortAnswer cX8_sortAnswer 4 (some .int) 2 3 F_X8_sortAnswer) (h_X3_mirrorSign : k_snd l D cI cS cM yX3_mirrorSign cX3_mirrorSign 4 (some .int) 3 2 F_X3_mirrorSign) {J : List KC} (hJ : ∀ (i pc d : Nat), ([(10, 0), (37, 0), (64, 0), (81, 0), (117, 0), (148, 0)] : List (Nat × Nat))[i]? = some (pc, d) → KS l D cI cS cM yX8_digest.cls yX8_digest.name cX8_digest 5 (some .long) (k_rm 8 0 0) true pc d (k_jmp J i)) : KS l D cI cS cM yX8_digest.cls yX8_digest.name cX8_digest 5 (some .long) (k_rm 8 0 0) true 160 0 (b_X8_digest_160 F_X8_learnRows F_X8_told F_X8_wholeAnswer F_X8_sortAnswer F_X3_mirrorSign J) :=
  s_ldc2 dX8_digest_160 kw_40_6 rfl (by decide) <|
  s_lload_n dX8_digest_163 rfl <|
  s_lmul dX8_digest_164 <|
  s_aload_n dX8_digest_165 rfl <|
  s_get dX8_digest_166 (ci := 8) (sl := 4) (Cn := RX8) (Tf := TX8) (N := 8) rfl (by decide) kiX8 kw_2_4 <|
  s_get dX8_digest_169 (ci := 3) (sl := 5) (Cn := RX3) (Tf := TX3) (N := 8) rfl (by decide) kiX3 kw_30_11 <|
  s_iload_n dX8_digest_172 rfl <|
  s_aald dX8_digest_173 <|
  s_iload dX8_digest_174 <|
  s_iald dX8_digest_176 <|
  s_i2l dX8_digest_177 <|
  s_ladd dX8_digest_178 <|
  s_lstore_n dX8_digest_179 rfl (by decide) <|
  s_iincL dX8_digest_180 (by decide) (by decide) <|
  s_goto dX8_digest_183 (by decide) (hJ 5 _ _ rfl)
noncomputable def b_X8_digest_148 (F_X8_learnRows F_X8_told F_X8_wholeAnswer F_X8_sortAnswer F_X3_mirrorSign : KF) (J : List KC) : KC := o_iload 4 <| o_aload 0 <| o_get 8 4 <| o_get 3 2 <| o_c2 s_lt (b_X8_digest_160 F_X8_learnRows F_X8_told F_X8_wholeAnswer F_X8_sortAnswer F_X3_mirrorSign J) (b_X8_digest_186 F_X8_learnRows F_X8_told F_X8_wholeAnswer F_X8_sortAnswer F_X3_mirrorSign J)
set_option maxRecDepth 100000 in
theorem s_X8_digest_148 {l : Launch} {D : va_G} {cI cS cM : ClassId} {F_X8_learnRows F_X8_told F_X8_wholeAnswer F_X8_sortAnswer F_X3_mirrorSign : KF} (h_X8_learnRows : k_snd l D cI cS cM yX8_learnRows cX8_learnRows 1 none 7 1 F_X8_learnRows) (h_X8_told : k_snd l D cI cS cM yX8_told cX8_told 2 (some .int) 3 2 F_X8_told) (h_X8_wholeAnswer : k_snd l D cI cS cM yX8_wholeAnswer cX8_wholeAnswer 2 (some .int) 2 2 F_X8_wholeAnswer) (h_X8_sortAnswer : k_snd l D cI cS cM yX8_sortAnswer cX8_sortAnswer 4 (some .int) 2 3 F_X8_sortAnswer) (h_X3_mirrorSign : k_snd l D cI cS cM yX3_mirrorSign cX3_mirrorSign 4 (some .int) 3 2 F_X3_mirrorSign) {J : List KC} (hJ : ∀ (i pc d : Nat), ([(10, 0), (37, 0), (64, 0), (81, 0), (117, 0), (148, 0)] : List (Nat × Nat))[i]? = some (pc, d) → KS l D cI cS cM yX8_digest.cls yX8_digest.name cX8_digest 5 (some .long) (k_rm 8 0 0) true pc d (k_jmp J i)) : KS l D cI cS cM yX8_digest.cls yX8_digest.name cX8_digest 5 (some .long) (k_rm 8 0 0) true 148 0 (b_X8_digest_148 F_X8_learnRows F_X8_told F_X8_wholeAnswer F_X8_sortAnswer F_X3_mirrorSign J) :=
  s_iload dX8_digest_148 <|
  s_aload_n dX8_digest_150 rfl <|
  s_get dX8_digest_151 (ci := 8) (sl := 4) (Cn := RX8) (Tf := TX8) (N := 8) rfl (by decide) kiX8 kw_2_4 <|
  s_get dX8_digest_154 (ci := 3) (sl := 2) (Cn := RX3) (Tf := TX3) (N := 8) rfl (by decide) kiX3 kw_30_1 <|
  s_icmp_ge dX8_digest_157 (by decide) (s_X8_digest_186 h_X8_learnRows h_X8_told h_X8_wholeAnswer h_X8_sortAnswer h_X3_mirrorSign hJ) (s_X8_digest_160 h_X8_learnRows h_X8_told h_X8_wholeAnswer h_X8_sortAnswer h_X3_mirrorSign hJ)
noncomputable def b_X8_digest_128 (F_X8_learnRows F_X8_told F_X8_wholeAnswer F_X8_sortAnswer F_X3_mirrorSign : KF) (J : List KC) : KC := o_lpush 31 <| o_lload 1 <| o_lbin l_mul <| o_aload 0 <| o_get 8 4 <| o_get 3 3 <| o_iload 3 <| o_iald <| o_i2l <| o_lbin l_add <| o_lstore 1 <| o_push 0 <| o_istoreL 4 <| b_X8_digest_148 F_X8_learnRows F_X8_told F_X8_wholeAnswer F_X8_sortAnswer F_X3_mirrorSign J
set_option maxRecDepth 100000 in
theorem s_X8_digest_128 {l : Launch} {D : va_G} {cI cS cM : ClassId} {F_X8_learnRows F_X8_told F_X8_wholeAnswer F_X8_sortAnswer F_X3_mirrorSign : KF} (h_X8_learnRows : k_snd l D cI cS cM yX8_learnRows cX8_learnRows 1 none 7 1 F_X8_learnRows) (h_X8_told : k_snd l D cI cS cM yX8_told cX8_told 2 (some .int) 3 2 F_X8_told) (h_X8_wholeAnswer : k_snd l D cI cS cM yX8_wholeAnswer cX8_wholeAnswer 2 (some .int) 2 2 F_X8_wholeAnswer) (h_X8_sortAnswer : k_snd l D cI cS cM yX8_sortAnswer cX8_sortAnswer 4 (some .int) 2 3 F_X8_sortAnswer) (h_X3_mirrorSign : k_snd l D cI cS cM yX3_mirrorSign cX3_mirrorSign 4 (some .int) 3 2 F_X3_mirrorSign) {J : List KC} (hJ : ∀ (i pc d : Nat), ([(10, 0), (37, 0), (64, 0), (81, 0), (117, 0), (148, 0)] : List (Nat × Nat))[i]? = some (pc, d) → KS l D cI cS cM yX8_digest.cls yX8_digest.name cX8_digest 5 (some .long) (k_rm 8 0 0) true pc d (k_jmp J i)) : KS l D cI cS cM yX8_digest.cls yX8_digest.name cX8_digest 5 (some .long) (k_rm 8 0 0) true 128 0 (b_X8_digest_128 F_X8_learnRows F_X8_told F_X8_wholeAnswer F_X8_sortAnswer F_X3_mirrorSign J) :=
  s_ldc2 dX8_digest_128 kw_40_6 rfl (by decide) <|
  s_lload_n dX8_digest_131 rfl <|
  s_lmul dX8_digest_132 <|
  s_aload_n dX8_digest_133 rfl <|
  s_get dX8_digest_134 (ci := 8) (sl := 4) (Cn := RX8) (Tf := TX8) (N := 8) rfl (by decide) kiX8 kw_2_4 <|
  s_get dX8_digest_137 (ci := 3) (sl := 3) (Cn := RX3) (Tf := TX3) (N := 8) rfl (by decide) kiX3 kw_30_2 <|
  s_iload_n dX8_digest_140 rfl <|
  s_iald dX8_digest_141 <|
  s_i2l dX8_digest_142 <|
  s_ladd dX8_digest_143 <|
  s_lstore_n dX8_digest_144 rfl (by decide) <|
  s_push1 dX8_digest_145 (by decide) (by decide) <|
  s_istoreL dX8_digest_146 (by decide) <|
  s_X8_digest_148 h_X8_learnRows h_X8_told h_X8_wholeAnswer h_X8_sortAnswer h_X3_mirrorSign hJ
noncomputable def b_X8_digest_117 (F_X8_learnRows F_X8_told F_X8_wholeAnswer F_X8_sortAnswer F_X3_mirrorSign : KF) (J : List KC) : KC := o_iload 3 <| o_aload 0 <| o_get 8 4 <| o_get 3 2 <| o_c2 s_lt (b_X8_digest_128 F_X8_learnRows F_X8_told F_X8_wholeAnswer F_X8_sortAnswer F_X3_mirrorSign J) (b_X8_digest_208 F_X8_learnRows F_X8_told F_X8_wholeAnswer F_X8_sortAnswer F_X3_mirrorSign J)
set_option maxRecDepth 100000 in
theorem s_X8_digest_117 {l : Launch} {D : va_G} {cI cS cM : ClassId} {F_X8_learnRows F_X8_told F_X8_wholeAnswer F_X8_sortAnswer F_X3_mirrorSign : KF} (h_X8_learnRows : k_snd l D cI cS cM yX8_learnRows cX8_learnRows 1 none 7 1 F_X8_learnRows) (h_X8_told : k_snd l D cI cS cM yX8_told cX8_told 2 (some .int) 3 2 F_X8_told) (h_X8_wholeAnswer : k_snd l D cI cS cM yX8_wholeAnswer cX8_wholeAnswer 2 (some .int) 2 2 F_X8_wholeAnswer) (h_X8_sortAnswer : k_snd l D cI cS cM yX8_sortAnswer cX8_sortAnswer 4 (some .int) 2 3 F_X8_sortAnswer) (h_X3_mirrorSign : k_snd l D cI cS cM yX3_mirrorSign cX3_mirrorSign 4 (some .int) 3 2 F_X3_mirrorSign) {J : List KC} (hJ : ∀ (i pc d : Nat), ([(10, 0), (37, 0), (64, 0), (81, 0), (117, 0), (148, 0)] : List (Nat × Nat))[i]? = some (pc, d) → KS l D cI cS cM yX8_digest.cls yX8_digest.name cX8_digest 5 (some .long) (k_rm 8 0 0) true pc d (k_jmp J i)) : KS l D cI cS cM yX8_digest.cls yX8_digest.name cX8_digest 5 (some .long) (k_rm 8 0 0) true 117 0 (b_X8_digest_117 F_X8_learnRows F_X8_told F_X8_wholeAnswer F_X8_sortAnswer F_X3_mirrorSign J) :=
  s_iload_n dX8_digest_117 rfl <|
  s_aload_n dX8_digest_118 rfl <|
  s_get dX8_digest_119 (ci := 8) (sl := 4) (Cn := RX8) (Tf := TX8) (N := 8) rfl (by decide) kiX8 kw_2_4 <|
  s_get dX8_digest_122 (ci := 3) (sl := 2) (Cn := RX3) (Tf := TX3) (N := 8) rfl (by decide) kiX3 kw_30_1 <|
  s_icmp_ge dX8_digest_125 (by decide) (s_X8_digest_208 h_X8_learnRows h_X8_told h_X8_wholeAnswer h_X8_sortAnswer h_X3_mirrorSign hJ) (s_X8_digest_128 h_X8_learnRows h_X8_told h_X8_wholeAnswer h_X8_sortAnswer h_X3_mirrorSign hJ)
noncomputable def b_X8_digest_115 (F_X8_learnRows F_X8_told F_X8_wholeAnswer F_X8_sortAnswer F_X3_mirrorSign : KF) (J : List KC) : KC := o_push 0 <| o_istoreL 3 <| b_X8_digest_117 F_X8_learnRows F_X8_told F_X8_wholeAnswer F_X8_sortAnswer F_X3_mirrorSign J
set_option maxRecDepth 100000 in
theorem s_X8_digest_115 {l : Launch} {D : va_G} {cI cS cM : ClassId} {F_X8_learnRows F_X8_told F_X8_wholeAnswer F_X8_sortAnswer F_X3_mirrorSign : KF} (h_X8_learnRows : k_snd l D cI cS cM yX8_learnRows cX8_learnRows 1 none 7 1 F_X8_learnRows) (h_X8_told : k_snd l D cI cS cM yX8_told cX8_told 2 (some .int) 3 2 F_X8_told) (h_X8_wholeAnswer : k_snd l D cI cS cM yX8_wholeAnswer cX8_wholeAnswer 2 (some .int) 2 2 F_X8_wholeAnswer) (h_X8_sortAnswer : k_snd l D cI cS cM yX8_sortAnswer cX8_sortAnswer 4 (some .int) 2 3 F_X8_sortAnswer) (h_X3_mirrorSign : k_snd l D cI cS cM yX3_mirrorSign cX3_mirrorSign 4 (some .int) 3 2 F_X3_mirrorSign) {J : List KC} (hJ : ∀ (i pc d : Nat), ([(10, 0), (37, 0), (64, 0), (81, 0), (117, 0), (148, 0)] : List (Nat × Nat))[i]? = some (pc, d) → KS l D cI cS cM yX8_digest.cls yX8_digest.name cX8_digest 5 (some .long) (k_rm 8 0 0) true pc d (k_jmp J i)) : KS l D cI cS cM yX8_digest.cls yX8_digest.name cX8_digest 5 (some .long) (k_rm 8 0 0) true 115 0 (b_X8_digest_115 F_X8_learnRows F_X8_told F_X8_wholeAnswer F_X8_sortAnswer F_X3_mirrorSign J) :=
  s_push1 dX8_digest_115 (by decide) (by decide) <|
  s_istoreL_n dX8_digest_116 rfl (by decide) <|
  s_X8_digest_117 h_X8_learnRows h_X8_told h_X8_wholeAnswer h_X8_sortAnswer h_X3_mirrorSign hJ
noncomputable def b_X8_digest_109 (F_X8_learnRows F_X8_told F_X8_wholeAnswer F_X8_sortAnswer F_X3_mirrorSign : KF) (J : List KC) : KC := o_iincL 3 1 <| k_jmp J 2
set_option maxRecDepth 100000 in
theorem s_X8_digest_109 {l : Launch} {D : va_G} {cI cS cM : ClassId} {F_X8_learnRows F_X8_told F_X8_wholeAnswer F_X8_sortAnswer F_X3_mirrorSign : KF} (h_X8_learnRows : k_snd l D cI cS cM yX8_learnRows cX8_learnRows 1 none 7 1 F_X8_learnRows) (h_X8_told : k_snd l D cI cS cM yX8_told cX8_told 2 (some .int) 3 2 F_X8_told) (h_X8_wholeAnswer : k_snd l D cI cS cM yX8_wholeAnswer cX8_wholeAnswer 2 (some .int) 2 2 F_X8_wholeAnswer) (h_X8_sortAnswer : k_snd l D cI cS cM yX8_sortAnswer cX8_sortAnswer 4 (some .int) 2 3 F_X8_sortAnswer) (h_X3_mirrorSign : k_snd l D cI cS cM yX3_mirrorSign cX3_mirrorSign 4 (some .int) 3 2 F_X3_mirrorSign) {J : List KC} (hJ : ∀ (i pc d : Nat), ([(10, 0), (37, 0), (64, 0), (81, 0), (117, 0), (148, 0)] : List (Nat × Nat))[i]? = some (pc, d) → KS l D cI cS cM yX8_digest.cls yX8_digest.name cX8_digest 5 (some .long) (k_rm 8 0 0) true pc d (k_jmp J i)) : KS l D cI cS cM yX8_digest.cls yX8_digest.name cX8_digest 5 (some .long) (k_rm 8 0 0) true 109 0 (b_X8_digest_109 F_X8_learnRows F_X8_told F_X8_wholeAnswer F_X8_sortAnswer F_X3_mirrorSign J) :=
  s_iincL dX8_digest_109 (by decide) (by decide) <|
  s_goto dX8_digest_112 (by decide) (hJ 2 _ _ rfl)
noncomputable def b_X8_digest_88 (F_X8_learnRows F_X8_told F_X8_wholeAnswer F_X8_sortAnswer F_X3_mirrorSign : KF) (J : List KC) : KC := o_lpush 31 <| o_lload 1 <| o_lbin l_mul <| o_aload 0 <| o_iload 3 <| o_iload 4 <| o_cV1 3 8 F_X8_sortAnswer <| o_i2l <| o_lbin l_add <| o_lstore 1 <| o_iincL 4 1 <| k_jmp J 3
set_option maxRecDepth 100000 in
theorem s_X8_digest_88 {l : Launch} {D : va_G} {cI cS cM : ClassId} {F_X8_learnRows F_X8_told F_X8_wholeAnswer F_X8_sortAnswer F_X3_mirrorSign : KF} (h_X8_learnRows : k_snd l D cI cS cM yX8_learnRows cX8_learnRows 1 none 7 1 F_X8_learnRows) (h_X8_told : k_snd l D cI cS cM yX8_told cX8_told 2 (some .int) 3 2 F_X8_told) (h_X8_wholeAnswer : k_snd l D cI cS cM yX8_wholeAnswer cX8_wholeAnswer 2 (some .int) 2 2 F_X8_wholeAnswer) (h_X8_sortAnswer : k_snd l D cI cS cM yX8_sortAnswer cX8_sortAnswer 4 (some .int) 2 3 F_X8_sortAnswer) (h_X3_mirrorSign : k_snd l D cI cS cM yX3_mirrorSign cX3_mirrorSign 4 (some .int) 3 2 F_X3_mirrorSign) {J : List KC} (hJ : ∀ (i pc d : Nat), ([(10, 0), (37, 0), (64, 0), (81, 0), (117, 0), (148, 0)] : List (Nat × Nat))[i]? = some (pc, d) → KS l D cI cS cM yX8_digest.cls yX8_digest.name cX8_digest 5 (some .long) (k_rm 8 0 0) true pc d (k_jmp J i)) : KS l D cI cS cM yX8_digest.cls yX8_digest.name cX8_digest 5 (some .long) (k_rm 8 0 0) true 88 0 (b_X8_digest_88 F_X8_learnRows F_X8_told F_X8_wholeAnswer F_X8_sortAnswer F_X3_mirrorSign J) :=
  s_ldc2 dX8_digest_88 kw_40_6 rfl (by decide) <|
  s_lload_n dX8_digest_91 rfl <|
  s_lmul dX8_digest_92 <|
  s_aload_n dX8_digest_93 rfl <|
  s_iload_n dX8_digest_94 rfl <|
  s_iload dX8_digest_95 <|
  s_callV1 dX8_digest_97 kw_28_7 kw_28_8 kw_28_9 (ci := 8) rfl ok_X8_sortAnswer (by decide) (by decide) h_X8_sortAnswer (by decide) <|
  s_i2l dX8_digest_100 <|
  s_ladd dX8_digest_101 <|
  s_lstore_n dX8_digest_102 rfl (by decide) <|
  s_iincL dX8_digest_103 (by decide) (by decide) <|
  s_goto dX8_digest_106 (by decide) (hJ 3 _ _ rfl)
noncomputable def b_X8_digest_81 (F_X8_learnRows F_X8_told F_X8_wholeAnswer F_X8_sortAnswer F_X3_mirrorSign : KF) (J : List KC) : KC := o_iload 4 <| o_push 6 <| o_c2 s_lt (b_X8_digest_88 F_X8_learnRows F_X8_told F_X8_wholeAnswer F_X8_sortAnswer F_X3_mirrorSign J) (b_X8_digest_109 F_X8_learnRows F_X8_told F_X8_wholeAnswer F_X8_sortAnswer F_X3_mirrorSign J)
set_option maxRecDepth 100000 in
theorem s_X8_digest_81 {l : Launch} {D : va_G} {cI cS cM : ClassId} {F_X8_learnRows F_X8_told F_X8_wholeAnswer F_X8_sortAnswer F_X3_mirrorSign : KF} (h_X8_learnRows : k_snd l D cI cS cM yX8_learnRows cX8_learnRows 1 none 7 1 F_X8_learnRows) (h_X8_told : k_snd l D cI cS cM yX8_told cX8_told 2 (some .int) 3 2 F_X8_told) (h_X8_wholeAnswer : k_snd l D cI cS cM yX8_wholeAnswer cX8_wholeAnswer 2 (some .int) 2 2 F_X8_wholeAnswer) (h_X8_sortAnswer : k_snd l D cI cS cM yX8_sortAnswer cX8_sortAnswer 4 (some .int) 2 3 F_X8_sortAnswer) (h_X3_mirrorSign : k_snd l D cI cS cM yX3_mirrorSign cX3_mirrorSign 4 (some .int) 3 2 F_X3_mirrorSign) {J : List KC} (hJ : ∀ (i pc d : Nat), ([(10, 0), (37, 0), (64, 0), (81, 0), (117, 0), (148, 0)] : List (Nat × Nat))[i]? = some (pc, d) → KS l D cI cS cM yX8_digest.cls yX8_digest.name cX8_digest 5 (some .long) (k_rm 8 0 0) true pc d (k_jmp J i)) : KS l D cI cS cM yX8_digest.cls yX8_digest.name cX8_digest 5 (some .long) (k_rm 8 0 0) true 81 0 (b_X8_digest_81 F_X8_learnRows F_X8_told F_X8_wholeAnswer F_X8_sortAnswer F_X3_mirrorSign J) :=
  s_iload dX8_digest_81 <|
  s_push2 dX8_digest_83 (by decide) (by decide) <|
  s_icmp_ge dX8_digest_85 (by decide) (s_X8_digest_109 h_X8_learnRows h_X8_told h_X8_wholeAnswer h_X8_sortAnswer h_X3_mirrorSign hJ) (s_X8_digest_88 h_X8_learnRows h_X8_told h_X8_wholeAnswer h_X8_sortAnswer h_X3_mirrorSign hJ)
noncomputable def b_X8_digest_78 (F_X8_learnRows F_X8_told F_X8_wholeAnswer F_X8_sortAnswer F_X3_mirrorSign : KF) (J : List KC) : KC := o_push 0 <| o_istoreL 4 <| b_X8_digest_81 F_X8_learnRows F_X8_told F_X8_wholeAnswer F_X8_sortAnswer F_X3_mirrorSign J
set_option maxRecDepth 100000 in
theorem s_X8_digest_78 {l : Launch} {D : va_G} {cI cS cM : ClassId} {F_X8_learnRows F_X8_told F_X8_wholeAnswer F_X8_sortAnswer F_X3_mirrorSign : KF} (h_X8_learnRows : k_snd l D cI cS cM yX8_learnRows cX8_learnRows 1 none 7 1 F_X8_learnRows) (h_X8_told : k_snd l D cI cS cM yX8_told cX8_told 2 (some .int) 3 2 F_X8_told) (h_X8_wholeAnswer : k_snd l D cI cS cM yX8_wholeAnswer cX8_wholeAnswer 2 (some .int) 2 2 F_X8_wholeAnswer) (h_X8_sortAnswer : k_snd l D cI cS cM yX8_sortAnswer cX8_sortAnswer 4 (some .int) 2 3 F_X8_sortAnswer) (h_X3_mirrorSign : k_snd l D cI cS cM yX3_mirrorSign cX3_mirrorSign 4 (some .int) 3 2 F_X3_mirrorSign) {J : List KC} (hJ : ∀ (i pc d : Nat), ([(10, 0), (37, 0), (64, 0), (81, 0), (117, 0), (148, 0)] : List (Nat × Nat))[i]? = some (pc, d) → KS l D cI cS cM yX8_digest.cls yX8_digest.name cX8_digest 5 (some .long) (k_rm 8 0 0) true pc d (k_jmp J i)) : KS l D cI cS cM yX8_digest.cls yX8_digest.name cX8_digest 5 (some .long) (k_rm 8 0 0) true 78 0 (b_X8_digest_78 F_X8_learnRows F_X8_told F_X8_wholeAnswer F_X8_sortAnswer F_X3_mirrorSign J) :=
  s_push1 dX8_digest_78 (by decide) (by decide) <|
  s_istoreL dX8_digest_79 (by decide) <|
  s_X8_digest_81 h_X8_learnRows h_X8_told h_X8_wholeAnswer h_X8_sortAnswer h_X3_mirrorSign hJ
noncomputable def b_X8_digest_64 (F_X8_learnRows F_X8_told F_X8_wholeAnswer F_X8_sortAnswer F_X3_mirrorSign : KF) (J : List KC) : KC := o_iload 3 <| o_aload 0 <| o_get 8 4 <| o_get 3 0 <| o_get 6 1 <| o_c2 s_lt (b_X8_digest_78 F_X8_learnRows F_X8_told F_X8_wholeAnswer F_X8_sortAnswer F_X3_mirrorSign J) (b_X8_digest_115 F_X8_learnRows F_X8_told F_X8_wholeAnswer F_X8_sortAnswer F_X3_mirrorSign J)
set_option maxRecDepth 100000 in
theorem s_X8_digest_64 {l : Launch} {D : va_G} {cI cS cM : ClassId} {F_X8_learnRows F_X8_told F_X8_wholeAnswer F_X8_sortAnswer F_X3_mirrorSign : KF} (h_X8_learnRows : k_snd l D cI cS cM yX8_learnRows cX8_learnRows 1 none 7 1 F_X8_learnRows) (h_X8_told : k_snd l D cI cS cM yX8_told cX8_told 2 (some .int) 3 2 F_X8_told) (h_X8_wholeAnswer : k_snd l D cI cS cM yX8_wholeAnswer cX8_wholeAnswer 2 (some .int) 2 2 F_X8_wholeAnswer) (h_X8_sortAnswer : k_snd l D cI cS cM yX8_sortAnswer cX8_sortAnswer 4 (some .int) 2 3 F_X8_sortAnswer) (h_X3_mirrorSign : k_snd l D cI cS cM yX3_mirrorSign cX3_mirrorSign 4 (some .int) 3 2 F_X3_mirrorSign) {J : List KC} (hJ : ∀ (i pc d : Nat), ([(10, 0), (37, 0), (64, 0), (81, 0), (117, 0), (148, 0)] : List (Nat × Nat))[i]? = some (pc, d) → KS l D cI cS cM yX8_digest.cls yX8_digest.name cX8_digest 5 (some .long) (k_rm 8 0 0) true pc d (k_jmp J i)) : KS l D cI cS cM yX8_digest.cls yX8_digest.name cX8_digest 5 (some .long) (k_rm 8 0 0) true 64 0 (b_X8_digest_64 F_X8_learnRows F_X8_told F_X8_wholeAnswer F_X8_sortAnswer F_X3_mirrorSign J) :=
  s_iload_n dX8_digest_64 rfl <|
  s_aload_n dX8_digest_65 rfl <|
  s_get dX8_digest_66 (ci := 8) (sl := 4) (Cn := RX8) (Tf := TX8) (N := 8) rfl (by decide) kiX8 kw_2_4 <|
  s_get dX8_digest_69 (ci := 3) (sl := 0) (Cn := RX3) (Tf := TX3) (N := 8) rfl (by decide) kiX3 kw_12_18 <|
  s_get dX8_digest_72 (ci := 6) (sl := 1) (Cn := RX6) (Tf := TX6) (N := 11) rfl (by decide) kiX6 kw_21_17 <|
  s_icmp_ge dX8_digest_75 (by decide) (s_X8_digest_115 h_X8_learnRows h_X8_told h_X8_wholeAnswer h_X8_sortAnswer h_X3_mirrorSign hJ) (s_X8_digest_78 h_X8_learnRows h_X8_told h_X8_wholeAnswer h_X8_sortAnswer h_X3_mirrorSign hJ)
noncomputable def b_X8_digest_62 (F_X8_learnRows F_X8_told F_X8_wholeAnswer F_X8_sortAnswer F_X3_mirrorSign : KF) (J : List KC) : KC := o_push 0 <| o_istoreL 3 <| b_X8_digest_64 F_X8_learnRows F_X8_told F_X8_wholeAnswer F_X8_sortAnswer F_X3_mirrorSign J
set_option maxRecDepth 100000 in
theorem s_X8_digest_62 {l : Launch} {D : va_G} {cI cS cM : ClassId} {F_X8_learnRows F_X8_told F_X8_wholeAnswer F_X8_sortAnswer F_X3_mirrorSign : KF} (h_X8_learnRows : k_snd l D cI cS cM yX8_learnRows cX8_learnRows 1 none 7 1 F_X8_learnRows) (h_X8_told : k_snd l D cI cS cM yX8_told cX8_told 2 (some .int) 3 2 F_X8_told) (h_X8_wholeAnswer : k_snd l D cI cS cM yX8_wholeAnswer cX8_wholeAnswer 2 (some .int) 2 2 F_X8_wholeAnswer) (h_X8_sortAnswer : k_snd l D cI cS cM yX8_sortAnswer cX8_sortAnswer 4 (some .int) 2 3 F_X8_sortAnswer) (h_X3_mirrorSign : k_snd l D cI cS cM yX3_mirrorSign cX3_mirrorSign 4 (some .int) 3 2 F_X3_mirrorSign) {J : List KC} (hJ : ∀ (i pc d : Nat), ([(10, 0), (37, 0), (64, 0), (81, 0), (117, 0), (148, 0)] : List (Nat × Nat))[i]? = some (pc, d) → KS l D cI cS cM yX8_digest.cls yX8_digest.name cX8_digest 5 (some .long) (k_rm 8 0 0) true pc d (k_jmp J i)) : KS l D cI cS cM yX8_digest.cls yX8_digest.name cX8_digest 5 (some .long) (k_rm 8 0 0) true 62 0 (b_X8_digest_62 F_X8_learnRows F_X8_told F_X8_wholeAnswer F_X8_sortAnswer F_X3_mirrorSign J) :=
  s_push1 dX8_digest_62 (by decide) (by decide) <|
  s_istoreL_n dX8_digest_63 rfl (by decide) <|
  s_X8_digest_64 h_X8_learnRows h_X8_told h_X8_wholeAnswer h_X8_sortAnswer h_X3_mirrorSign hJ
noncomputable def b_X8_digest_43 (F_X8_learnRows F_X8_told F_X8_wholeAnswer F_X8_sortAnswer F_X3_mirrorSign : KF) (J : List KC) : KC := o_lpush 31 <| o_lload 1 <| o_lbin l_mul <| o_aload 0 <| o_iload 3 <| o_cV1 2 8 F_X8_wholeAnswer <| o_i2l <| o_lbin l_add <| o_lstore 1 <| o_iincL 3 1 <| k_jmp J 1
set_option maxRecDepth 100000 in
theorem s_X8_digest_43 {l : Launch} {D : va_G} {cI cS cM : ClassId} {F_X8_learnRows F_X8_told F_X8_wholeAnswer F_X8_sortAnswer F_X3_mirrorSign : KF} (h_X8_learnRows : k_snd l D cI cS cM yX8_learnRows cX8_learnRows 1 none 7 1 F_X8_learnRows) (h_X8_told : k_snd l D cI cS cM yX8_told cX8_told 2 (some .int) 3 2 F_X8_told) (h_X8_wholeAnswer : k_snd l D cI cS cM yX8_wholeAnswer cX8_wholeAnswer 2 (some .int) 2 2 F_X8_wholeAnswer) (h_X8_sortAnswer : k_snd l D cI cS cM yX8_sortAnswer cX8_sortAnswer 4 (some .int) 2 3 F_X8_sortAnswer) (h_X3_mirrorSign : k_snd l D cI cS cM yX3_mirrorSign cX3_mirrorSign 4 (some .int) 3 2 F_X3_mirrorSign) {J : List KC} (hJ : ∀ (i pc d : Nat), ([(10, 0), (37, 0), (64, 0), (81, 0), (117, 0), (148, 0)] : List (Nat × Nat))[i]? = some (pc, d) → KS l D cI cS cM yX8_digest.cls yX8_digest.name cX8_digest 5 (some .long) (k_rm 8 0 0) true pc d (k_jmp J i)) : KS l D cI cS cM yX8_digest.cls yX8_digest.name cX8_digest 5 (some .long) (k_rm 8 0 0) true 43 0 (b_X8_digest_43 F_X8_learnRows F_X8_told F_X8_wholeAnswer F_X8_sortAnswer F_X3_mirrorSign J) :=
  s_ldc2 dX8_digest_43 kw_40_6 rfl (by decide) <|
  s_lload_n dX8_digest_46 rfl <|
  s_lmul dX8_digest_47 <|
  s_aload_n dX8_digest_48 rfl <|
  s_iload_n dX8_digest_49 rfl <|
  s_callV1 dX8_digest_50 kw_21_13 kw_21_14 kw_21_15 (ci := 8) rfl ok_X8_wholeAnswer (by decide) (by decide) h_X8_wholeAnswer (by decide) <|
  s_i2l dX8_digest_53 <|
  s_ladd dX8_digest_54 <|
  s_lstore_n dX8_digest_55 rfl (by decide) <|
  s_iincL dX8_digest_56 (by decide) (by decide) <|
  s_goto dX8_digest_59 (by decide) (hJ 1 _ _ rfl)
noncomputable def b_X8_digest_37 (F_X8_learnRows F_X8_told F_X8_wholeAnswer F_X8_sortAnswer F_X3_mirrorSign : KF) (J : List KC) : KC := o_iload 3 <| o_push 8 <| o_c2 s_lt (b_X8_digest_43 F_X8_learnRows F_X8_told F_X8_wholeAnswer F_X8_sortAnswer F_X3_mirrorSign J) (b_X8_digest_62 F_X8_learnRows F_X8_told F_X8_wholeAnswer F_X8_sortAnswer F_X3_mirrorSign J)
set_option maxRecDepth 100000 in
theorem s_X8_digest_37 {l : Launch} {D : va_G} {cI cS cM : ClassId} {F_X8_learnRows F_X8_told F_X8_wholeAnswer F_X8_sortAnswer F_X3_mirrorSign : KF} (h_X8_learnRows : k_snd l D cI cS cM yX8_learnRows cX8_learnRows 1 none 7 1 F_X8_learnRows) (h_X8_told : k_snd l D cI cS cM yX8_told cX8_told 2 (some .int) 3 2 F_X8_told) (h_X8_wholeAnswer : k_snd l D cI cS cM yX8_wholeAnswer cX8_wholeAnswer 2 (some .int) 2 2 F_X8_wholeAnswer) (h_X8_sortAnswer : k_snd l D cI cS cM yX8_sortAnswer cX8_sortAnswer 4 (some .int) 2 3 F_X8_sortAnswer) (h_X3_mirrorSign : k_snd l D cI cS cM yX3_mirrorSign cX3_mirrorSign 4 (some .int) 3 2 F_X3_mirrorSign) {J : List KC} (hJ : ∀ (i pc d : Nat), ([(10, 0), (37, 0), (64, 0), (81, 0), (117, 0), (148, 0)] : List (Nat × Nat))[i]? = some (pc, d) → KS l D cI cS cM yX8_digest.cls yX8_digest.name cX8_digest 5 (some .long) (k_rm 8 0 0) true pc d (k_jmp J i)) : KS l D cI cS cM yX8_digest.cls yX8_digest.name cX8_digest 5 (some .long) (k_rm 8 0 0) true 37 0 (b_X8_digest_37 F_X8_learnRows F_X8_told F_X8_wholeAnswer F_X8_sortAnswer F_X3_mirrorSign J) :=
  s_iload_n dX8_digest_37 rfl <|
  s_push2 dX8_digest_38 (by decide) (by decide) <|
  s_icmp_ge dX8_digest_40 (by decide) (s_X8_digest_62 h_X8_learnRows h_X8_told h_X8_wholeAnswer h_X8_sortAnswer h_X3_mirrorSign hJ) (s_X8_digest_43 h_X8_learnRows h_X8_told h_X8_wholeAnswer h_X8_sortAnswer h_X3_mirrorSign hJ)
noncomputable def b_X8_digest_35 (F_X8_learnRows F_X8_told F_X8_wholeAnswer F_X8_sortAnswer F_X3_mirrorSign : KF) (J : List KC) : KC := o_push 0 <| o_istoreL 3 <| b_X8_digest_37 F_X8_learnRows F_X8_told F_X8_wholeAnswer F_X8_sortAnswer F_X3_mirrorSign J
set_option maxRecDepth 100000 in
theorem s_X8_digest_35 {l : Launch} {D : va_G} {cI cS cM : ClassId} {F_X8_learnRows F_X8_told F_X8_wholeAnswer F_X8_sortAnswer F_X3_mirrorSign : KF} (h_X8_learnRows : k_snd l D cI cS cM yX8_learnRows cX8_learnRows 1 none 7 1 F_X8_learnRows) (h_X8_told : k_snd l D cI cS cM yX8_told cX8_told 2 (some .int) 3 2 F_X8_told) (h_X8_wholeAnswer : k_snd l D cI cS cM yX8_wholeAnswer cX8_wholeAnswer 2 (some .int) 2 2 F_X8_wholeAnswer) (h_X8_sortAnswer : k_snd l D cI cS cM yX8_sortAnswer cX8_sortAnswer 4 (some .int) 2 3 F_X8_sortAnswer) (h_X3_mirrorSign : k_snd l D cI cS cM yX3_mirrorSign cX3_mirrorSign 4 (some .int) 3 2 F_X3_mirrorSign) {J : List KC} (hJ : ∀ (i pc d : Nat), ([(10, 0), (37, 0), (64, 0), (81, 0), (117, 0), (148, 0)] : List (Nat × Nat))[i]? = some (pc, d) → KS l D cI cS cM yX8_digest.cls yX8_digest.name cX8_digest 5 (some .long) (k_rm 8 0 0) true pc d (k_jmp J i)) : KS l D cI cS cM yX8_digest.cls yX8_digest.name cX8_digest 5 (some .long) (k_rm 8 0 0) true 35 0 (b_X8_digest_35 F_X8_learnRows F_X8_told F_X8_wholeAnswer F_X8_sortAnswer F_X3_mirrorSign J) :=
  s_push1 dX8_digest_35 (by decide) (by decide) <|
  s_istoreL_n dX8_digest_36 rfl (by decide) <|
  s_X8_digest_37 h_X8_learnRows h_X8_told h_X8_wholeAnswer h_X8_sortAnswer h_X3_mirrorSign hJ
noncomputable def b_X8_digest_16 (F_X8_learnRows F_X8_told F_X8_wholeAnswer F_X8_sortAnswer F_X3_mirrorSign : KF) (J : List KC) : KC := o_lpush 31 <| o_lload 1 <| o_lbin l_mul <| o_aload 0 <| o_iload 3 <| o_cV1 2 8 F_X8_told <| o_i2l <| o_lbin l_add <| o_lstore 1 <| o_iincL 3 1 <| k_jmp J 0
set_option maxRecDepth 100000 in
theorem s_X8_digest_16 {l : Launch} {D : va_G} {cI cS cM : ClassId} {F_X8_learnRows F_X8_told F_X8_wholeAnswer F_X8_sortAnswer F_X3_mirrorSign : KF} (h_X8_learnRows : k_snd l D cI cS cM yX8_learnRows cX8_learnRows 1 none 7 1 F_X8_learnRows) (h_X8_told : k_snd l D cI cS cM yX8_told cX8_told 2 (some .int) 3 2 F_X8_told) (h_X8_wholeAnswer : k_snd l D cI cS cM yX8_wholeAnswer cX8_wholeAnswer 2 (some .int) 2 2 F_X8_wholeAnswer) (h_X8_sortAnswer : k_snd l D cI cS cM yX8_sortAnswer cX8_sortAnswer 4 (some .int) 2 3 F_X8_sortAnswer) (h_X3_mirrorSign : k_snd l D cI cS cM yX3_mirrorSign cX3_mirrorSign 4 (some .int) 3 2 F_X3_mirrorSign) {J : List KC} (hJ : ∀ (i pc d : Nat), ([(10, 0), (37, 0), (64, 0), (81, 0), (117, 0), (148, 0)] : List (Nat × Nat))[i]? = some (pc, d) → KS l D cI cS cM yX8_digest.cls yX8_digest.name cX8_digest 5 (some .long) (k_rm 8 0 0) true pc d (k_jmp J i)) : KS l D cI cS cM yX8_digest.cls yX8_digest.name cX8_digest 5 (some .long) (k_rm 8 0 0) true 16 0 (b_X8_digest_16 F_X8_learnRows F_X8_told F_X8_wholeAnswer F_X8_sortAnswer F_X3_mirrorSign J) :=
  s_ldc2 dX8_digest_16 kw_40_6 rfl (by decide) <|
  s_lload_n dX8_digest_19 rfl <|
  s_lmul dX8_digest_20 <|
  s_aload_n dX8_digest_21 rfl <|
  s_iload_n dX8_digest_22 rfl <|
  s_callV1 dX8_digest_23 kw_40_7 kw_39_12 kw_39_13 (ci := 8) rfl ok_X8_told (by decide) (by decide) h_X8_told (by decide) <|
  s_i2l dX8_digest_26 <|
  s_ladd dX8_digest_27 <|
  s_lstore_n dX8_digest_28 rfl (by decide) <|
  s_iincL dX8_digest_29 (by decide) (by decide) <|
  s_goto dX8_digest_32 (by decide) (hJ 0 _ _ rfl)
noncomputable def b_X8_digest_10 (F_X8_learnRows F_X8_told F_X8_wholeAnswer F_X8_sortAnswer F_X3_mirrorSign : KF) (J : List KC) : KC := o_iload 3 <| o_push 7 <| o_c2 s_lt (b_X8_digest_16 F_X8_learnRows F_X8_told F_X8_wholeAnswer F_X8_sortAnswer F_X3_mirrorSign J) (b_X8_digest_35 F_X8_learnRows F_X8_told F_X8_wholeAnswer F_X8_sortAnswer F_X3_mirrorSign J)
set_option maxRecDepth 100000 in
theorem s_X8_digest_10 {l : Launch} {D : va_G} {cI cS cM : ClassId} {F_X8_learnRows F_X8_told F_X8_wholeAnswer F_X8_sortAnswer F_X3_mirrorSign : KF} (h_X8_learnRows : k_snd l D cI cS cM yX8_learnRows cX8_learnRows 1 none 7 1 F_X8_learnRows) (h_X8_told : k_snd l D cI cS cM yX8_told cX8_told 2 (some .int) 3 2 F_X8_told) (h_X8_wholeAnswer : k_snd l D cI cS cM yX8_wholeAnswer cX8_wholeAnswer 2 (some .int) 2 2 F_X8_wholeAnswer) (h_X8_sortAnswer : k_snd l D cI cS cM yX8_sortAnswer cX8_sortAnswer 4 (some .int) 2 3 F_X8_sortAnswer) (h_X3_mirrorSign : k_snd l D cI cS cM yX3_mirrorSign cX3_mirrorSign 4 (some .int) 3 2 F_X3_mirrorSign) {J : List KC} (hJ : ∀ (i pc d : Nat), ([(10, 0), (37, 0), (64, 0), (81, 0), (117, 0), (148, 0)] : List (Nat × Nat))[i]? = some (pc, d) → KS l D cI cS cM yX8_digest.cls yX8_digest.name cX8_digest 5 (some .long) (k_rm 8 0 0) true pc d (k_jmp J i)) : KS l D cI cS cM yX8_digest.cls yX8_digest.name cX8_digest 5 (some .long) (k_rm 8 0 0) true 10 0 (b_X8_digest_10 F_X8_learnRows F_X8_told F_X8_wholeAnswer F_X8_sortAnswer F_X3_mirrorSign J) :=
  s_iload_n dX8_digest_10 rfl <|
  s_push2 dX8_digest_11 (by decide) (by decide) <|
  s_icmp_ge dX8_digest_13 (by decide) (s_X8_digest_35 h_X8_learnRows h_X8_told h_X8_wholeAnswer h_X8_sortAnswer h_X3_mirrorSign hJ) (s_X8_digest_16 h_X8_learnRows h_X8_told h_X8_wholeAnswer h_X8_sortAnswer h_X3_mirrorSign hJ)
noncomputable def b_X8_digest_0 (F_X8_learnRows F_X8_told F_X8_wholeAnswer F_X8_sortAnswer F_X3_mirrorSign : KF) (J : List KC) : KC := o_aload 0 <| o_cV0 1 8 F_X8_learnRows <| o_lpush 2447 <| o_lstore 1 <| o_push 0 <| o_istoreL 3 <| b_X8_digest_10 F_X8_learnRows F_X8_told F_X8_wholeAnswer F_X8_sortAnswer F_X3_mirrorSign J
set_option maxRecDepth 100000 in
theorem s_X8_digest_0 {l : Launch} {D : va_G} {cI cS cM : ClassId} {F_X8_learnRows F_X8_told F_X8_wholeAnswer F_X8_sortAnswer F_X3_mirrorSign : KF} (h_X8_learnRows : k_snd l D cI cS cM yX8_learnRows cX8_learnRows 1 none 7 1 F_X8_learnRows) (h_X8_told : k_snd l D cI cS cM yX8_told cX8_told 2 (some .int) 3 2 F_X8_told) (h_X8_wholeAnswer : k_snd l D cI cS cM yX8_wholeAnswer cX8_wholeAnswer 2 (some .int) 2 2 F_X8_wholeAnswer) (h_X8_sortAnswer : k_snd l D cI cS cM yX8_sortAnswer cX8_sortAnswer 4 (some .int) 2 3 F_X8_sortAnswer) (h_X3_mirrorSign : k_snd l D cI cS cM yX3_mirrorSign cX3_mirrorSign 4 (some .int) 3 2 F_X3_mirrorSign) {J : List KC} (hJ : ∀ (i pc d : Nat), ([(10, 0), (37, 0), (64, 0), (81, 0), (117, 0), (148, 0)] : List (Nat × Nat))[i]? = some (pc, d) → KS l D cI cS cM yX8_digest.cls yX8_digest.name cX8_digest 5 (some .long) (k_rm 8 0 0) true pc d (k_jmp J i)) : KS l D cI cS cM yX8_digest.cls yX8_digest.name cX8_digest 5 (some .long) (k_rm 8 0 0) true 0 0 (b_X8_digest_0 F_X8_learnRows F_X8_told F_X8_wholeAnswer F_X8_sortAnswer F_X3_mirrorSign J) :=
  s_aload_n dX8_digest_0 rfl <|
  s_callV0 dX8_digest_1 kw_12_10 kw_12_11 kw_12_12 (ci := 8) rfl ok_X8_learnRows (by decide) (by decide) h_X8_learnRows (by decide) <|
  s_ldc2 dX8_digest_4 kw_40_5 rfl (by decide) <|
  s_lstore_n dX8_digest_7 rfl (by decide) <|
  s_push1 dX8_digest_8 (by decide) (by decide) <|
  s_istoreL_n dX8_digest_9 rfl (by decide) <|
  s_X8_digest_10 h_X8_learnRows h_X8_told h_X8_wholeAnswer h_X8_sortAnswer h_X3_mirrorSign hJ
noncomputable def j_X8_digest (F_X8_learnRows F_X8_told F_X8_wholeAnswer F_X8_sortAnswer F_X3_mirrorSign : KF) (J : List KC) : List KC := [b_X8_digest_10 F_X8_learnRows F_X8_told F_X8_wholeAnswer F_X8_sortAnswer F_X3_mirrorSign J, b_X8_digest_37 F_X8_learnRows F_X8_told F_X8_wholeAnswer F_X8_sortAnswer F_X3_mirrorSign J, b_X8_digest_64 F_X8_learnRows F_X8_told F_X8_wholeAnswer F_X8_sortAnswer F_X3_mirrorSign J, b_X8_digest_81 F_X8_learnRows F_X8_told F_X8_wholeAnswer F_X8_sortAnswer F_X3_mirrorSign J, b_X8_digest_117 F_X8_learnRows F_X8_told F_X8_wholeAnswer F_X8_sortAnswer F_X3_mirrorSign J, b_X8_digest_148 F_X8_learnRows F_X8_told F_X8_wholeAnswer F_X8_sortAnswer F_X3_mirrorSign J]
noncomputable def m_X8_digest (F_X8_learnRows F_X8_told F_X8_wholeAnswer F_X8_sortAnswer F_X3_mirrorSign : KF) (n : Nat) : KF := k_fun [k_u, k_u, k_u, k_u] (b_X8_digest_0 F_X8_learnRows F_X8_told F_X8_wholeAnswer F_X8_sortAnswer F_X3_mirrorSign (k_loop (j_X8_digest F_X8_learnRows F_X8_told F_X8_wholeAnswer F_X8_sortAnswer F_X3_mirrorSign) n))
theorem r_X8_digest {l : Launch} {D : va_G} {cI cS cM : ClassId} {F_X8_learnRows F_X8_told F_X8_wholeAnswer F_X8_sortAnswer F_X3_mirrorSign : KF} (h_X8_learnRows : k_snd l D cI cS cM yX8_learnRows cX8_learnRows 1 none 7 1 F_X8_learnRows) (h_X8_told : k_snd l D cI cS cM yX8_told cX8_told 2 (some .int) 3 2 F_X8_told) (h_X8_wholeAnswer : k_snd l D cI cS cM yX8_wholeAnswer cX8_wholeAnswer 2 (some .int) 2 2 F_X8_wholeAnswer) (h_X8_sortAnswer : k_snd l D cI cS cM yX8_sortAnswer cX8_sortAnswer 4 (some .int) 2 3 F_X8_sortAnswer) (h_X3_mirrorSign : k_snd l D cI cS cM yX3_mirrorSign cX3_mirrorSign 4 (some .int) 3 2 F_X3_mirrorSign) (n : Nat) : k_snd l D cI cS cM yX8_digest cX8_digest 5 (some .long) 8 1 (m_X8_digest F_X8_learnRows F_X8_told F_X8_wholeAnswer F_X8_sortAnswer F_X3_mirrorSign n) :=
  k_method (by decide +kernel) (by simp) rfl (s_X8_digest_0 h_X8_learnRows h_X8_told h_X8_wholeAnswer h_X8_sortAnswer h_X3_mirrorSign (k_loops (hs := [(10, 0), (37, 0), (64, 0), (81, 0), (117, 0), (148, 0)]) (fun J hJ i pc d h => match i, h with | 0, h => by cases h; exact s_X8_digest_10 h_X8_learnRows h_X8_told h_X8_wholeAnswer h_X8_sortAnswer h_X3_mirrorSign hJ | 1, h => by cases h; exact s_X8_digest_37 h_X8_learnRows h_X8_told h_X8_wholeAnswer h_X8_sortAnswer h_X3_mirrorSign hJ | 2, h => by cases h; exact s_X8_digest_64 h_X8_learnRows h_X8_told h_X8_wholeAnswer h_X8_sortAnswer h_X3_mirrorSign hJ | 3, h => by cases h; exact s_X8_digest_81 h_X8_learnRows h_X8_told h_X8_wholeAnswer h_X8_sortAnswer h_X3_mirrorSign hJ | 4, h => by cases h; exact s_X8_digest_117 h_X8_learnRows h_X8_told h_X8_wholeAnswer h_X8_sortAnswer h_X3_mirrorSign hJ | 5, h => by cases h; exact s_X8_digest_148 h_X8_learnRows h_X8_told h_X8_wholeAnswer h_X8_sortAnswer h_X3_mirrorSign hJ | _ + 6, h => by simp at h) n))
noncomputable def b_X8_mirror_25 (F_X8_learnRows F_X8_isBelow F_X8_refused F_X3_mirrorSign : KF) : KC := o_aload 0 <| o_get 8 4 <| o_iload 1 <| o_cV1 2 3 F_X3_mirrorSign <| o_iret
set_option maxRecDepth 100000 in
theorem s_X8_mirror_25 {l : Launch} {D : va_G} {cI cS cM : ClassId} {F_X8_learnRows F_X8_isBelow F_X8_refused F_X3_mirrorSign : KF} (h_X8_learnRows : k_snd l D cI cS cM yX8_learnRows cX8_learnRows 1 none 7 1 F_X8_learnRows) (h_X8_isBelow : k_snd l D cI cS cM yX8_isBelow cX8_isBelow 2 (some .boolean) 1 2 F_X8_isBelow) (h_X8_refused : k_snd l D cI cS cM yX8_refused cX8_refused 3 (some .int) 2 2 F_X8_refused) (h_X3_mirrorSign : k_snd l D cI cS cM yX3_mirrorSign cX3_mirrorSign 4 (some .int) 3 2 F_X3_mirrorSign) : KS l D cI cS cM yX8_mirror.cls yX8_mirror.name cX8_mirror 2 (some .int) (k_rm 8 0 0) false 25 0 (b_X8_mirror_25 F_X8_learnRows F_X8_isBelow F_X8_refused F_X3_mirrorSign) :=
  s_aload_n dX8_mirror_25 rfl <|
  s_get dX8_mirror_26 (ci := 8) (sl := 4) (Cn := RX8) (Tf := TX8) (N := 8) rfl (by decide) kiX8 kw_2_4 <|
  s_iload_n dX8_mirror_29 rfl <|
  s_callV1 dX8_mirror_30 kw_32_1 kw_32_2 kw_32_3 (ci := 3) rfl ok_X3_mirrorSign (by decide) (by decide) h_X3_mirrorSign (by decide) <|
  s_ireturn dX8_mirror_33 rfl
noncomputable def b_X8_mirror_18 (F_X8_learnRows F_X8_isBelow F_X8_refused F_X3_mirrorSign : KF) : KC := o_aload 0 <| o_push 4294967294 <| o_cV1 2 8 F_X8_refused <| o_iret
set_option maxRecDepth 100000 in
theorem s_X8_mirror_18 {l : Launch} {D : va_G} {cI cS cM : ClassId} {F_X8_learnRows F_X8_isBelow F_X8_refused F_X3_mirrorSign : KF} (h_X8_learnRows : k_snd l D cI cS cM yX8_learnRows cX8_learnRows 1 none 7 1 F_X8_learnRows) (h_X8_isBelow : k_snd l D cI cS cM yX8_isBelow cX8_isBelow 2 (some .boolean) 1 2 F_X8_isBelow) (h_X8_refused : k_snd l D cI cS cM yX8_refused cX8_refused 3 (some .int) 2 2 F_X8_refused) (h_X3_mirrorSign : k_snd l D cI cS cM yX3_mirrorSign cX3_mirrorSign 4 (some .int) 3 2 F_X3_mirrorSign) : KS l D cI cS cM yX8_mirror.cls yX8_mirror.name cX8_mirror 2 (some .int) (k_rm 8 0 0) false 18 0 (b_X8_mirror_18 F_X8_learnRows F_X8_isBelow F_X8_refused F_X3_mirrorSign) :=
  s_aload_n dX8_mirror_18 rfl <|
  s_push2 dX8_mirror_19 (by decide) (by decide) <|
  s_callV1 dX8_mirror_21 kw_8_9 kw_8_10 kw_8_11 (ci := 8) rfl ok_X8_refused (by decide) (by decide) h_X8_refused (by decide) <|
  s_ireturn dX8_mirror_24 rfl
noncomputable def b_X8_mirror_0 (F_X8_learnRows F_X8_isBelow F_X8_refused F_X3_mirrorSign : KF) : KC := o_aload 0 <| o_cV0 1 8 F_X8_learnRows <| o_iload 1 <| o_aload 0 <| o_get 8 4 <| o_get 3 2 <| o_cS1 2 F_X8_isBelow <| o_c1 g_eq (b_X8_mirror_18 F_X8_learnRows F_X8_isBelow F_X8_refused F_X3_mirrorSign) (b_X8_mirror_25 F_X8_learnRows F_X8_isBelow F_X8_refused F_X3_mirrorSign)
set_option maxRecDepth 100000 in
theorem s_X8_mirror_0 {l : Launch} {D : va_G} {cI cS cM : ClassId} {F_X8_learnRows F_X8_isBelow F_X8_refused F_X3_mirrorSign : KF} (h_X8_learnRows : k_snd l D cI cS cM yX8_learnRows cX8_learnRows 1 none 7 1 F_X8_learnRows) (h_X8_isBelow : k_snd l D cI cS cM yX8_isBelow cX8_isBelow 2 (some .boolean) 1 2 F_X8_isBelow) (h_X8_refused : k_snd l D cI cS cM yX8_refused cX8_refused 3 (some .int) 2 2 F_X8_refused) (h_X3_mirrorSign : k_snd l D cI cS cM yX3_mirrorSign cX3_mirrorSign 4 (some .int) 3 2 F_X3_mirrorSign) : KS l D cI cS cM yX8_mirror.cls yX8_mirror.name cX8_mirror 2 (some .int) (k_rm 8 0 0) false 0 0 (b_X8_mirror_0 F_X8_learnRows F_X8_isBelow F_X8_refused F_X3_mirrorSign) :=
  s_aload_n dX8_mirror_0 rfl <|
  s_callV0 dX8_mirror_1 kw_12_10 kw_12_11 kw_12_12 (ci := 8) rfl ok_X8_learnRows (by decide) (by decide) h_X8_learnRows (by decide) <|
  s_iload_n dX8_mirror_4 rfl <|
  s_aload_n dX8_mirror_5 rfl <|
  s_get dX8_mirror_6 (ci := 8) (sl := 4) (Cn := RX8) (Tf := TX8) (N := 8) rfl (by decide) kiX8 kw_2_4 <|
  s_get dX8_mirror_9 (ci := 3) (sl := 2) (Cn := RX3) (Tf := TX3) (N := 8) rfl (by decide) kiX3 kw_30_1 <|
  s_callS1 dX8_mirror_12 kw_8_13 kw_8_14 ok_X8_isBelow (by decide) (by decide) h_X8_isBelow (by decide) <|
  s_if_ne dX8_mirror_15 (by decide) (s_X8_mirror_25 h_X8_learnRows h_X8_isBelow h_X8_refused h_X3_mirrorSign) (s_X8_mirror_18 h_X8_learnRows h_X8_isBelow h_X8_refused h_X3_mirrorSign)
noncomputable def m_X8_mirror (F_X8_learnRows F_X8_isBelow F_X8_refused F_X3_mirrorSign : KF) : KF := k_fun [] (b_X8_mirror_0 F_X8_learnRows F_X8_isBelow F_X8_refused F_X3_mirrorSign)
theorem r_X8_mirror {l : Launch} {D : va_G} {cI cS cM : ClassId} {F_X8_learnRows F_X8_isBelow F_X8_refused F_X3_mirrorSign : KF} (h_X8_learnRows : k_snd l D cI cS cM yX8_learnRows cX8_learnRows 1 none 7 1 F_X8_learnRows) (h_X8_isBelow : k_snd l D cI cS cM yX8_isBelow cX8_isBelow 2 (some .boolean) 1 2 F_X8_isBelow) (h_X8_refused : k_snd l D cI cS cM yX8_refused cX8_refused 3 (some .int) 2 2 F_X8_refused) (h_X3_mirrorSign : k_snd l D cI cS cM yX3_mirrorSign cX3_mirrorSign 4 (some .int) 3 2 F_X3_mirrorSign) : k_snd l D cI cS cM yX8_mirror cX8_mirror 2 (some .int) 8 2 (m_X8_mirror F_X8_learnRows F_X8_isBelow F_X8_refused F_X3_mirrorSign) :=
  k_method (by decide +kernel) (by simp) rfl (s_X8_mirror_0 h_X8_learnRows h_X8_isBelow h_X8_refused h_X3_mirrorSign)
noncomputable def b_X8_natural_25 (F_X8_learnRows F_X8_isBelow F_X8_refused F_X3_meet : KF) : KC := o_aload 0 <| o_get 8 4 <| o_aload 0 <| o_get 8 4 <| o_get 3 0 <| o_get 6 8 <| o_aload 0 <| o_get 8 4 <| o_get 3 5 <| o_iload 1 <| o_aald <| o_cV1 3 3 F_X3_meet <| o_iret
set_option maxRecDepth 100000 in
theorem s_X8_natural_25 {l : Launch} {D : va_G} {cI cS cM : ClassId} {F_X8_learnRows F_X8_isBelow F_X8_refused F_X3_meet : KF} (h_X8_learnRows : k_snd l D cI cS cM yX8_learnRows cX8_learnRows 1 none 7 1 F_X8_learnRows) (h_X8_isBelow : k_snd l D cI cS cM yX8_isBelow cX8_isBelow 2 (some .boolean) 1 2 F_X8_isBelow) (h_X8_refused : k_snd l D cI cS cM yX8_refused cX8_refused 3 (some .int) 2 2 F_X8_refused) (h_X3_meet : k_snd l D cI cS cM yX3_meet cX3_meet 5 (some .int) 3 3 F_X3_meet) : KS l D cI cS cM yX8_natural.cls yX8_natural.name cX8_natural 2 (some .int) (k_rm 8 0 0) false 25 0 (b_X8_natural_25 F_X8_learnRows F_X8_isBelow F_X8_refused F_X3_meet) :=
  s_aload_n dX8_natural_25 rfl <|
  s_get dX8_natural_26 (ci := 8) (sl := 4) (Cn := RX8) (Tf := TX8) (N := 8) rfl (by decide) kiX8 kw_2_4 <|
  s_aload_n dX8_natural_29 rfl <|
  s_get dX8_natural_30 (ci := 8) (sl := 4) (Cn := RX8) (Tf := TX8) (N := 8) rfl (by decide) kiX8 kw_2_4 <|
  s_get dX8_natural_33 (ci := 3) (sl := 0) (Cn := RX3) (Tf := TX3) (N := 8) rfl (by decide) kiX3 kw_12_18 <|
  s_get dX8_natural_36 (ci := 6) (sl := 8) (Cn := RX6) (Tf := TX6) (N := 11) rfl (by decide) kiX6 kw_28_14 <|
  s_aload_n dX8_natural_39 rfl <|
  s_get dX8_natural_40 (ci := 8) (sl := 4) (Cn := RX8) (Tf := TX8) (N := 8) rfl (by decide) kiX8 kw_2_4 <|
  s_get dX8_natural_43 (ci := 3) (sl := 5) (Cn := RX3) (Tf := TX3) (N := 8) rfl (by decide) kiX3 kw_30_11 <|
  s_iload_n dX8_natural_46 rfl <|
  s_aald dX8_natural_47 <|
  s_callV1 dX8_natural_48 kw_33_11 kw_33_12 kw_33_13 (ci := 3) rfl ok_X3_meet (by decide) (by decide) h_X3_meet (by decide) <|
  s_ireturn dX8_natural_51 rfl
noncomputable def b_X8_natural_18 (F_X8_learnRows F_X8_isBelow F_X8_refused F_X3_meet : KF) : KC := o_aload 0 <| o_push 4294967294 <| o_cV1 2 8 F_X8_refused <| o_iret
set_option maxRecDepth 100000 in
theorem s_X8_natural_18 {l : Launch} {D : va_G} {cI cS cM : ClassId} {F_X8_learnRows F_X8_isBelow F_X8_refused F_X3_meet : KF} (h_X8_learnRows : k_snd l D cI cS cM yX8_learnRows cX8_learnRows 1 none 7 1 F_X8_learnRows) (h_X8_isBelow : k_snd l D cI cS cM yX8_isBelow cX8_isBelow 2 (some .boolean) 1 2 F_X8_isBelow) (h_X8_refused : k_snd l D cI cS cM yX8_refused cX8_refused 3 (some .int) 2 2 F_X8_refused) (h_X3_meet : k_snd l D cI cS cM yX3_meet cX3_meet 5 (some .int) 3 3 F_X3_meet) : KS l D cI cS cM yX8_natural.cls yX8_natural.name cX8_natural 2 (some .int) (k_rm 8 0 0) false 18 0 (b_X8_natural_18 F_X8_learnRows F_X8_isBelow F_X8_refused F_X3_meet) :=
  s_aload_n dX8_natural_18 rfl <|
  s_push2 dX8_natural_19 (by decide) (by decide) <|
  s_callV1 dX8_natural_21 kw_8_9 kw_8_10 kw_8_11 (ci := 8) rfl ok_X8_refused (by decide) (by decide) h_X8_refused (by decide) <|
  s_ireturn dX8_natural_24 rfl
noncomputable def b_X8_natural_0 (F_X8_learnRows F_X8_isBelow F_X8_refused F_X3_meet : KF) : KC := o_aload 0 <| o_cV0 1 8 F_X8_learnRows <| o_iload 1 <| o_aload 0 <| o_get 8 4 <| o_get 3 2 <| o_cS1 2 F_X8_isBelow <| o_c1 g_eq (b_X8_natural_18 F_X8_learnRows F_X8_isBelow F_X8_refused F_X3_meet) (b_X8_natural_25 F_X8_learnRows F_X8_isBelow F_X8_refused F_X3_meet)
set_option maxRecDepth 100000 in
theorem s_X8_natural_0 {l : Launch} {D : va_G} {cI cS cM : ClassId} {F_X8_learnRows F_X8_isBelow F_X8_refused F_X3_meet : KF} (h_X8_learnRows : k_snd l D cI cS cM yX8_learnRows cX8_learnRows 1 none 7 1 F_X8_learnRows) (h_X8_isBelow : k_snd l D cI cS cM yX8_isBelow cX8_isBelow 2 (some .boolean) 1 2 F_X8_isBelow) (h_X8_refused : k_snd l D cI cS cM yX8_refused cX8_refused 3 (some .int) 2 2 F_X8_refused) (h_X3_meet : k_snd l D cI cS cM yX3_meet cX3_meet 5 (some .int) 3 3 F_X3_meet) : KS l D cI cS cM yX8_natural.cls yX8_natural.name cX8_natural 2 (some .int) (k_rm 8 0 0) false 0 0 (b_X8_natural_0 F_X8_learnRows F_X8_isBelow F_X8_refused F_X3_meet) :=
  s_aload_n dX8_natural_0 rfl <|
  s_callV0 dX8_natural_1 kw_12_10 kw_12_11 kw_12_12 (ci := 8) rfl ok_X8_learnRows (by decide) (by decide) h_X8_learnRows (by decide) <|
  s_iload_n dX8_natural_4 rfl <|
  s_aload_n dX8_natural_5 rfl <|
  s_get dX8_natural_6 (ci := 8) (sl := 4) (Cn := RX8) (Tf := TX8) (N := 8) rfl (by decide) kiX8 kw_2_4 <|
  s_get dX8_natural_9 (ci := 3) (sl := 2) (Cn := RX3) (Tf := TX3) (N := 8) rfl (by decide) kiX3 kw_30_1 <|
  s_callS1 dX8_natural_12 kw_8_13 kw_8_14 ok_X8_isBelow (by decide) (by decide) h_X8_isBelow (by decide) <|
  s_if_ne dX8_natural_15 (by decide) (s_X8_natural_25 h_X8_learnRows h_X8_isBelow h_X8_refused h_X3_meet) (s_X8_natural_18 h_X8_learnRows h_X8_isBelow h_X8_refused h_X3_meet)
noncomputable def m_X8_natural (F_X8_learnRows F_X8_isBelow F_X8_refused F_X3_meet : KF) : KF := k_fun [] (b_X8_natural_0 F_X8_learnRows F_X8_isBelow F_X8_refused F_X3_meet)
theorem r_X8_natural {l : Launch} {D : va_G} {cI cS cM : ClassId} {F_X8_learnRows F_X8_isBelow F_X8_refused F_X3_meet : KF} (h_X8_learnRows : k_snd l D cI cS cM yX8_learnRows cX8_learnRows 1 none 7 1 F_X8_learnRows) (h_X8_isBelow : k_snd l D cI cS cM yX8_isBelow cX8_isBelow 2 (some .boolean) 1 2 F_X8_isBelow) (h_X8_refused : k_snd l D cI cS cM yX8_refused cX8_refused 3 (some .int) 2 2 F_X8_refused) (h_X3_meet : k_snd l D cI cS cM yX3_meet cX3_meet 5 (some .int) 3 3 F_X3_meet) : k_snd l D cI cS cM yX8_natural cX8_natural 2 (some .int) 8 2 (m_X8_natural F_X8_learnRows F_X8_isBelow F_X8_refused F_X3_meet) :=
  k_method (by decide +kernel) (by simp) rfl (s_X8_natural_0 h_X8_learnRows h_X8_isBelow h_X8_refused h_X3_meet)
noncomputable def b_X8_of_33 (F_X8_isBelow F_X8_refused F_X8_learnRows F_X8_learnSorts F_X8_wholeAnswer : KF) : KC := o_aload 0 <| o_iload 1 <| o_cV1 2 8 F_X8_wholeAnswer <| o_iret
set_option maxRecDepth 100000 in
theorem s_X8_of_33 {l : Launch} {D : va_G} {cI cS cM : ClassId} {F_X8_isBelow F_X8_refused F_X8_learnRows F_X8_learnSorts F_X8_wholeAnswer : KF} (h_X8_isBelow : k_snd l D cI cS cM yX8_isBelow cX8_isBelow 2 (some .boolean) 1 2 F_X8_isBelow) (h_X8_refused : k_snd l D cI cS cM yX8_refused cX8_refused 3 (some .int) 2 2 F_X8_refused) (h_X8_learnRows : k_snd l D cI cS cM yX8_learnRows cX8_learnRows 1 none 7 1 F_X8_learnRows) (h_X8_learnSorts : k_snd l D cI cS cM yX8_learnSorts cX8_learnSorts 1 none 6 1 F_X8_learnSorts) (h_X8_wholeAnswer : k_snd l D cI cS cM yX8_wholeAnswer cX8_wholeAnswer 2 (some .int) 2 2 F_X8_wholeAnswer) : KS l D cI cS cM yX8_of.cls yX8_of.name cX8_of 2 (some .int) (k_rm 8 0 0) false 33 0 (b_X8_of_33 F_X8_isBelow F_X8_refused F_X8_learnRows F_X8_learnSorts F_X8_wholeAnswer) :=
  s_aload_n dX8_of_33 rfl <|
  s_iload_n dX8_of_34 rfl <|
  s_callV1 dX8_of_35 kw_21_13 kw_21_14 kw_21_15 (ci := 8) rfl ok_X8_wholeAnswer (by decide) (by decide) h_X8_wholeAnswer (by decide) <|
  s_ireturn dX8_of_38 rfl
noncomputable def b_X8_of_29 (F_X8_isBelow F_X8_refused F_X8_learnRows F_X8_learnSorts F_X8_wholeAnswer : KF) : KC := o_aload 0 <| o_cV0 1 8 F_X8_learnSorts <| b_X8_of_33 F_X8_isBelow F_X8_refused F_X8_learnRows F_X8_learnSorts F_X8_wholeAnswer
set_option maxRecDepth 100000 in
theorem s_X8_of_29 {l : Launch} {D : va_G} {cI cS cM : ClassId} {F_X8_isBelow F_X8_refused F_X8_learnRows F_X8_learnSorts F_X8_wholeAnswer : KF} (h_X8_isBelow : k_snd l D cI cS cM yX8_isBelow cX8_isBelow 2 (some .boolean) 1 2 F_X8_isBelow) (h_X8_refused : k_snd l D cI cS cM yX8_refused cX8_refused 3 (some .int) 2 2 F_X8_refused) (h_X8_learnRows : k_snd l D cI cS cM yX8_learnRows cX8_learnRows 1 none 7 1 F_X8_learnRows) (h_X8_learnSorts : k_snd l D cI cS cM yX8_learnSorts cX8_learnSorts 1 none 6 1 F_X8_learnSorts) (h_X8_wholeAnswer : k_snd l D cI cS cM yX8_wholeAnswer cX8_wholeAnswer 2 (some .int) 2 2 F_X8_wholeAnswer) : KS l D cI cS cM yX8_of.cls yX8_of.name cX8_of 2 (some .int) (k_rm 8 0 0) false 29 0 (b_X8_of_29 F_X8_isBelow F_X8_refused F_X8_learnRows F_X8_learnSorts F_X8_wholeAnswer) :=
  s_aload_n dX8_of_29 rfl <|
  s_callV0 dX8_of_30 kw_12_14 kw_12_15 kw_12_16 (ci := 8) rfl ok_X8_learnSorts (by decide) (by decide) h_X8_learnSorts (by decide) <|
  s_X8_of_33 h_X8_isBelow h_X8_refused h_X8_learnRows h_X8_learnSorts h_X8_wholeAnswer
noncomputable def b_X8_of_22 (F_X8_isBelow F_X8_refused F_X8_learnRows F_X8_learnSorts F_X8_wholeAnswer : KF) : KC := o_aload 0 <| o_cV0 1 8 F_X8_learnRows <| b_X8_of_33 F_X8_isBelow F_X8_refused F_X8_learnRows F_X8_learnSorts F_X8_wholeAnswer
set_option maxRecDepth 100000 in
theorem s_X8_of_22 {l : Launch} {D : va_G} {cI cS cM : ClassId} {F_X8_isBelow F_X8_refused F_X8_learnRows F_X8_learnSorts F_X8_wholeAnswer : KF} (h_X8_isBelow : k_snd l D cI cS cM yX8_isBelow cX8_isBelow 2 (some .boolean) 1 2 F_X8_isBelow) (h_X8_refused : k_snd l D cI cS cM yX8_refused cX8_refused 3 (some .int) 2 2 F_X8_refused) (h_X8_learnRows : k_snd l D cI cS cM yX8_learnRows cX8_learnRows 1 none 7 1 F_X8_learnRows) (h_X8_learnSorts : k_snd l D cI cS cM yX8_learnSorts cX8_learnSorts 1 none 6 1 F_X8_learnSorts) (h_X8_wholeAnswer : k_snd l D cI cS cM yX8_wholeAnswer cX8_wholeAnswer 2 (some .int) 2 2 F_X8_wholeAnswer) : KS l D cI cS cM yX8_of.cls yX8_of.name cX8_of 2 (some .int) (k_rm 8 0 0) false 22 0 (b_X8_of_22 F_X8_isBelow F_X8_refused F_X8_learnRows F_X8_learnSorts F_X8_wholeAnswer) :=
  s_aload_n dX8_of_22 rfl <|
  s_callV0 dX8_of_23 kw_12_10 kw_12_11 kw_12_12 (ci := 8) rfl ok_X8_learnRows (by decide) (by decide) h_X8_learnRows (by decide) <|
  s_goto dX8_of_26 (by decide) (s_X8_of_33 h_X8_isBelow h_X8_refused h_X8_learnRows h_X8_learnSorts h_X8_wholeAnswer)
noncomputable def b_X8_of_16 (F_X8_isBelow F_X8_refused F_X8_learnRows F_X8_learnSorts F_X8_wholeAnswer : KF) : KC := o_iload 1 <| o_push 7 <| o_c2 Nat.beq (b_X8_of_22 F_X8_isBelow F_X8_refused F_X8_learnRows F_X8_learnSorts F_X8_wholeAnswer) (b_X8_of_29 F_X8_isBelow F_X8_refused F_X8_learnRows F_X8_learnSorts F_X8_wholeAnswer)
set_option maxRecDepth 100000 in
theorem s_X8_of_16 {l : Launch} {D : va_G} {cI cS cM : ClassId} {F_X8_isBelow F_X8_refused F_X8_learnRows F_X8_learnSorts F_X8_wholeAnswer : KF} (h_X8_isBelow : k_snd l D cI cS cM yX8_isBelow cX8_isBelow 2 (some .boolean) 1 2 F_X8_isBelow) (h_X8_refused : k_snd l D cI cS cM yX8_refused cX8_refused 3 (some .int) 2 2 F_X8_refused) (h_X8_learnRows : k_snd l D cI cS cM yX8_learnRows cX8_learnRows 1 none 7 1 F_X8_learnRows) (h_X8_learnSorts : k_snd l D cI cS cM yX8_learnSorts cX8_learnSorts 1 none 6 1 F_X8_learnSorts) (h_X8_wholeAnswer : k_snd l D cI cS cM yX8_wholeAnswer cX8_wholeAnswer 2 (some .int) 2 2 F_X8_wholeAnswer) : KS l D cI cS cM yX8_of.cls yX8_of.name cX8_of 2 (some .int) (k_rm 8 0 0) false 16 0 (b_X8_of_16 F_X8_isBelow F_X8_refused F_X8_learnRows F_X8_learnSorts F_X8_wholeAnswer) :=
  s_iload_n dX8_of_16 rfl <|
  s_push2 dX8_of_17 (by decide) (by decide) <|
  s_icmp_ne dX8_of_19 (by decide) (s_X8_of_29 h_X8_isBelow h_X8_refused h_X8_learnRows h_X8_learnSorts h_X8_wholeAnswer) (s_X8_of_22 h_X8_isBelow h_X8_refused h_X8_learnRows h_X8_learnSorts h_X8_wholeAnswer)
noncomputable def b_X8_of_9 (F_X8_isBelow F_X8_refused F_X8_learnRows F_X8_learnSorts F_X8_wholeAnswer : KF) : KC := o_aload 0 <| o_push 4294967294 <| o_cV1 2 8 F_X8_refused <| o_iret
set_option maxRecDepth 100000 in
theorem s_X8_of_9 {l : Launch} {D : va_G} {cI cS cM : ClassId} {F_X8_isBelow F_X8_refused F_X8_learnRows F_X8_learnSorts F_X8_wholeAnswer : KF} (h_X8_isBelow : k_snd l D cI cS cM yX8_isBelow cX8_isBelow 2 (some .boolean) 1 2 F_X8_isBelow) (h_X8_refused : k_snd l D cI cS cM yX8_refused cX8_refused 3 (some .int) 2 2 F_X8_refused) (h_X8_learnRows : k_snd l D cI cS cM yX8_learnRows cX8_learnRows 1 none 7 1 F_X8_learnRows) (h_X8_learnSorts : k_snd l D cI cS cM yX8_learnSorts cX8_learnSorts 1 none 6 1 F_X8_learnSorts) (h_X8_wholeAnswer : k_snd l D cI cS cM yX8_wholeAnswer cX8_wholeAnswer 2 (some .int) 2 2 F_X8_wholeAnswer) : KS l D cI cS cM yX8_of.cls yX8_of.name cX8_of 2 (some .int) (k_rm 8 0 0) false 9 0 (b_X8_of_9 F_X8_isBelow F_X8_refused F_X8_learnRows F_X8_learnSorts F_X8_wholeAnswer) :=
  s_aload_n dX8_of_9 rfl <|
  s_push2 dX8_of_10 (by decide) (by decide) <|
  s_callV1 dX8_of_12 kw_8_9 kw_8_10 kw_8_11 (ci := 8) rfl ok_X8_refused (by decide) (by decide) h_X8_refused (by decide) <|
  s_ireturn dX8_of_15 rfl
noncomputable def b_X8_of_0 (F_X8_isBelow F_X8_refused F_X8_learnRows F_X8_learnSorts F_X8_wholeAnswer : KF) : KC := o_iload 1 <| o_push 8 <| o_cS1 2 F_X8_isBelow <| o_c1 g_eq (b_X8_of_9 F_X8_isBelow F_X8_refused F_X8_learnRows F_X8_learnSorts F_X8_wholeAnswer) (b_X8_of_16 F_X8_isBelow F_X8_refused F_X8_learnRows F_X8_learnSorts F_X8_wholeAnswer)
set_option maxRecDepth 100000 in
theorem s_X8_of_0 {l : Launch} {D : va_G} {cI cS cM : ClassId} {F_X8_isBelow F_X8_refused F_X8_learnRows F_X8_learnSorts F_X8_wholeAnswer : KF} (h_X8_isBelow : k_snd l D cI cS cM yX8_isBelow cX8_isBelow 2 (some .boolean) 1 2 F_X8_isBelow) (h_X8_refused : k_snd l D cI cS cM yX8_refused cX8_refused 3 (some .int) 2 2 F_X8_refused) (h_X8_learnRows : k_snd l D cI cS cM yX8_learnRows cX8_learnRows 1 none 7 1 F_X8_learnRows) (h_X8_learnSorts : k_snd l D cI cS cM yX8_learnSorts cX8_learnSorts 1 none 6 1 F_X8_learnSorts) (h_X8_wholeAnswer : k_snd l D cI cS cM yX8_wholeAnswer cX8_wholeAnswer 2 (some .int) 2 2 F_X8_wholeAnswer) : KS l D cI cS cM yX8_of.cls yX8_of.name cX8_of 2 (some .int) (k_rm 8 0 0) false 0 0 (b_X8_of_0 F_X8_isBelow F_X8_refused F_X8_learnRows F_X8_learnSorts F_X8_wholeAnswer) :=
  s_iload_n dX8_of_0 rfl <|
  s_push2 dX8_of_1 (by decide) (by decide) <|
  s_callS1 dX8_of_3 kw_8_13 kw_8_14 ok_X8_isBelow (by decide) (by decide) h_X8_isBelow (by decide) <|
  s_if_ne dX8_of_6 (by decide) (s_X8_of_16 h_X8_isBelow h_X8_refused h_X8_learnRows h_X8_learnSorts h_X8_wholeAnswer) (s_X8_of_9 h_X8_isBelow h_X8_refused h_X8_learnRows h_X8_learnSorts h_X8_wholeAnswer)
noncomputable def m_X8_of (F_X8_isBelow F_X8_refused F_X8_learnRows F_X8_learnSorts F_X8_wholeAnswer : KF) : KF := k_fun [] (b_X8_of_0 F_X8_isBelow F_X8_refused F_X8_learnRows F_X8_learnSorts F_X8_wholeAnswer)
theorem r_X8_of {l : Launch} {D : va_G} {cI cS cM : ClassId} {F_X8_isBelow F_X8_refused F_X8_learnRows F_X8_learnSorts F_X8_wholeAnswer : KF} (h_X8_isBelow : k_snd l D cI cS cM yX8_isBelow cX8_isBelow 2 (some .boolean) 1 2 F_X8_isBelow) (h_X8_refused : k_snd l D cI cS cM yX8_refused cX8_refused 3 (some .int) 2 2 F_X8_refused) (h_X8_learnRows : k_snd l D cI cS cM yX8_learnRows cX8_learnRows 1 none 7 1 F_X8_learnRows) (h_X8_learnSorts : k_snd l D cI cS cM yX8_learnSorts cX8_learnSorts 1 none 6 1 F_X8_learnSorts) (h_X8_wholeAnswer : k_snd l D cI cS cM yX8_wholeAnswer cX8_wholeAnswer 2 (some .int) 2 2 F_X8_wholeAnswer) : k_snd l D cI cS cM yX8_of cX8_of 2 (some .int) 8 2 (m_X8_of F_X8_isBelow F_X8_refused F_X8_learnRows F_X8_learnSorts F_X8_wholeAnswer) :=
  k_method (by decide +kernel) (by simp) rfl (s_X8_of_0 h_X8_isBelow h_X8_refused h_X8_learnRows h_X8_learnSorts h_X8_wholeAnswer)
noncomputable def b_X8_part_65 (F_X8_learnRows F_X8_isBelow F_X8_refused F_X3_rootCount : KF) : KC := o_aload 0 <| o_get 8 4 <| o_iload 1 <| o_iload 2 <| o_iload 3 <| o_cV1 4 3 F_X3_rootCount <| o_iret
set_option maxRecDepth 100000 in
theorem s_X8_part_65 {l : Launch} {D : va_G} {cI cS cM : ClassId} {F_X8_learnRows F_X8_isBelow F_X8_refused F_X3_rootCount : KF} (h_X8_learnRows : k_snd l D cI cS cM yX8_learnRows cX8_learnRows 1 none 7 1 F_X8_learnRows) (h_X8_isBelow : k_snd l D cI cS cM yX8_isBelow cX8_isBelow 2 (some .boolean) 1 2 F_X8_isBelow) (h_X8_refused : k_snd l D cI cS cM yX8_refused cX8_refused 3 (some .int) 2 2 F_X8_refused) (h_X3_rootCount : k_snd l D cI cS cM yX3_rootCount cX3_rootCount 9 (some .int) 3 4 F_X3_rootCount) : KS l D cI cS cM yX8_part.cls yX8_part.name cX8_part 4 (some .int) (k_rm 8 0 0) false 65 0 (b_X8_part_65 F_X8_learnRows F_X8_isBelow F_X8_refused F_X3_rootCount) :=
  s_aload_n dX8_part_65 rfl <|
  s_get dX8_part_66 (ci := 8) (sl := 4) (Cn := RX8) (Tf := TX8) (N := 8) rfl (by decide) kiX8 kw_2_4 <|
  s_iload_n dX8_part_69 rfl <|
  s_iload_n dX8_part_70 rfl <|
  s_iload_n dX8_part_71 rfl <|
  s_callV1 dX8_part_72 kw_31_5 kw_31_6 kw_31_7 (ci := 3) rfl ok_X3_rootCount (by decide) (by decide) h_X3_rootCount (by decide) <|
  s_ireturn dX8_part_75 rfl
noncomputable def b_X8_part_58 (F_X8_learnRows F_X8_isBelow F_X8_refused F_X3_rootCount : KF) : KC := o_aload 0 <| o_push 4294967294 <| o_cV1 2 8 F_X8_refused <| o_iret
set_option maxRecDepth 100000 in
theorem s_X8_part_58 {l : Launch} {D : va_G} {cI cS cM : ClassId} {F_X8_learnRows F_X8_isBelow F_X8_refused F_X3_rootCount : KF} (h_X8_learnRows : k_snd l D cI cS cM yX8_learnRows cX8_learnRows 1 none 7 1 F_X8_learnRows) (h_X8_isBelow : k_snd l D cI cS cM yX8_isBelow cX8_isBelow 2 (some .boolean) 1 2 F_X8_isBelow) (h_X8_refused : k_snd l D cI cS cM yX8_refused cX8_refused 3 (some .int) 2 2 F_X8_refused) (h_X3_rootCount : k_snd l D cI cS cM yX3_rootCount cX3_rootCount 9 (some .int) 3 4 F_X3_rootCount) : KS l D cI cS cM yX8_part.cls yX8_part.name cX8_part 4 (some .int) (k_rm 8 0 0) false 58 0 (b_X8_part_58 F_X8_learnRows F_X8_isBelow F_X8_refused F_X3_rootCount) :=
  s_aload_n dX8_part_58 rfl <|
  s_push2 dX8_part_59 (by decide) (by decide) <|
  s_callV1 dX8_part_61 kw_8_9 kw_8_10 kw_8_11 (ci := 8) rfl ok_X8_refused (by decide) (by decide) h_X8_refused (by decide) <|
  s_ireturn dX8_part_64 rfl
noncomputable def b_X8_part_39 (F_X8_learnRows F_X8_isBelow F_X8_refused F_X3_rootCount : KF) : KC := o_iload 3 <| o_aload 0 <| o_get 8 4 <| o_get 3 0 <| o_get 6 5 <| o_iload 2 <| o_iald <| o_cS1 2 F_X8_isBelow <| o_c1 g_eq (b_X8_part_58 F_X8_learnRows F_X8_isBelow F_X8_refused F_X3_rootCount) (b_X8_part_65 F_X8_learnRows F_X8_isBelow F_X8_refused F_X3_rootCount)
set_option maxRecDepth 100000 in
theorem s_X8_part_39 {l : Launch} {D : va_G} {cI cS cM : ClassId} {F_X8_learnRows F_X8_isBelow F_X8_refused F_X3_rootCount : KF} (h_X8_learnRows : k_snd l D cI cS cM yX8_learnRows cX8_learnRows 1 none 7 1 F_X8_learnRows) (h_X8_isBelow : k_snd l D cI cS cM yX8_isBelow cX8_isBelow 2 (some .boolean) 1 2 F_X8_isBelow) (h_X8_refused : k_snd l D cI cS cM yX8_refused cX8_refused 3 (some .int) 2 2 F_X8_refused) (h_X3_rootCount : k_snd l D cI cS cM yX3_rootCount cX3_rootCount 9 (some .int) 3 4 F_X3_rootCount) : KS l D cI cS cM yX8_part.cls yX8_part.name cX8_part 4 (some .int) (k_rm 8 0 0) false 39 0 (b_X8_part_39 F_X8_learnRows F_X8_isBelow F_X8_refused F_X3_rootCount) :=
  s_iload_n dX8_part_39 rfl <|
  s_aload_n dX8_part_40 rfl <|
  s_get dX8_part_41 (ci := 8) (sl := 4) (Cn := RX8) (Tf := TX8) (N := 8) rfl (by decide) kiX8 kw_2_4 <|
  s_get dX8_part_44 (ci := 3) (sl := 0) (Cn := RX3) (Tf := TX3) (N := 8) rfl (by decide) kiX3 kw_12_18 <|
  s_get dX8_part_47 (ci := 6) (sl := 5) (Cn := RX6) (Tf := TX6) (N := 11) rfl (by decide) kiX6 kw_27_9 <|
  s_iload_n dX8_part_50 rfl <|
  s_iald dX8_part_51 <|
  s_callS1 dX8_part_52 kw_8_13 kw_8_14 ok_X8_isBelow (by decide) (by decide) h_X8_isBelow (by decide) <|
  s_if_ne dX8_part_55 (by decide) (s_X8_part_65 h_X8_learnRows h_X8_isBelow h_X8_refused h_X3_rootCount) (s_X8_part_58 h_X8_learnRows h_X8_isBelow h_X8_refused h_X3_rootCount)
noncomputable def b_X8_part_32 (F_X8_learnRows F_X8_isBelow F_X8_refused F_X3_rootCount : KF) : KC := o_aload 0 <| o_push 4294967294 <| o_cV1 2 8 F_X8_refused <| o_iret
set_option maxRecDepth 100000 in
theorem s_X8_part_32 {l : Launch} {D : va_G} {cI cS cM : ClassId} {F_X8_learnRows F_X8_isBelow F_X8_refused F_X3_rootCount : KF} (h_X8_learnRows : k_snd l D cI cS cM yX8_learnRows cX8_learnRows 1 none 7 1 F_X8_learnRows) (h_X8_isBelow : k_snd l D cI cS cM yX8_isBelow cX8_isBelow 2 (some .boolean) 1 2 F_X8_isBelow) (h_X8_refused : k_snd l D cI cS cM yX8_refused cX8_refused 3 (some .int) 2 2 F_X8_refused) (h_X3_rootCount : k_snd l D cI cS cM yX3_rootCount cX3_rootCount 9 (some .int) 3 4 F_X3_rootCount) : KS l D cI cS cM yX8_part.cls yX8_part.name cX8_part 4 (some .int) (k_rm 8 0 0) false 32 0 (b_X8_part_32 F_X8_learnRows F_X8_isBelow F_X8_refused F_X3_rootCount) :=
  s_aload_n dX8_part_32 rfl <|
  s_push2 dX8_part_33 (by decide) (by decide) <|
  s_callV1 dX8_part_35 kw_8_9 kw_8_10 kw_8_11 (ci := 8) rfl ok_X8_refused (by decide) (by decide) h_X8_refused (by decide) <|
  s_ireturn dX8_part_38 rfl
noncomputable def b_X8_part_18 (F_X8_learnRows F_X8_isBelow F_X8_refused F_X3_rootCount : KF) : KC := o_iload 2 <| o_aload 0 <| o_get 8 4 <| o_get 3 2 <| o_cS1 2 F_X8_isBelow <| o_c1 g_eq (b_X8_part_32 F_X8_learnRows F_X8_isBelow F_X8_refused F_X3_rootCount) (b_X8_part_39 F_X8_learnRows F_X8_isBelow F_X8_refused F_X3_rootCount)
set_option maxRecDepth 100000 in
theorem s_X8_part_18 {l : Launch} {D : va_G} {cI cS cM : ClassId} {F_X8_learnRows F_X8_isBelow F_X8_refused F_X3_rootCount : KF} (h_X8_learnRows : k_snd l D cI cS cM yX8_learnRows cX8_learnRows 1 none 7 1 F_X8_learnRows) (h_X8_isBelow : k_snd l D cI cS cM yX8_isBelow cX8_isBelow 2 (some .boolean) 1 2 F_X8_isBelow) (h_X8_refused : k_snd l D cI cS cM yX8_refused cX8_refused 3 (some .int) 2 2 F_X8_refused) (h_X3_rootCount : k_snd l D cI cS cM yX3_rootCount cX3_rootCount 9 (some .int) 3 4 F_X3_rootCount) : KS l D cI cS cM yX8_part.cls yX8_part.name cX8_part 4 (some .int) (k_rm 8 0 0) false 18 0 (b_X8_part_18 F_X8_learnRows F_X8_isBelow F_X8_refused F_X3_rootCount) :=
  s_iload_n dX8_part_18 rfl <|
  s_aload_n dX8_part_19 rfl <|
  s_get dX8_part_20 (ci := 8) (sl := 4) (Cn := RX8) (Tf := TX8) (N := 8) rfl (by decide) kiX8 kw_2_4 <|
  s_get dX8_part_23 (ci := 3) (sl := 2) (Cn := RX3) (Tf := TX3) (N := 8) rfl (by decide) kiX3 kw_30_1 <|
  s_callS1 dX8_part_26 kw_8_13 kw_8_14 ok_X8_isBelow (by decide) (by decide) h_X8_isBelow (by decide) <|
  s_if_ne dX8_part_29 (by decide) (s_X8_part_39 h_X8_learnRows h_X8_isBelow h_X8_refused h_X3_rootCount) (s_X8_part_32 h_X8_learnRows h_X8_isBelow h_X8_refused h_X3_rootCount)
noncomputable def b_X8_part_0 (F_X8_learnRows F_X8_isBelow F_X8_refused F_X3_rootCount : KF) : KC := o_aload 0 <| o_cV0 1 8 F_X8_learnRows <| o_iload 1 <| o_aload 0 <| o_get 8 4 <| o_get 3 2 <| o_cS1 2 F_X8_isBelow <| o_c1 g_eq (b_X8_part_32 F_X8_learnRows F_X8_isBelow F_X8_refused F_X3_rootCount) (b_X8_part_18 F_X8_learnRows F_X8_isBelow F_X8_refused F_X3_rootCount)
set_option maxRecDepth 100000 in
theorem s_X8_part_0 {l : Launch} {D : va_G} {cI cS cM : ClassId} {F_X8_learnRows F_X8_isBelow F_X8_refused F_X3_rootCount : KF} (h_X8_learnRows : k_snd l D cI cS cM yX8_learnRows cX8_learnRows 1 none 7 1 F_X8_learnRows) (h_X8_isBelow : k_snd l D cI cS cM yX8_isBelow cX8_isBelow 2 (some .boolean) 1 2 F_X8_isBelow) (h_X8_refused : k_snd l D cI cS cM yX8_refused cX8_refused 3 (some .int) 2 2 F_X8_refused) (h_X3_rootCount : k_snd l D cI cS cM yX3_rootCount cX3_rootCount 9 (some .int) 3 4 F_X3_rootCount) : KS l D cI cS cM yX8_part.cls yX8_part.name cX8_part 4 (some .int) (k_rm 8 0 0) false 0 0 (b_X8_part_0 F_X8_learnRows F_X8_isBelow F_X8_refused F_X3_rootCount) :=
  s_aload_n dX8_part_0 rfl <|
  s_callV0 dX8_part_1 kw_12_10 kw_12_11 kw_12_12 (ci := 8) rfl ok_X8_learnRows (by decide) (by decide) h_X8_learnRows (by decide) <|
  s_iload_n dX8_part_4 rfl <|
  s_aload_n dX8_part_5 rfl <|
  s_get dX8_part_6 (ci := 8) (sl := 4) (Cn := RX8) (Tf := TX8) (N := 8) rfl (by decide) kiX8 kw_2_4 <|
  s_get dX8_part_9 (ci := 3) (sl := 2) (Cn := RX3) (Tf := TX3) (N := 8) rfl (by decide) kiX3 kw_30_1 <|
  s_callS1 dX8_part_12 kw_8_13 kw_8_14 ok_X8_isBelow (by decide) (by decide) h_X8_isBelow (by decide) <|
  s_if_eq dX8_part_15 (by decide) (s_X8_part_32 h_X8_learnRows h_X8_isBelow h_X8_refused h_X3_rootCount) (s_X8_part_18 h_X8_learnRows h_X8_isBelow h_X8_refused h_X3_rootCount)
noncomputable def m_X8_part (F_X8_learnRows F_X8_isBelow F_X8_refused F_X3_rootCount : KF) : KF := k_fun [] (b_X8_part_0 F_X8_learnRows F_X8_isBelow F_X8_refused F_X3_rootCount)
theorem r_X8_part {l : Launch} {D : va_G} {cI cS cM : ClassId} {F_X8_learnRows F_X8_isBelow F_X8_refused F_X3_rootCount : KF} (h_X8_learnRows : k_snd l D cI cS cM yX8_learnRows cX8_learnRows 1 none 7 1 F_X8_learnRows) (h_X8_isBelow : k_snd l D cI cS cM yX8_isBelow cX8_isBelow 2 (some .boolean) 1 2 F_X8_isBelow) (h_X8_refused : k_snd l D cI cS cM yX8_refused cX8_refused 3 (some .int) 2 2 F_X8_refused) (h_X3_rootCount : k_snd l D cI cS cM yX3_rootCount cX3_rootCount 9 (some .int) 3 4 F_X3_rootCount) : k_snd l D cI cS cM yX8_part cX8_part 4 (some .int) 8 4 (m_X8_part F_X8_learnRows F_X8_isBelow F_X8_refused F_X3_rootCount) :=
  k_method (by decide +kernel) (by simp) rfl (s_X8_part_0 h_X8_learnRows h_X8_isBelow h_X8_refused h_X3_rootCount)
noncomputable def b_X8_spread_39 (F_X8_learnRows F_X8_isBelow F_X8_refused : KF) : KC := o_aload 0 <| o_get 8 4 <| o_get 3 4 <| o_iload 1 <| o_aald <| o_iload 2 <| o_iald <| o_iret
set_option maxRecDepth 100000 in
theorem s_X8_spread_39 {l : Launch} {D : va_G} {cI cS cM : ClassId} {F_X8_learnRows F_X8_isBelow F_X8_refused : KF} (h_X8_learnRows : k_snd l D cI cS cM yX8_learnRows cX8_learnRows 1 none 7 1 F_X8_learnRows) (h_X8_isBelow : k_snd l D cI cS cM yX8_isBelow cX8_isBelow 2 (some .boolean) 1 2 F_X8_isBelow) (h_X8_refused : k_snd l D cI cS cM yX8_refused cX8_refused 3 (some .int) 2 2 F_X8_refused) : KS l D cI cS cM yX8_spread.cls yX8_spread.name cX8_spread 3 (some .int) (k_rm 8 0 0) false 39 0 (b_X8_spread_39 F_X8_learnRows F_X8_isBelow F_X8_refused) :=
  s_aload_n dX8_spread_39 rfl <|
  s_get dX8_spread_40 (ci := 8) (sl := 4) (Cn := RX8) (Tf := TX8) (N := 8) rfl (by decide) kiX8 kw_2_4 <|
  s_get dX8_spread_43 (ci := 3) (sl := 4) (Cn := RX3) (Tf := TX3) (N := 8) rfl (by decide) kiX3 kw_30_20 <|
  s_iload_n dX8_spread_46 rfl <|
  s_aald dX8_spread_47 <|
  s_iload_n dX8_spread_48 rfl <|
  s_iald dX8_spread_49 <|
  s_ireturn dX8_spread_50 rfl
noncomputable def b_X8_spread_32 (F_X8_learnRows F_X8_isBelow F_X8_refused : KF) : KC := o_aload 0 <| o_push 4294967294 <| o_cV1 2 8 F_X8_refused <| o_iret
set_option maxRecDepth 100000 in
theorem s_X8_spread_32 {l : Launch} {D : va_G} {cI cS cM : ClassId} {F_X8_learnRows F_X8_isBelow F_X8_refused : KF} (h_X8_learnRows : k_snd l D cI cS cM yX8_learnRows cX8_learnRows 1 none 7 1 F_X8_learnRows) (h_X8_isBelow : k_snd l D cI cS cM yX8_isBelow cX8_isBelow 2 (some .boolean) 1 2 F_X8_isBelow) (h_X8_refused : k_snd l D cI cS cM yX8_refused cX8_refused 3 (some .int) 2 2 F_X8_refused) : KS l D cI cS cM yX8_spread.cls yX8_spread.name cX8_spread 3 (some .int) (k_rm 8 0 0) false 32 0 (b_X8_spread_32 F_X8_learnRows F_X8_isBelow F_X8_refused) :=
  s_aload_n dX8_spread_32 rfl <|
  s_push2 dX8_spread_33 (by decide) (by decide) <|
  s_callV1 dX8_spread_35 kw_8_9 kw_8_10 kw_8_11 (ci := 8) rfl ok_X8_refused (by decide) (by decide) h_X8_refused (by decide) <|
  s_ireturn dX8_spread_38 rfl
noncomputable def b_X8_spread_18 (F_X8_learnRows F_X8_isBelow F_X8_refused : KF) : KC := o_iload 2 <| o_aload 0 <| o_get 8 4 <| o_get 3 2 <| o_cS1 2 F_X8_isBelow <| o_c1 g_eq (b_X8_spread_32 F_X8_learnRows F_X8_isBelow F_X8_refused) (b_X8_spread_39 F_X8_learnRows F_X8_isBelow F_X8_refused)
set_option maxRecDepth 100000 in
theorem s_X8_spread_18 {l : Launch} {D : va_G} {cI cS cM : ClassId} {F_X8_learnRows F_X8_isBelow F_X8_refused : KF} (h_X8_learnRows : k_snd l D cI cS cM yX8_learnRows cX8_learnRows 1 none 7 1 F_X8_learnRows) (h_X8_isBelow : k_snd l D cI cS cM yX8_isBelow cX8_isBelow 2 (some .boolean) 1 2 F_X8_isBelow) (h_X8_refused : k_snd l D cI cS cM yX8_refused cX8_refused 3 (some .int) 2 2 F_X8_refused) : KS l D cI cS cM yX8_spread.cls yX8_spread.name cX8_spread 3 (some .int) (k_rm 8 0 0) false 18 0 (b_X8_spread_18 F_X8_learnRows F_X8_isBelow F_X8_refused) :=
  s_iload_n dX8_spread_18 rfl <|
  s_aload_n dX8_spread_19 rfl <|
  s_get dX8_spread_20 (ci := 8) (sl := 4) (Cn := RX8) (Tf := TX8) (N := 8) rfl (by decide) kiX8 kw_2_4 <|
  s_get dX8_spread_23 (ci := 3) (sl := 2) (Cn := RX3) (Tf := TX3) (N := 8) rfl (by decide) kiX3 kw_30_1 <|
  s_callS1 dX8_spread_26 kw_8_13 kw_8_14 ok_X8_isBelow (by decide) (by decide) h_X8_isBelow (by decide) <|
  s_if_ne dX8_spread_29 (by decide) (s_X8_spread_39 h_X8_learnRows h_X8_isBelow h_X8_refused) (s_X8_spread_32 h_X8_learnRows h_X8_isBelow h_X8_refused)
noncomputable def b_X8_spread_0 (F_X8_learnRows F_X8_isBelow F_X8_refused : KF) : KC := o_aload 0 <| o_cV0 1 8 F_X8_learnRows <| o_iload 1 <| o_aload 0 <| o_get 8 4 <| o_get 3 2 <| o_cS1 2 F_X8_isBelow <| o_c1 g_eq (b_X8_spread_32 F_X8_learnRows F_X8_isBelow F_X8_refused) (b_X8_spread_18 F_X8_learnRows F_X8_isBelow F_X8_refused)
set_option maxRecDepth 100000 in
theorem s_X8_spread_0 {l : Launch} {D : va_G} {cI cS cM : ClassId} {F_X8_learnRows F_X8_isBelow F_X8_refused : KF} (h_X8_learnRows : k_snd l D cI cS cM yX8_learnRows cX8_learnRows 1 none 7 1 F_X8_learnRows) (h_X8_isBelow : k_snd l D cI cS cM yX8_isBelow cX8_isBelow 2 (some .boolean) 1 2 F_X8_isBelow) (h_X8_refused : k_snd l D cI cS cM yX8_refused cX8_refused 3 (some .int) 2 2 F_X8_refused) : KS l D cI cS cM yX8_spread.cls yX8_spread.name cX8_spread 3 (some .int) (k_rm 8 0 0) false 0 0 (b_X8_spread_0 F_X8_learnRows F_X8_isBelow F_X8_refused) :=
  s_aload_n dX8_spread_0 rfl <|
  s_callV0 dX8_spread_1 kw_12_10 kw_12_11 kw_12_12 (ci := 8) rfl ok_X8_learnRows (by decide) (by decide) h_X8_learnRows (by decide) <|
  s_iload_n dX8_spread_4 rfl <|
  s_aload_n dX8_spread_5 rfl <|
  s_get dX8_spread_6 (ci := 8) (sl := 4) (Cn := RX8) (Tf := TX8) (N := 8) rfl (by decide) kiX8 kw_2_4 <|
  s_get dX8_spread_9 (ci := 3) (sl := 2) (Cn := RX3) (Tf := TX3) (N := 8) rfl (by decide) kiX3 kw_30_1 <|
  s_callS1 dX8_spread_12 kw_8_13 kw_8_14 ok_X8_isBelow (by decide) (by decide) h_X8_isBelow (by decide) <|
  s_if_eq dX8_spread_15 (by decide) (s_X8_spread_32 h_X8_learnRows h_X8_isBelow h_X8_refused) (s_X8_spread_18 h_X8_learnRows h_X8_isBelow h_X8_refused)
noncomputable def m_X8_spread (F_X8_learnRows F_X8_isBelow F_X8_refused : KF) : KF := k_fun [] (b_X8_spread_0 F_X8_learnRows F_X8_isBelow F_X8_refused)
theorem r_X8_spread {l : Launch} {D : va_G} {cI cS cM : ClassId} {F_X8_learnRows F_X8_isBelow F_X8_refused : KF} (h_X8_learnRows : k_snd l D cI cS cM yX8_learnRows cX8_learnRows 1 none 7 1 F_X8_learnRows) (h_X8_isBelow : k_snd l D cI cS cM yX8_isBelow cX8_isBelow 2 (some .boolean) 1 2 F_X8_isBelow) (h_X8_refused : k_snd l D cI cS cM yX8_refused cX8_refused 3 (some .int) 2 2 F_X8_refused) : k_snd l D cI cS cM yX8_spread cX8_spread 3 (some .int) 8 3 (m_X8_spread F_X8_learnRows F_X8_isBelow F_X8_refused) :=
  k_method (by decide +kernel) (by simp) rfl (s_X8_spread_0 h_X8_learnRows h_X8_isBelow h_X8_refused)
noncomputable def b_X8_turned_59 (F_X8_learnRows F_X8_isBelow F_X8_refused F_X3_multiplyRows F_X3_rowLike : KF) : KC := o_aload 0 <| o_get 8 4 <| o_iload 1 <| o_iload 2 <| o_cV0 3 3 F_X3_multiplyRows <| o_aload 0 <| o_get 8 4 <| o_aload 0 <| o_get 8 4 <| o_get 3 6 <| o_cV1 2 3 F_X3_rowLike <| o_iret
set_option maxRecDepth 100000 in
theorem s_X8_turned_59 {l : Launch} {D : va_G} {cI cS cM : ClassId} {F_X8_learnRows F_X8_isBelow F_X8_refused F_X3_multiplyRows F_X3_rowLike : KF} (h_X8_learnRows : k_snd l D cI cS cM yX8_learnRows cX8_learnRows 1 none 7 1 F_X8_learnRows) (h_X8_isBelow : k_snd l D cI cS cM yX8_isBelow cX8_isBelow 2 (some .boolean) 1 2 F_X8_isBelow) (h_X8_refused : k_snd l D cI cS cM yX8_refused cX8_refused 3 (some .int) 2 2 F_X8_refused) (h_X3_multiplyRows : k_snd l D cI cS cM yX3_multiplyRows cX3_multiplyRows 4 none 2 3 F_X3_multiplyRows) (h_X3_rowLike : k_snd l D cI cS cM yX3_rowLike cX3_rowLike 3 (some .int) 2 2 F_X3_rowLike) : KS l D cI cS cM yX8_turned.cls yX8_turned.name cX8_turned 3 (some .int) (k_rm 8 0 0) false 59 0 (b_X8_turned_59 F_X8_learnRows F_X8_isBelow F_X8_refused F_X3_multiplyRows F_X3_rowLike) :=
  s_aload_n dX8_turned_59 rfl <|
  s_get dX8_turned_60 (ci := 8) (sl := 4) (Cn := RX8) (Tf := TX8) (N := 8) rfl (by decide) kiX8 kw_2_4 <|
  s_iload_n dX8_turned_63 rfl <|
  s_iload_n dX8_turned_64 rfl <|
  s_callV0 dX8_turned_65 kw_33_7 kw_33_8 kw_33_9 (ci := 3) rfl ok_X3_multiplyRows (by decide) (by decide) h_X3_multiplyRows (by decide) <|
  s_aload_n dX8_turned_68 rfl <|
  s_get dX8_turned_69 (ci := 8) (sl := 4) (Cn := RX8) (Tf := TX8) (N := 8) rfl (by decide) kiX8 kw_2_4 <|
  s_aload_n dX8_turned_72 rfl <|
  s_get dX8_turned_73 (ci := 8) (sl := 4) (Cn := RX8) (Tf := TX8) (N := 8) rfl (by decide) kiX8 kw_2_4 <|
  s_get dX8_turned_76 (ci := 3) (sl := 6) (Cn := RX3) (Tf := TX3) (N := 8) rfl (by decide) kiX3 kw_33_6 <|
  s_callV1 dX8_turned_79 kw_34_15 kw_34_16 kw_34_17 (ci := 3) rfl ok_X3_rowLike (by decide) (by decide) h_X3_rowLike (by decide) <|
  s_ireturn dX8_turned_82 rfl
noncomputable def b_X8_turned_52 (F_X8_learnRows F_X8_isBelow F_X8_refused F_X3_multiplyRows F_X3_rowLike : KF) : KC := o_aload 0 <| o_push 4294967293 <| o_cV1 2 8 F_X8_refused <| o_iret
set_option maxRecDepth 100000 in
theorem s_X8_turned_52 {l : Launch} {D : va_G} {cI cS cM : ClassId} {F_X8_learnRows F_X8_isBelow F_X8_refused F_X3_multiplyRows F_X3_rowLike : KF} (h_X8_learnRows : k_snd l D cI cS cM yX8_learnRows cX8_learnRows 1 none 7 1 F_X8_learnRows) (h_X8_isBelow : k_snd l D cI cS cM yX8_isBelow cX8_isBelow 2 (some .boolean) 1 2 F_X8_isBelow) (h_X8_refused : k_snd l D cI cS cM yX8_refused cX8_refused 3 (some .int) 2 2 F_X8_refused) (h_X3_multiplyRows : k_snd l D cI cS cM yX3_multiplyRows cX3_multiplyRows 4 none 2 3 F_X3_multiplyRows) (h_X3_rowLike : k_snd l D cI cS cM yX3_rowLike cX3_rowLike 3 (some .int) 2 2 F_X3_rowLike) : KS l D cI cS cM yX8_turned.cls yX8_turned.name cX8_turned 3 (some .int) (k_rm 8 0 0) false 52 0 (b_X8_turned_52 F_X8_learnRows F_X8_isBelow F_X8_refused F_X3_multiplyRows F_X3_rowLike) :=
  s_aload_n dX8_turned_52 rfl <|
  s_push2 dX8_turned_53 (by decide) (by decide) <|
  s_callV1 dX8_turned_55 kw_8_9 kw_8_10 kw_8_11 (ci := 8) rfl ok_X8_refused (by decide) (by decide) h_X8_refused (by decide) <|
  s_ireturn dX8_turned_58 rfl
noncomputable def b_X8_turned_39 (F_X8_learnRows F_X8_isBelow F_X8_refused F_X3_multiplyRows F_X3_rowLike : KF) : KC := o_aload 0 <| o_get 8 4 <| o_get 3 3 <| o_iload 2 <| o_iald <| o_push 1 <| o_c2 Nat.beq (b_X8_turned_59 F_X8_learnRows F_X8_isBelow F_X8_refused F_X3_multiplyRows F_X3_rowLike) (b_X8_turned_52 F_X8_learnRows F_X8_isBelow F_X8_refused F_X3_multiplyRows F_X3_rowLike)
set_option maxRecDepth 100000 in
theorem s_X8_turned_39 {l : Launch} {D : va_G} {cI cS cM : ClassId} {F_X8_learnRows F_X8_isBelow F_X8_refused F_X3_multiplyRows F_X3_rowLike : KF} (h_X8_learnRows : k_snd l D cI cS cM yX8_learnRows cX8_learnRows 1 none 7 1 F_X8_learnRows) (h_X8_isBelow : k_snd l D cI cS cM yX8_isBelow cX8_isBelow 2 (some .boolean) 1 2 F_X8_isBelow) (h_X8_refused : k_snd l D cI cS cM yX8_refused cX8_refused 3 (some .int) 2 2 F_X8_refused) (h_X3_multiplyRows : k_snd l D cI cS cM yX3_multiplyRows cX3_multiplyRows 4 none 2 3 F_X3_multiplyRows) (h_X3_rowLike : k_snd l D cI cS cM yX3_rowLike cX3_rowLike 3 (some .int) 2 2 F_X3_rowLike) : KS l D cI cS cM yX8_turned.cls yX8_turned.name cX8_turned 3 (some .int) (k_rm 8 0 0) false 39 0 (b_X8_turned_39 F_X8_learnRows F_X8_isBelow F_X8_refused F_X3_multiplyRows F_X3_rowLike) :=
  s_aload_n dX8_turned_39 rfl <|
  s_get dX8_turned_40 (ci := 8) (sl := 4) (Cn := RX8) (Tf := TX8) (N := 8) rfl (by decide) kiX8 kw_2_4 <|
  s_get dX8_turned_43 (ci := 3) (sl := 3) (Cn := RX3) (Tf := TX3) (N := 8) rfl (by decide) kiX3 kw_30_2 <|
  s_iload_n dX8_turned_46 rfl <|
  s_iald dX8_turned_47 <|
  s_push1 dX8_turned_48 (by decide) (by decide) <|
  s_icmp_eq dX8_turned_49 (by decide) (s_X8_turned_59 h_X8_learnRows h_X8_isBelow h_X8_refused h_X3_multiplyRows h_X3_rowLike) (s_X8_turned_52 h_X8_learnRows h_X8_isBelow h_X8_refused h_X3_multiplyRows h_X3_rowLike)
noncomputable def b_X8_turned_32 (F_X8_learnRows F_X8_isBelow F_X8_refused F_X3_multiplyRows F_X3_rowLike : KF) : KC := o_aload 0 <| o_push 4294967294 <| o_cV1 2 8 F_X8_refused <| o_iret
set_option maxRecDepth 100000 in
theorem s_X8_turned_32 {l : Launch} {D : va_G} {cI cS cM : ClassId} {F_X8_learnRows F_X8_isBelow F_X8_refused F_X3_multiplyRows F_X3_rowLike : KF} (h_X8_learnRows : k_snd l D cI cS cM yX8_learnRows cX8_learnRows 1 none 7 1 F_X8_learnRows) (h_X8_isBelow : k_snd l D cI cS cM yX8_isBelow cX8_isBelow 2 (some .boolean) 1 2 F_X8_isBelow) (h_X8_refused : k_snd l D cI cS cM yX8_refused cX8_refused 3 (some .int) 2 2 F_X8_refused) (h_X3_multiplyRows : k_snd l D cI cS cM yX3_multiplyRows cX3_multiplyRows 4 none 2 3 F_X3_multiplyRows) (h_X3_rowLike : k_snd l D cI cS cM yX3_rowLike cX3_rowLike 3 (some .int) 2 2 F_X3_rowLike) : KS l D cI cS cM yX8_turned.cls yX8_turned.name cX8_turned 3 (some .int) (k_rm 8 0 0) false 32 0 (b_X8_turned_32 F_X8_learnRows F_X8_isBelow F_X8_refused F_X3_multiplyRows F_X3_rowLike) :=
  s_aload_n dX8_turned_32 rfl <|
  s_push2 dX8_turned_33 (by decide) (by decide) <|
  s_callV1 dX8_turned_35 kw_8_9 kw_8_10 kw_8_11 (ci := 8) rfl ok_X8_refused (by decide) (by decide) h_X8_refused (by decide) <|
  s_ireturn dX8_turned_38 rfl
noncomputable def b_X8_turned_18 (F_X8_learnRows F_X8_isBelow F_X8_refused F_X3_multiplyRows F_X3_rowLike : KF) : KC := o_iload 2 <| o_aload 0 <| o_get 8 4 <| o_get 3 2 <| o_cS1 2 F_X8_isBelow <| o_c1 g_eq (b_X8_turned_32 F_X8_learnRows F_X8_isBelow F_X8_refused F_X3_multiplyRows F_X3_rowLike) (b_X8_turned_39 F_X8_learnRows F_X8_isBelow F_X8_refused F_X3_multiplyRows F_X3_rowLike)
set_option maxRecDepth 100000 in
theorem s_X8_turned_18 {l : Launch} {D : va_G} {cI cS cM : ClassId} {F_X8_learnRows F_X8_isBelow F_X8_refused F_X3_multiplyRows F_X3_rowLike : KF} (h_X8_learnRows : k_snd l D cI cS cM yX8_learnRows cX8_learnRows 1 none 7 1 F_X8_learnRows) (h_X8_isBelow : k_snd l D cI cS cM yX8_isBelow cX8_isBelow 2 (some .boolean) 1 2 F_X8_isBelow) (h_X8_refused : k_snd l D cI cS cM yX8_refused cX8_refused 3 (some .int) 2 2 F_X8_refused) (h_X3_multiplyRows : k_snd l D cI cS cM yX3_multiplyRows cX3_multiplyRows 4 none 2 3 F_X3_multiplyRows) (h_X3_rowLike : k_snd l D cI cS cM yX3_rowLike cX3_rowLike 3 (some .int) 2 2 F_X3_rowLike) : KS l D cI cS cM yX8_turned.cls yX8_turned.name cX8_turned 3 (some .int) (k_rm 8 0 0) false 18 0 (b_X8_turned_18 F_X8_learnRows F_X8_isBelow F_X8_refused F_X3_multiplyRows F_X3_rowLike) :=
  s_iload_n dX8_turned_18 rfl <|
  s_aload_n dX8_turned_19 rfl <|
  s_get dX8_turned_20 (ci := 8) (sl := 4) (Cn := RX8) (Tf := TX8) (N := 8) rfl (by decide) kiX8 kw_2_4 <|
  s_get dX8_turned_23 (ci := 3) (sl := 2) (Cn := RX3) (Tf := TX3) (N := 8) rfl (by decide) kiX3 kw_30_1 <|
  s_callS1 dX8_turned_26 kw_8_13 kw_8_14 ok_X8_isBelow (by decide) (by decide) h_X8_isBelow (by decide) <|
  s_if_ne dX8_turned_29 (by decide) (s_X8_turned_39 h_X8_learnRows h_X8_isBelow h_X8_refused h_X3_multiplyRows h_X3_rowLike) (s_X8_turned_32 h_X8_learnRows h_X8_isBelow h_X8_refused h_X3_multiplyRows h_X3_rowLike)
noncomputable def b_X8_turned_0 (F_X8_learnRows F_X8_isBelow F_X8_refused F_X3_multiplyRows F_X3_rowLike : KF) : KC := o_aload 0 <| o_cV0 1 8 F_X8_learnRows <| o_iload 1 <| o_aload 0 <| o_get 8 4 <| o_get 3 2 <| o_cS1 2 F_X8_isBelow <| o_c1 g_eq (b_X8_turned_32 F_X8_learnRows F_X8_isBelow F_X8_refused F_X3_multiplyRows F_X3_rowLike) (b_X8_turned_18 F_X8_learnRows F_X8_isBelow F_X8_refused F_X3_multiplyRows F_X3_rowLike)
set_option maxRecDepth 100000 in
theorem s_X8_turned_0 {l : Launch} {D : va_G} {cI cS cM : ClassId} {F_X8_learnRows F_X8_isBelow F_X8_refused F_X3_multiplyRows F_X3_rowLike : KF} (h_X8_learnRows : k_snd l D cI cS cM yX8_learnRows cX8_learnRows 1 none 7 1 F_X8_learnRows) (h_X8_isBelow : k_snd l D cI cS cM yX8_isBelow cX8_isBelow 2 (some .boolean) 1 2 F_X8_isBelow) (h_X8_refused : k_snd l D cI cS cM yX8_refused cX8_refused 3 (some .int) 2 2 F_X8_refused) (h_X3_multiplyRows : k_snd l D cI cS cM yX3_multiplyRows cX3_multiplyRows 4 none 2 3 F_X3_multiplyRows) (h_X3_rowLike : k_snd l D cI cS cM yX3_rowLike cX3_rowLike 3 (some .int) 2 2 F_X3_rowLike) : KS l D cI cS cM yX8_turned.cls yX8_turned.name cX8_turned 3 (some .int) (k_rm 8 0 0) false 0 0 (b_X8_turned_0 F_X8_learnRows F_X8_isBelow F_X8_refused F_X3_multiplyRows F_X3_rowLike) :=
  s_aload_n dX8_turned_0 rfl <|
  s_callV0 dX8_turned_1 kw_12_10 kw_12_11 kw_12_12 (ci := 8) rfl ok_X8_learnRows (by decide) (by decide) h_X8_learnRows (by decide) <|
  s_iload_n dX8_turned_4 rfl <|
  s_aload_n dX8_turned_5 rfl <|
  s_get dX8_turned_6 (ci := 8) (sl := 4) (Cn := RX8) (Tf := TX8) (N := 8) rfl (by decide) kiX8 kw_2_4 <|
  s_get dX8_turned_9 (ci := 3) (sl := 2) (Cn := RX3) (Tf := TX3) (N := 8) rfl (by decide) kiX3 kw_30_1 <|
  s_callS1 dX8_turned_12 kw_8_13 kw_8_14 ok_X8_isBelow (by decide) (by decide) h_X8_isBelow (by decide) <|
  s_if_eq dX8_turned_15 (by decide) (s_X8_turned_32 h_X8_learnRows h_X8_isBelow h_X8_refused h_X3_multiplyRows h_X3_rowLike) (s_X8_turned_18 h_X8_learnRows h_X8_isBelow h_X8_refused h_X3_multiplyRows h_X3_rowLike)
noncomputable def m_X8_turned (F_X8_learnRows F_X8_isBelow F_X8_refused F_X3_multiplyRows F_X3_rowLike : KF) : KF := k_fun [] (b_X8_turned_0 F_X8_learnRows F_X8_isBelow F_X8_refused F_X3_multiplyRows F_X3_rowLike)
theorem r_X8_turned {l : Launch} {D : va_G} {cI cS cM : ClassId} {F_X8_learnRows F_X8_isBelow F_X8_refused F_X3_multiplyRows F_X3_rowLike : KF} (h_X8_learnRows : k_snd l D cI cS cM yX8_learnRows cX8_learnRows 1 none 7 1 F_X8_learnRows) (h_X8_isBelow : k_snd l D cI cS cM yX8_isBelow cX8_isBelow 2 (some .boolean) 1 2 F_X8_isBelow) (h_X8_refused : k_snd l D cI cS cM yX8_refused cX8_refused 3 (some .int) 2 2 F_X8_refused) (h_X3_multiplyRows : k_snd l D cI cS cM yX3_multiplyRows cX3_multiplyRows 4 none 2 3 F_X3_multiplyRows) (h_X3_rowLike : k_snd l D cI cS cM yX3_rowLike cX3_rowLike 3 (some .int) 2 2 F_X3_rowLike) : k_snd l D cI cS cM yX8_turned cX8_turned 3 (some .int) 8 3 (m_X8_turned F_X8_learnRows F_X8_isBelow F_X8_refused F_X3_multiplyRows F_X3_rowLike) :=
  k_method (by decide +kernel) (by simp) rfl (s_X8_turned_0 h_X8_learnRows h_X8_isBelow h_X8_refused h_X3_multiplyRows h_X3_rowLike)
noncomputable def b_X8_value_39 (F_X8_learnRows F_X8_isBelow F_X8_refused : KF) : KC := o_aload 0 <| o_get 8 4 <| o_get 3 5 <| o_iload 1 <| o_aald <| o_iload 2 <| o_iald <| o_iret
set_option maxRecDepth 100000 in
theorem s_X8_value_39 {l : Launch} {D : va_G} {cI cS cM : ClassId} {F_X8_learnRows F_X8_isBelow F_X8_refused : KF} (h_X8_learnRows : k_snd l D cI cS cM yX8_learnRows cX8_learnRows 1 none 7 1 F_X8_learnRows) (h_X8_isBelow : k_snd l D cI cS cM yX8_isBelow cX8_isBelow 2 (some .boolean) 1 2 F_X8_isBelow) (h_X8_refused : k_snd l D cI cS cM yX8_refused cX8_refused 3 (some .int) 2 2 F_X8_refused) : KS l D cI cS cM yX8_value.cls yX8_value.name cX8_value 3 (some .int) (k_rm 8 0 0) false 39 0 (b_X8_value_39 F_X8_learnRows F_X8_isBelow F_X8_refused) :=
  s_aload_n dX8_value_39 rfl <|
  s_get dX8_value_40 (ci := 8) (sl := 4) (Cn := RX8) (Tf := TX8) (N := 8) rfl (by decide) kiX8 kw_2_4 <|
  s_get dX8_value_43 (ci := 3) (sl := 5) (Cn := RX3) (Tf := TX3) (N := 8) rfl (by decide) kiX3 kw_30_11 <|
  s_iload_n dX8_value_46 rfl <|
  s_aald dX8_value_47 <|
  s_iload_n dX8_value_48 rfl <|
  s_iald dX8_value_49 <|
  s_ireturn dX8_value_50 rfl
noncomputable def b_X8_value_32 (F_X8_learnRows F_X8_isBelow F_X8_refused : KF) : KC := o_aload 0 <| o_push 4294967294 <| o_cV1 2 8 F_X8_refused <| o_iret
set_option maxRecDepth 100000 in
theorem s_X8_value_32 {l : Launch} {D : va_G} {cI cS cM : ClassId} {F_X8_learnRows F_X8_isBelow F_X8_refused : KF} (h_X8_learnRows : k_snd l D cI cS cM yX8_learnRows cX8_learnRows 1 none 7 1 F_X8_learnRows) (h_X8_isBelow : k_snd l D cI cS cM yX8_isBelow cX8_isBelow 2 (some .boolean) 1 2 F_X8_isBelow) (h_X8_refused : k_snd l D cI cS cM yX8_refused cX8_refused 3 (some .int) 2 2 F_X8_refused) : KS l D cI cS cM yX8_value.cls yX8_value.name cX8_value 3 (some .int) (k_rm 8 0 0) false 32 0 (b_X8_value_32 F_X8_learnRows F_X8_isBelow F_X8_refused) :=
  s_aload_n dX8_value_32 rfl <|
  s_push2 dX8_value_33 (by decide) (by decide) <|
  s_callV1 dX8_value_35 kw_8_9 kw_8_10 kw_8_11 (ci := 8) rfl ok_X8_refused (by decide) (by decide) h_X8_refused (by decide) <|
  s_ireturn dX8_value_38 rfl
noncomputable def b_X8_value_18 (F_X8_learnRows F_X8_isBelow F_X8_refused : KF) : KC := o_iload 2 <| o_aload 0 <| o_get 8 4 <| o_get 3 2 <| o_cS1 2 F_X8_isBelow <| o_c1 g_eq (b_X8_value_32 F_X8_learnRows F_X8_isBelow F_X8_refused) (b_X8_value_39 F_X8_learnRows F_X8_isBelow F_X8_refused)
set_option maxRecDepth 100000 in
theorem s_X8_value_18 {l : Launch} {D : va_G} {cI cS cM : ClassId} {F_X8_learnRows F_X8_isBelow F_X8_refused : KF} (h_X8_learnRows : k_snd l D cI cS cM yX8_learnRows cX8_learnRows 1 none 7 1 F_X8_learnRows) (h_X8_isBelow : k_snd l D cI cS cM yX8_isBelow cX8_isBelow 2 (some .boolean) 1 2 F_X8_isBelow) (h_X8_refused : k_snd l D cI cS cM yX8_refused cX8_refused 3 (some .int) 2 2 F_X8_refused) : KS l D cI cS cM yX8_value.cls yX8_value.name cX8_value 3 (some .int) (k_rm 8 0 0) false 18 0 (b_X8_value_18 F_X8_learnRows F_X8_isBelow F_X8_refused) :=
  s_iload_n dX8_value_18 rfl <|
  s_aload_n dX8_value_19 rfl <|
  s_get dX8_value_20 (ci := 8) (sl := 4) (Cn := RX8) (Tf := TX8) (N := 8) rfl (by decide) kiX8 kw_2_4 <|
  s_get dX8_value_23 (ci := 3) (sl := 2) (Cn := RX3) (Tf := TX3) (N := 8) rfl (by decide) kiX3 kw_30_1 <|
  s_callS1 dX8_value_26 kw_8_13 kw_8_14 ok_X8_isBelow (by decide) (by decide) h_X8_isBelow (by decide) <|
  s_if_ne dX8_value_29 (by decide) (s_X8_value_39 h_X8_learnRows h_X8_isBelow h_X8_refused) (s_X8_value_32 h_X8_learnRows h_X8_isBelow h_X8_refused)
noncomputable def b_X8_value_0 (F_X8_learnRows F_X8_isBelow F_X8_refused : KF) : KC := o_aload 0 <| o_cV0 1 8 F_X8_learnRows <| o_iload 1 <| o_aload 0 <| o_get 8 4 <| o_get 3 2 <| o_cS1 2 F_X8_isBelow <| o_c1 g_eq (b_X8_value_32 F_X8_learnRows F_X8_isBelow F_X8_refused) (b_X8_value_18 F_X8_learnRows F_X8_isBelow F_X8_refused)
set_option maxRecDepth 100000 in
theorem s_X8_value_0 {l : Launch} {D : va_G} {cI cS cM : ClassId} {F_X8_learnRows F_X8_isBelow F_X8_refused : KF} (h_X8_learnRows : k_snd l D cI cS cM yX8_learnRows cX8_learnRows 1 none 7 1 F_X8_learnRows) (h_X8_isBelow : k_snd l D cI cS cM yX8_isBelow cX8_isBelow 2 (some .boolean) 1 2 F_X8_isBelow) (h_X8_refused : k_snd l D cI cS cM yX8_refused cX8_refused 3 (some .int) 2 2 F_X8_refused) : KS l D cI cS cM yX8_value.cls yX8_value.name cX8_value 3 (some .int) (k_rm 8 0 0) false 0 0 (b_X8_value_0 F_X8_learnRows F_X8_isBelow F_X8_refused) :=
  s_aload_n dX8_value_0 rfl <|
  s_callV0 dX8_value_1 kw_12_10 kw_12_11 kw_12_12 (ci := 8) rfl ok_X8_learnRows (by decide) (by decide) h_X8_learnRows (by decide) <|
  s_iload_n dX8_value_4 rfl <|
  s_aload_n dX8_value_5 rfl <|
  s_get dX8_value_6 (ci := 8) (sl := 4) (Cn := RX8) (Tf := TX8) (N := 8) rfl (by decide) kiX8 kw_2_4 <|
  s_get dX8_value_9 (ci := 3) (sl := 2) (Cn := RX3) (Tf := TX3) (N := 8) rfl (by decide) kiX3 kw_30_1 <|
  s_callS1 dX8_value_12 kw_8_13 kw_8_14 ok_X8_isBelow (by decide) (by decide) h_X8_isBelow (by decide) <|
  s_if_eq dX8_value_15 (by decide) (s_X8_value_32 h_X8_learnRows h_X8_isBelow h_X8_refused) (s_X8_value_18 h_X8_learnRows h_X8_isBelow h_X8_refused)
noncomputable def m_X8_value (F_X8_learnRows F_X8_isBelow F_X8_refused : KF) : KF := k_fun [] (b_X8_value_0 F_X8_learnRows F_X8_isBelow F_X8_refused)
theorem r_X8_value {l : Launch} {D : va_G} {cI cS cM : ClassId} {F_X8_learnRows F_X8_isBelow F_X8_refused : KF} (h_X8_learnRows : k_snd l D cI cS cM yX8_learnRows cX8_learnRows 1 none 7 1 F_X8_learnRows) (h_X8_isBelow : k_snd l D cI cS cM yX8_isBelow cX8_isBelow 2 (some .boolean) 1 2 F_X8_isBelow) (h_X8_refused : k_snd l D cI cS cM yX8_refused cX8_refused 3 (some .int) 2 2 F_X8_refused) : k_snd l D cI cS cM yX8_value cX8_value 3 (some .int) 8 3 (m_X8_value F_X8_learnRows F_X8_isBelow F_X8_refused) :=
  k_method (by decide +kernel) (by simp) rfl (s_X8_value_0 h_X8_learnRows h_X8_isBelow h_X8_refused)
noncomputable def b_X8_within_53 (F_X8_learnRows F_X8_isBelow F_X8_refused F_X3_multiplyRows F_X3_meet : KF) : KC := o_aload 0 <| o_get 8 4 <| o_iload 1 <| o_iload 2 <| o_cV0 3 3 F_X3_multiplyRows <| o_aload 0 <| o_get 8 4 <| o_aload 0 <| o_get 8 4 <| o_get 3 6 <| o_aload 0 <| o_get 8 4 <| o_get 3 5 <| o_iload 3 <| o_aald <| o_cV1 3 3 F_X3_meet <| o_iret
set_option maxRecDepth 100000 in
theorem s_X8_within_53 {l : Launch} {D : va_G} {cI cS cM : ClassId} {F_X8_learnRows F_X8_isBelow F_X8_refused F_X3_multiplyRows F_X3_meet : KF} (h_X8_learnRows : k_snd l D cI cS cM yX8_learnRows cX8_learnRows 1 none 7 1 F_X8_learnRows) (h_X8_isBelow : k_snd l D cI cS cM yX8_isBelow cX8_isBelow 2 (some .boolean) 1 2 F_X8_isBelow) (h_X8_refused : k_snd l D cI cS cM yX8_refused cX8_refused 3 (some .int) 2 2 F_X8_refused) (h_X3_multiplyRows : k_snd l D cI cS cM yX3_multiplyRows cX3_multiplyRows 4 none 2 3 F_X3_multiplyRows) (h_X3_meet : k_snd l D cI cS cM yX3_meet cX3_meet 5 (some .int) 3 3 F_X3_meet) : KS l D cI cS cM yX8_within.cls yX8_within.name cX8_within 4 (some .int) (k_rm 8 0 0) false 53 0 (b_X8_within_53 F_X8_learnRows F_X8_isBelow F_X8_refused F_X3_multiplyRows F_X3_meet) :=
  s_aload_n dX8_within_53 rfl <|
  s_get dX8_within_54 (ci := 8) (sl := 4) (Cn := RX8) (Tf := TX8) (N := 8) rfl (by decide) kiX8 kw_2_4 <|
  s_iload_n dX8_within_57 rfl <|
  s_iload_n dX8_within_58 rfl <|
  s_callV0 dX8_within_59 kw_33_7 kw_33_8 kw_33_9 (ci := 3) rfl ok_X3_multiplyRows (by decide) (by decide) h_X3_multiplyRows (by decide) <|
  s_aload_n dX8_within_62 rfl <|
  s_get dX8_within_63 (ci := 8) (sl := 4) (Cn := RX8) (Tf := TX8) (N := 8) rfl (by decide) kiX8 kw_2_4 <|
  s_aload_n dX8_within_66 rfl <|
  s_get dX8_within_67 (ci := 8) (sl := 4) (Cn := RX8) (Tf := TX8) (N := 8) rfl (by decide) kiX8 kw_2_4 <|
  s_get dX8_within_70 (ci := 3) (sl := 6) (Cn := RX3) (Tf := TX3) (N := 8) rfl (by decide) kiX3 kw_33_6 <|
  s_aload_n dX8_within_73 rfl <|
  s_get dX8_within_74 (ci := 8) (sl := 4) (Cn := RX8) (Tf := TX8) (N := 8) rfl (by decide) kiX8 kw_2_4 <|
  s_get dX8_within_77 (ci := 3) (sl := 5) (Cn := RX3) (Tf := TX3) (N := 8) rfl (by decide) kiX3 kw_30_11 <|
  s_iload_n dX8_within_80 rfl <|
  s_aald dX8_within_81 <|
  s_callV1 dX8_within_82 kw_33_11 kw_33_12 kw_33_13 (ci := 3) rfl ok_X3_meet (by decide) (by decide) h_X3_meet (by decide) <|
  s_ireturn dX8_within_85 rfl
noncomputable def b_X8_within_46 (F_X8_learnRows F_X8_isBelow F_X8_refused F_X3_multiplyRows F_X3_meet : KF) : KC := o_aload 0 <| o_push 4294967294 <| o_cV1 2 8 F_X8_refused <| o_iret
set_option maxRecDepth 100000 in
theorem s_X8_within_46 {l : Launch} {D : va_G} {cI cS cM : ClassId} {F_X8_learnRows F_X8_isBelow F_X8_refused F_X3_multiplyRows F_X3_meet : KF} (h_X8_learnRows : k_snd l D cI cS cM yX8_learnRows cX8_learnRows 1 none 7 1 F_X8_learnRows) (h_X8_isBelow : k_snd l D cI cS cM yX8_isBelow cX8_isBelow 2 (some .boolean) 1 2 F_X8_isBelow) (h_X8_refused : k_snd l D cI cS cM yX8_refused cX8_refused 3 (some .int) 2 2 F_X8_refused) (h_X3_multiplyRows : k_snd l D cI cS cM yX3_multiplyRows cX3_multiplyRows 4 none 2 3 F_X3_multiplyRows) (h_X3_meet : k_snd l D cI cS cM yX3_meet cX3_meet 5 (some .int) 3 3 F_X3_meet) : KS l D cI cS cM yX8_within.cls yX8_within.name cX8_within 4 (some .int) (k_rm 8 0 0) false 46 0 (b_X8_within_46 F_X8_learnRows F_X8_isBelow F_X8_refused F_X3_multiplyRows F_X3_meet) :=
  s_aload_n dX8_within_46 rfl <|
  s_push2 dX8_within_47 (by decide) (by decide) <|
  s_callV1 dX8_within_49 kw_8_9 kw_8_10 kw_8_11 (ci := 8) rfl ok_X8_refused (by decide) (by decide) h_X8_refused (by decide) <|
  s_ireturn dX8_within_52 rfl
noncomputable def b_X8_within_32 (F_X8_learnRows F_X8_isBelow F_X8_refused F_X3_multiplyRows F_X3_meet : KF) : KC := o_iload 3 <| o_aload 0 <| o_get 8 4 <| o_get 3 2 <| o_cS1 2 F_X8_isBelow <| o_c1 g_eq (b_X8_within_46 F_X8_learnRows F_X8_isBelow F_X8_refused F_X3_multiplyRows F_X3_meet) (b_X8_within_53 F_X8_learnRows F_X8_isBelow F_X8_refused F_X3_multiplyRows F_X3_meet)
set_option maxRecDepth 100000 in
theorem s_X8_within_32 {l : Launch} {D : va_G} {cI cS cM : ClassId} {F_X8_learnRows F_X8_isBelow F_X8_refused F_X3_multiplyRows F_X3_meet : KF} (h_X8_learnRows : k_snd l D cI cS cM yX8_learnRows cX8_learnRows 1 none 7 1 F_X8_learnRows) (h_X8_isBelow : k_snd l D cI cS cM yX8_isBelow cX8_isBelow 2 (some .boolean) 1 2 F_X8_isBelow) (h_X8_refused : k_snd l D cI cS cM yX8_refused cX8_refused 3 (some .int) 2 2 F_X8_refused) (h_X3_multiplyRows : k_snd l D cI cS cM yX3_multiplyRows cX3_multiplyRows 4 none 2 3 F_X3_multiplyRows) (h_X3_meet : k_snd l D cI cS cM yX3_meet cX3_meet 5 (some .int) 3 3 F_X3_meet) : KS l D cI cS cM yX8_within.cls yX8_within.name cX8_within 4 (some .int) (k_rm 8 0 0) false 32 0 (b_X8_within_32 F_X8_learnRows F_X8_isBelow F_X8_refused F_X3_multiplyRows F_X3_meet) :=
  s_iload_n dX8_within_32 rfl <|
  s_aload_n dX8_within_33 rfl <|
  s_get dX8_within_34 (ci := 8) (sl := 4) (Cn := RX8) (Tf := TX8) (N := 8) rfl (by decide) kiX8 kw_2_4 <|
  s_get dX8_within_37 (ci := 3) (sl := 2) (Cn := RX3) (Tf := TX3) (N := 8) rfl (by decide) kiX3 kw_30_1 <|
  s_callS1 dX8_within_40 kw_8_13 kw_8_14 ok_X8_isBelow (by decide) (by decide) h_X8_isBelow (by decide) <|
  s_if_ne dX8_within_43 (by decide) (s_X8_within_53 h_X8_learnRows h_X8_isBelow h_X8_refused h_X3_multiplyRows h_X3_meet) (s_X8_within_46 h_X8_learnRows h_X8_isBelow h_X8_refused h_X3_multiplyRows h_X3_meet)
noncomputable def b_X8_within_18 (F_X8_learnRows F_X8_isBelow F_X8_refused F_X3_multiplyRows F_X3_meet : KF) : KC := o_iload 2 <| o_aload 0 <| o_get 8 4 <| o_get 3 2 <| o_cS1 2 F_X8_isBelow <| o_c1 g_eq (b_X8_within_46 F_X8_learnRows F_X8_isBelow F_X8_refused F_X3_multiplyRows F_X3_meet) (b_X8_within_32 F_X8_learnRows F_X8_isBelow F_X8_refused F_X3_multiplyRows F_X3_meet)
set_option maxRecDepth 100000 in
theorem s_X8_within_18 {l : Launch} {D : va_G} {cI cS cM : ClassId} {F_X8_learnRows F_X8_isBelow F_X8_refused F_X3_multiplyRows F_X3_meet : KF} (h_X8_learnRows : k_snd l D cI cS cM yX8_learnRows cX8_learnRows 1 none 7 1 F_X8_learnRows) (h_X8_isBelow : k_snd l D cI cS cM yX8_isBelow cX8_isBelow 2 (some .boolean) 1 2 F_X8_isBelow) (h_X8_refused : k_snd l D cI cS cM yX8_refused cX8_refused 3 (some .int) 2 2 F_X8_refused) (h_X3_multiplyRows : k_snd l D cI cS cM yX3_multiplyRows cX3_multiplyRows 4 none 2 3 F_X3_multiplyRows) (h_X3_meet : k_snd l D cI cS cM yX3_meet cX3_meet 5 (some .int) 3 3 F_X3_meet) : KS l D cI cS cM yX8_within.cls yX8_within.name cX8_within 4 (some .int) (k_rm 8 0 0) false 18 0 (b_X8_within_18 F_X8_learnRows F_X8_isBelow F_X8_refused F_X3_multiplyRows F_X3_meet) :=
  s_iload_n dX8_within_18 rfl <|
  s_aload_n dX8_within_19 rfl <|
  s_get dX8_within_20 (ci := 8) (sl := 4) (Cn := RX8) (Tf := TX8) (N := 8) rfl (by decide) kiX8 kw_2_4 <|
  s_get dX8_within_23 (ci := 3) (sl := 2) (Cn := RX3) (Tf := TX3) (N := 8) rfl (by decide) kiX3 kw_30_1 <|
  s_callS1 dX8_within_26 kw_8_13 kw_8_14 ok_X8_isBelow (by decide) (by decide) h_X8_isBelow (by decide) <|
  s_if_eq dX8_within_29 (by decide) (s_X8_within_46 h_X8_learnRows h_X8_isBelow h_X8_refused h_X3_multiplyRows h_X3_meet) (s_X8_within_32 h_X8_learnRows h_X8_isBelow h_X8_refused h_X3_multiplyRows h_X3_meet)
noncomputable def b_X8_within_0 (F_X8_learnRows F_X8_isBelow F_X8_refused F_X3_multiplyRows F_X3_meet : KF) : KC := o_aload 0 <| o_cV0 1 8 F_X8_learnRows <| o_iload 1 <| o_aload 0 <| o_get 8 4 <| o_get 3 2 <| o_cS1 2 F_X8_isBelow <| o_c1 g_eq (b_X8_within_46 F_X8_learnRows F_X8_isBelow F_X8_refused F_X3_multiplyRows F_X3_meet) (b_X8_within_18 F_X8_learnRows F_X8_isBelow F_X8_refused F_X3_multiplyRows F_X3_meet)
set_option maxRecDepth 100000 in
theorem s_X8_within_0 {l : Launch} {D : va_G} {cI cS cM : ClassId} {F_X8_learnRows F_X8_isBelow F_X8_refused F_X3_multiplyRows F_X3_meet : KF} (h_X8_learnRows : k_snd l D cI cS cM yX8_learnRows cX8_learnRows 1 none 7 1 F_X8_learnRows) (h_X8_isBelow : k_snd l D cI cS cM yX8_isBelow cX8_isBelow 2 (some .boolean) 1 2 F_X8_isBelow) (h_X8_refused : k_snd l D cI cS cM yX8_refused cX8_refused 3 (some .int) 2 2 F_X8_refused) (h_X3_multiplyRows : k_snd l D cI cS cM yX3_multiplyRows cX3_multiplyRows 4 none 2 3 F_X3_multiplyRows) (h_X3_meet : k_snd l D cI cS cM yX3_meet cX3_meet 5 (some .int) 3 3 F_X3_meet) : KS l D cI cS cM yX8_within.cls yX8_within.name cX8_within 4 (some .int) (k_rm 8 0 0) false 0 0 (b_X8_within_0 F_X8_learnRows F_X8_isBelow F_X8_refused F_X3_multiplyRows F_X3_meet) :=
  s_aload_n dX8_within_0 rfl <|
  s_callV0 dX8_within_1 kw_12_10 kw_12_11 kw_12_12 (ci := 8) rfl ok_X8_learnRows (by decide) (by decide) h_X8_learnRows (by decide) <|
  s_iload_n dX8_within_4 rfl <|
  s_aload_n dX8_within_5 rfl <|
  s_get dX8_within_6 (ci := 8) (sl := 4) (Cn := RX8) (Tf := TX8) (N := 8) rfl (by decide) kiX8 kw_2_4 <|
  s_get dX8_within_9 (ci := 3) (sl := 2) (Cn := RX3) (Tf := TX3) (N := 8) rfl (by decide) kiX3 kw_30_1 <|
  s_callS1 dX8_within_12 kw_8_13 kw_8_14 ok_X8_isBelow (by decide) (by decide) h_X8_isBelow (by decide) <|
  s_if_eq dX8_within_15 (by decide) (s_X8_within_46 h_X8_learnRows h_X8_isBelow h_X8_refused h_X3_multiplyRows h_X3_meet) (s_X8_within_18 h_X8_learnRows h_X8_isBelow h_X8_refused h_X3_multiplyRows h_X3_meet)
noncomputable def m_X8_within (F_X8_learnRows F_X8_isBelow F_X8_refused F_X3_multiplyRows F_X3_meet : KF) : KF := k_fun [] (b_X8_within_0 F_X8_learnRows F_X8_isBelow F_X8_refused F_X3_multiplyRows F_X3_meet)
theorem r_X8_within {l : Launch} {D : va_G} {cI cS cM : ClassId} {F_X8_learnRows F_X8_isBelow F_X8_refused F_X3_multiplyRows F_X3_meet : KF} (h_X8_learnRows : k_snd l D cI cS cM yX8_learnRows cX8_learnRows 1 none 7 1 F_X8_learnRows) (h_X8_isBelow : k_snd l D cI cS cM yX8_isBelow cX8_isBelow 2 (some .boolean) 1 2 F_X8_isBelow) (h_X8_refused : k_snd l D cI cS cM yX8_refused cX8_refused 3 (some .int) 2 2 F_X8_refused) (h_X3_multiplyRows : k_snd l D cI cS cM yX3_multiplyRows cX3_multiplyRows 4 none 2 3 F_X3_multiplyRows) (h_X3_meet : k_snd l D cI cS cM yX3_meet cX3_meet 5 (some .int) 3 3 F_X3_meet) : k_snd l D cI cS cM yX8_within cX8_within 4 (some .int) 8 4 (m_X8_within F_X8_learnRows F_X8_isBelow F_X8_refused F_X3_multiplyRows F_X3_meet) :=
  k_method (by decide +kernel) (by simp) rfl (s_X8_within_0 h_X8_learnRows h_X8_isBelow h_X8_refused h_X3_multiplyRows h_X3_meet)
