noncomputable def b_X7_keepLineC_79 : KC := o_ret
set_option maxRecDepth 100000 in
theorem s_X7_keepLineC_79 {l : Launch} {D : va_G} {cI cS cM : ClassId} : KS l D cI cS cM yX7_keepLine.cls yX7_keepLine.name cX7_keepLine 2 none (k_rm 2 0 0) false 79 0 (b_X7_keepLineC_79) :=
  s_return dX7_keepLine_79 rfl
noncomputable def b_X7_keepLineC_22 : KC := o_aload 0 <| o_get 7 3 <| o_aload 0 <| o_get 7 5 <| o_aload 0 <| o_get 7 6 <| o_iast <| o_aload 0 <| o_dup <| o_get 7 5 <| o_push 1 <| o_bin n_add <| o_puti 7 5 <| o_aload 0 <| o_get 7 0 <| o_iload 1 <| o_aald <| o_push 0 <| o_aload 0 <| o_get 7 1 <| o_aload 0 <| o_get 7 6 <| o_aald <| o_push 0 <| o_aload 0 <| o_get 7 7 <| o_copyF <| o_aload 0 <| o_dup <| o_get 7 6 <| o_push 1 <| o_bin n_add <| o_puti 7 6 <| b_X7_keepLineC_79
set_option maxRecDepth 100000 in
theorem s_X7_keepLineC_22 {l : Launch} {D : va_G} {cI cS cM : ClassId} : KS l D cI cS cM yX7_keepLine.cls yX7_keepLine.name cX7_keepLine 2 none (k_rm 2 0 0) false 22 0 (b_X7_keepLineC_22) :=
  s_aload_n dX7_keepLine_22 rfl <|
  s_get dX7_keepLine_23 (ci := 7) (sl := 3) (Cn := RX7) (Tf := TX7) (N := 12) rfl (by decide) kiX7 kw_6_3 <|
  s_aload_n dX7_keepLine_26 rfl <|
  s_get dX7_keepLine_27 (ci := 7) (sl := 5) (Cn := RX7) (Tf := TX7) (N := 12) rfl (by decide) kiX7 kw_6_5 <|
  s_aload_n dX7_keepLine_30 rfl <|
  s_get dX7_keepLine_31 (ci := 7) (sl := 6) (Cn := RX7) (Tf := TX7) (N := 12) rfl (by decide) kiX7 kw_6_6 <|
  s_iast dX7_keepLine_34 <|
  s_aload_n dX7_keepLine_35 rfl <|
  s_dup dX7_keepLine_36 <|
  s_get dX7_keepLine_37 (ci := 7) (sl := 5) (Cn := RX7) (Tf := TX7) (N := 12) rfl (by decide) kiX7 kw_6_5 <|
  s_push1 dX7_keepLine_40 (by decide) (by decide) <|
  s_iadd dX7_keepLine_41 <|
  s_puti dX7_keepLine_42 (ci := 7) (sl := 5) (Cn := RX7) (Tf := TX7) (N := 12) (tyf := tyX7) rfl (by decide) kiX7 tyX7_ok nmX7 kw_6_5 rfl rfl <|
  s_aload_n dX7_keepLine_45 rfl <|
  s_get dX7_keepLine_46 (ci := 7) (sl := 0) (Cn := RX7) (Tf := TX7) (N := 12) rfl (by decide) kiX7 kw_6_0 <|
  s_iload_n dX7_keepLine_49 rfl <|
  s_aald dX7_keepLine_50 <|
  s_push1 dX7_keepLine_51 (by decide) (by decide) <|
  s_aload_n dX7_keepLine_52 rfl <|
  s_get dX7_keepLine_53 (ci := 7) (sl := 1) (Cn := RX7) (Tf := TX7) (N := 12) rfl (by decide) kiX7 kw_6_1 <|
  s_aload_n dX7_keepLine_56 rfl <|
  s_get dX7_keepLine_57 (ci := 7) (sl := 6) (Cn := RX7) (Tf := TX7) (N := 12) rfl (by decide) kiX7 kw_6_6 <|
  s_aald dX7_keepLine_60 <|
  s_push1 dX7_keepLine_61 (by decide) (by decide) <|
  s_aload_n dX7_keepLine_62 rfl <|
  s_get dX7_keepLine_63 (ci := 7) (sl := 7) (Cn := RX7) (Tf := TX7) (N := 12) rfl (by decide) kiX7 kw_6_7 <|
  s_copyF dX7_keepLine_66 kw_18_11 kw_acn kw_acs kw_aci (by decide) (by decide) (by decide) <|
  s_aload_n dX7_keepLine_69 rfl <|
  s_dup dX7_keepLine_70 <|
  s_get dX7_keepLine_71 (ci := 7) (sl := 6) (Cn := RX7) (Tf := TX7) (N := 12) rfl (by decide) kiX7 kw_6_6 <|
  s_push1 dX7_keepLine_74 (by decide) (by decide) <|
  s_iadd dX7_keepLine_75 <|
  s_puti dX7_keepLine_76 (ci := 7) (sl := 6) (Cn := RX7) (Tf := TX7) (N := 12) (tyf := tyX7) rfl (by decide) kiX7 tyX7_ok nmX7 kw_6_6 rfl rfl <|
  s_X7_keepLineC_79
noncomputable def b_X7_keepLineC_11 : KC := o_aload 0 <| o_get 7 6 <| o_aload 0 <| o_get 7 7 <| o_c2 s_lt (b_X7_keepLineC_22) (b_X7_keepLineC_79)
set_option maxRecDepth 100000 in
theorem s_X7_keepLineC_11 {l : Launch} {D : va_G} {cI cS cM : ClassId} : KS l D cI cS cM yX7_keepLine.cls yX7_keepLine.name cX7_keepLine 2 none (k_rm 2 0 0) false 11 0 (b_X7_keepLineC_11) :=
  s_aload_n dX7_keepLine_11 rfl <|
  s_get dX7_keepLine_12 (ci := 7) (sl := 6) (Cn := RX7) (Tf := TX7) (N := 12) rfl (by decide) kiX7 kw_6_6 <|
  s_aload_n dX7_keepLine_15 rfl <|
  s_get dX7_keepLine_16 (ci := 7) (sl := 7) (Cn := RX7) (Tf := TX7) (N := 12) rfl (by decide) kiX7 kw_6_7 <|
  s_icmp_ge dX7_keepLine_19 (by decide) (s_X7_keepLineC_79) (s_X7_keepLineC_22)
noncomputable def b_X7_keepLineC_0 : KC := o_aload 0 <| o_get 7 5 <| o_aload 0 <| o_get 7 7 <| o_c2 s_lt (b_X7_keepLineC_11) (b_X7_keepLineC_79)
set_option maxRecDepth 100000 in
theorem s_X7_keepLineC_0 {l : Launch} {D : va_G} {cI cS cM : ClassId} : KS l D cI cS cM yX7_keepLine.cls yX7_keepLine.name cX7_keepLine 2 none (k_rm 2 0 0) false 0 0 (b_X7_keepLineC_0) :=
  s_aload_n dX7_keepLine_0 rfl <|
  s_get dX7_keepLine_1 (ci := 7) (sl := 5) (Cn := RX7) (Tf := TX7) (N := 12) rfl (by decide) kiX7 kw_6_5 <|
  s_aload_n dX7_keepLine_4 rfl <|
  s_get dX7_keepLine_5 (ci := 7) (sl := 7) (Cn := RX7) (Tf := TX7) (N := 12) rfl (by decide) kiX7 kw_6_7 <|
  s_icmp_ge dX7_keepLine_8 (by decide) (s_X7_keepLineC_79) (s_X7_keepLineC_11)
noncomputable def m_X7_keepLineC : KF := k_fun [] (b_X7_keepLineC_0)
theorem r_X7_keepLineC {l : Launch} {D : va_G} {cI cS cM : ClassId} : k_snd l D cI cS cM yX7_keepLine cX7_keepLine 2 none 2 2 (m_X7_keepLineC) :=
  k_method (by decide +kernel) (by simp) rfl (s_X7_keepLineC_0)
