noncomputable def b_X9_clear_0 : KC := o_aload 0 <| o_get 9 32 <| o_istore 1 <| o_aload 0 <| o_push 0 <| o_puti 9 32 <| o_iload 1 <| o_iret
set_option maxRecDepth 100000 in
theorem s_X9_clear_0 {l : Launch} {D : va_G} {cI cS cM : ClassId} : KS l D cI cS cM yX9_clear.cls yX9_clear.name cX9_clear 2 (some .int) (k_rm 1 0 0) false 0 0 (b_X9_clear_0) :=
  s_aload_n dX9_clear_0 rfl <|
  s_get dX9_clear_1 (ci := 9) (sl := 32) (Cn := RX9) (Tf := TX9) (N := 40) rfl (by decide) kiX9 kw_35_11 <|
  s_istore_n dX9_clear_4 rfl (by decide) <|
  s_aload_n dX9_clear_5 rfl <|
  s_push1 dX9_clear_6 (by decide) (by decide) <|
  s_puti dX9_clear_7 (ci := 9) (sl := 32) (Cn := RX9) (Tf := TX9) (N := 40) (tyf := tyX9) rfl (by decide) kiX9 tyX9_ok nmX9 kw_35_11 rfl rfl <|
  s_iload_n dX9_clear_10 rfl <|
  s_ireturn dX9_clear_11 rfl
noncomputable def m_X9_clear : KF := k_fun [k_u] (b_X9_clear_0)
theorem r_X9_clear {l : Launch} {D : va_G} {cI cS cM : ClassId} : k_snd l D cI cS cM yX9_clear cX9_clear 2 (some .int) 1 1 (m_X9_clear) :=
  k_method (by decide +kernel) (by simp) rfl (s_X9_clear_0)
noncomputable def b_X9_common_21 (J : List KC) : KC := o_iload 2 <| o_iret
set_option maxRecDepth 100000 in
theorem s_X9_common_21 {l : Launch} {D : va_G} {cI cS cM : ClassId} {J : List KC} (hJ : ∀ (i pc d : Nat), ([(4, 0)] : List (Nat × Nat))[i]? = some (pc, d) → KS l D cI cS cM yX9_common.cls yX9_common.name cX9_common 5 (some .int) (k_rm 1 0 0) false pc d (k_jmp J i)) : KS l D cI cS cM yX9_common.cls yX9_common.name cX9_common 5 (some .int) (k_rm 1 0 0) false 21 0 (b_X9_common_21 J) :=
  s_iload_n dX9_common_21 rfl <|
  s_ireturn dX9_common_22 rfl
noncomputable def b_X9_common_8 (J : List KC) : KC := o_iload 2 <| o_iload 3 <| o_div n_rem <| o_istore 4 <| o_iload 3 <| o_istore 2 <| o_iload 4 <| o_istore 3 <| k_jmp J 0
set_option maxRecDepth 100000 in
theorem s_X9_common_8 {l : Launch} {D : va_G} {cI cS cM : ClassId} {J : List KC} (hJ : ∀ (i pc d : Nat), ([(4, 0)] : List (Nat × Nat))[i]? = some (pc, d) → KS l D cI cS cM yX9_common.cls yX9_common.name cX9_common 5 (some .int) (k_rm 1 0 0) false pc d (k_jmp J i)) : KS l D cI cS cM yX9_common.cls yX9_common.name cX9_common 5 (some .int) (k_rm 1 0 0) false 8 0 (b_X9_common_8 J) :=
  s_iload_n dX9_common_8 rfl <|
  s_iload_n dX9_common_9 rfl <|
  s_irem dX9_common_10 <|
  s_istore dX9_common_11 (by decide) <|
  s_iload_n dX9_common_13 rfl <|
  s_istore_n dX9_common_14 rfl (by decide) <|
  s_iload dX9_common_15 <|
  s_istore_n dX9_common_17 rfl (by decide) <|
  s_goto dX9_common_18 (by decide) (hJ 0 _ _ rfl)
noncomputable def b_X9_common_4 (J : List KC) : KC := o_iload 3 <| o_c1 g_eq (b_X9_common_21 J) (b_X9_common_8 J)
set_option maxRecDepth 100000 in
theorem s_X9_common_4 {l : Launch} {D : va_G} {cI cS cM : ClassId} {J : List KC} (hJ : ∀ (i pc d : Nat), ([(4, 0)] : List (Nat × Nat))[i]? = some (pc, d) → KS l D cI cS cM yX9_common.cls yX9_common.name cX9_common 5 (some .int) (k_rm 1 0 0) false pc d (k_jmp J i)) : KS l D cI cS cM yX9_common.cls yX9_common.name cX9_common 5 (some .int) (k_rm 1 0 0) false 4 0 (b_X9_common_4 J) :=
  s_iload_n dX9_common_4 rfl <|
  s_if_eq dX9_common_5 (by decide) (s_X9_common_21 hJ) (s_X9_common_8 hJ)
noncomputable def b_X9_common_0 (J : List KC) : KC := o_iload 0 <| o_istore 2 <| o_iload 1 <| o_istore 3 <| b_X9_common_4 J
set_option maxRecDepth 100000 in
theorem s_X9_common_0 {l : Launch} {D : va_G} {cI cS cM : ClassId} {J : List KC} (hJ : ∀ (i pc d : Nat), ([(4, 0)] : List (Nat × Nat))[i]? = some (pc, d) → KS l D cI cS cM yX9_common.cls yX9_common.name cX9_common 5 (some .int) (k_rm 1 0 0) false pc d (k_jmp J i)) : KS l D cI cS cM yX9_common.cls yX9_common.name cX9_common 5 (some .int) (k_rm 1 0 0) false 0 0 (b_X9_common_0 J) :=
  s_iload_n dX9_common_0 rfl <|
  s_istore_n dX9_common_1 rfl (by decide) <|
  s_iload_n dX9_common_2 rfl <|
  s_istore_n dX9_common_3 rfl (by decide) <|
  s_X9_common_4 hJ
noncomputable def j_X9_common (J : List KC) : List KC := [b_X9_common_4 J]
noncomputable def m_X9_common (n : Nat) : KF := k_fun [k_u, k_u, k_u] (b_X9_common_0 (k_loop (j_X9_common) n))
theorem r_X9_common {l : Launch} {D : va_G} {cI cS cM : ClassId} (n : Nat) : k_snd l D cI cS cM yX9_common cX9_common 5 (some .int) 1 2 (m_X9_common n) :=
  k_method (by decide +kernel) (by simp) rfl (s_X9_common_0 (k_loops (hs := [(4, 0)]) (fun J hJ i pc d h => match i, h with | 0, h => by cases h; exact s_X9_common_4 hJ | _ + 1, h => by simp at h) n))
noncomputable def b_X9_exchange_154 (J : List KC) : KC := o_ret
set_option maxRecDepth 100000 in
theorem s_X9_exchange_154 {l : Launch} {D : va_G} {cI cS cM : ClassId} {J : List KC} (hJ : ∀ (i pc d : Nat), ([(32, 0)] : List (Nat × Nat))[i]? = some (pc, d) → KS l D cI cS cM yX9_exchange.cls yX9_exchange.name cX9_exchange 6 none (k_rm 1 0 0) false pc d (k_jmp J i)) : KS l D cI cS cM yX9_exchange.cls yX9_exchange.name cX9_exchange 6 none (k_rm 1 0 0) false 154 0 (b_X9_exchange_154 J) :=
  s_return dX9_exchange_154 rfl
noncomputable def b_X9_exchange_40 (J : List KC) : KC := o_aload 0 <| o_get 9 29 <| o_push 8 <| o_iload 1 <| o_bin n_mul <| o_iload 3 <| o_bin n_add <| o_iald <| o_istore 4 <| o_aload 0 <| o_get 9 29 <| o_push 8 <| o_iload 1 <| o_bin n_mul <| o_iload 3 <| o_bin n_add <| o_aload 0 <| o_get 9 29 <| o_push 8 <| o_iload 1 <| o_bin n_mul <| o_push 8 <| o_bin n_sub <| o_iload 3 <| o_bin n_add <| o_iald <| o_iast <| o_aload 0 <| o_get 9 29 <| o_push 8 <| o_iload 1 <| o_bin n_mul <| o_push 8 <| o_bin n_sub <| o_iload 3 <| o_bin n_add <| o_iload 4 <| o_iast <| o_aload 0 <| o_get 9 27 <| o_push 8 <| o_iload 1 <| o_bin n_mul <| o_iload 3 <| o_bin n_add <| o_iald <| o_istore 5 <| o_aload 0 <| o_get 9 27 <| o_push 8 <| o_iload 1 <| o_bin n_mul <| o_iload 3 <| o_bin n_add <| o_aload 0 <| o_get 9 27 <| o_push 8 <| o_iload 1 <| o_bin n_mul <| o_push 8 <| o_bin n_sub <| o_iload 3 <| o_bin n_add <| o_iald <| o_iast <| o_aload 0 <| o_get 9 27 <| o_push 8 <| o_iload 1 <| o_bin n_mul <| o_push 8 <| o_bin n_sub <| o_iload 3 <| o_bin n_add <| o_iload 5 <| o_iast <| o_iinc 3 1 <| k_jmp J 0
set_option maxRecDepth 100000 in
theorem s_X9_exchange_40 {l : Launch} {D : va_G} {cI cS cM : ClassId} {J : List KC} (hJ : ∀ (i pc d : Nat), ([(32, 0)] : List (Nat × Nat))[i]? = some (pc, d) → KS l D cI cS cM yX9_exchange.cls yX9_exchange.name cX9_exchange 6 none (k_rm 1 0 0) false pc d (k_jmp J i)) : KS l D cI cS cM yX9_exchange.cls yX9_exchange.name cX9_exchange 6 none (k_rm 1 0 0) false 40 0 (b_X9_exchange_40 J) :=
  s_aload_n dX9_exchange_40 rfl <|
  s_get dX9_exchange_41 (ci := 9) (sl := 29) (Cn := RX9) (Tf := TX9) (N := 40) rfl (by decide) kiX9 kw_7_12 <|
  s_push2 dX9_exchange_44 (by decide) (by decide) <|
  s_iload_n dX9_exchange_46 rfl <|
  s_imul dX9_exchange_47 <|
  s_iload_n dX9_exchange_48 rfl <|
  s_iadd dX9_exchange_49 <|
  s_iald dX9_exchange_50 <|
  s_istore dX9_exchange_51 (by decide) <|
  s_aload_n dX9_exchange_53 rfl <|
  s_get dX9_exchange_54 (ci := 9) (sl := 29) (Cn := RX9) (Tf := TX9) (N := 40) rfl (by decide) kiX9 kw_7_12 <|
  s_push2 dX9_exchange_57 (by decide) (by decide) <|
  s_iload_n dX9_exchange_59 rfl <|
  s_imul dX9_exchange_60 <|
  s_iload_n dX9_exchange_61 rfl <|
  s_iadd dX9_exchange_62 <|
  s_aload_n dX9_exchange_63 rfl <|
  s_get dX9_exchange_64 (ci := 9) (sl := 29) (Cn := RX9) (Tf := TX9) (N := 40) rfl (by decide) kiX9 kw_7_12 <|
  s_push2 dX9_exchange_67 (by decide) (by decide) <|
  s_iload_n dX9_exchange_69 rfl <|
  s_imul dX9_exchange_70 <|
  s_push2 dX9_exchange_71 (by decide) (by decide) <|
  s_isub dX9_exchange_73 <|
  s_iload_n dX9_exchange_74 rfl <|
  s_iadd dX9_exchange_75 <|
  s_iald dX9_exchange_76 <|
  s_iast dX9_exchange_77 <|
  s_aload_n dX9_exchange_78 rfl <|
  s_get dX9_exchange_79 (ci := 9) (sl := 29) (Cn := RX9) (Tf := TX9) (N := 40) rfl (by decide) kiX9 kw_7_12 <|
  s_push2 dX9_exchange_82 (by decide) (by decide) <|
  s_iload_n dX9_exchange_84 rfl <|
  s_imul dX9_exchange_85 <|
  s_push2 dX9_exchange_86 (by decide) (by decide) <|
  s_isub dX9_exchange_88 <|
  s_iload_n dX9_exchange_89 rfl <|
  s_iadd dX9_exchange_90 <|
  s_iload dX9_exchange_91 <|
  s_iast dX9_exchange_93 <|
  s_aload_n dX9_exchange_94 rfl <|
  s_get dX9_exchange_95 (ci := 9) (sl := 27) (Cn := RX9) (Tf := TX9) (N := 40) rfl (by decide) kiX9 kw_7_10 <|
  s_push2 dX9_exchange_98 (by decide) (by decide) <|
  s_iload_n dX9_exchange_100 rfl <|
  s_imul dX9_exchange_101 <|
  s_iload_n dX9_exchange_102 rfl <|
  s_iadd dX9_exchange_103 <|
  s_iald dX9_exchange_104 <|
  s_istore dX9_exchange_105 (by decide) <|
  s_aload_n dX9_exchange_107 rfl <|
  s_get dX9_exchange_108 (ci := 9) (sl := 27) (Cn := RX9) (Tf := TX9) (N := 40) rfl (by decide) kiX9 kw_7_10 <|
  s_push2 dX9_exchange_111 (by decide) (by decide) <|
  s_iload_n dX9_exchange_113 rfl <|
  s_imul dX9_exchange_114 <|
  s_iload_n dX9_exchange_115 rfl <|
  s_iadd dX9_exchange_116 <|
  s_aload_n dX9_exchange_117 rfl <|
  s_get dX9_exchange_118 (ci := 9) (sl := 27) (Cn := RX9) (Tf := TX9) (N := 40) rfl (by decide) kiX9 kw_7_10 <|
  s_push2 dX9_exchange_121 (by decide) (by decide) <|
  s_iload_n dX9_exchange_123 rfl <|
  s_imul dX9_exchange_124 <|
  s_push2 dX9_exchange_125 (by decide) (by decide) <|
  s_isub dX9_exchange_127 <|
  s_iload_n dX9_exchange_128 rfl <|
  s_iadd dX9_exchange_129 <|
  s_iald dX9_exchange_130 <|
  s_iast dX9_exchange_131 <|
  s_aload_n dX9_exchange_132 rfl <|
  s_get dX9_exchange_133 (ci := 9) (sl := 27) (Cn := RX9) (Tf := TX9) (N := 40) rfl (by decide) kiX9 kw_7_10 <|
  s_push2 dX9_exchange_136 (by decide) (by decide) <|
  s_iload_n dX9_exchange_138 rfl <|
  s_imul dX9_exchange_139 <|
  s_push2 dX9_exchange_140 (by decide) (by decide) <|
  s_isub dX9_exchange_142 <|
  s_iload_n dX9_exchange_143 rfl <|
  s_iadd dX9_exchange_144 <|
  s_iload dX9_exchange_145 <|
  s_iast dX9_exchange_147 <|
  s_iinc dX9_exchange_148 (by decide) (by decide) <|
  s_goto dX9_exchange_151 (by decide) (hJ 0 _ _ rfl)
noncomputable def b_X9_exchange_32 (J : List KC) : KC := o_iload 3 <| o_aload 0 <| o_get 9 12 <| o_c2 s_lt (b_X9_exchange_40 J) (b_X9_exchange_154 J)
set_option maxRecDepth 100000 in
theorem s_X9_exchange_32 {l : Launch} {D : va_G} {cI cS cM : ClassId} {J : List KC} (hJ : ∀ (i pc d : Nat), ([(32, 0)] : List (Nat × Nat))[i]? = some (pc, d) → KS l D cI cS cM yX9_exchange.cls yX9_exchange.name cX9_exchange 6 none (k_rm 1 0 0) false pc d (k_jmp J i)) : KS l D cI cS cM yX9_exchange.cls yX9_exchange.name cX9_exchange 6 none (k_rm 1 0 0) false 32 0 (b_X9_exchange_32 J) :=
  s_iload_n dX9_exchange_32 rfl <|
  s_aload_n dX9_exchange_33 rfl <|
  s_get dX9_exchange_34 (ci := 9) (sl := 12) (Cn := RX9) (Tf := TX9) (N := 40) rfl (by decide) kiX9 kw_22_14 <|
  s_icmp_ge dX9_exchange_37 (by decide) (s_X9_exchange_154 hJ) (s_X9_exchange_40 hJ)
noncomputable def b_X9_exchange_0 (J : List KC) : KC := o_aload 0 <| o_get 9 28 <| o_iload 1 <| o_iald <| o_istore 2 <| o_aload 0 <| o_get 9 28 <| o_iload 1 <| o_aload 0 <| o_get 9 28 <| o_iload 1 <| o_push 1 <| o_bin n_sub <| o_iald <| o_iast <| o_aload 0 <| o_get 9 28 <| o_iload 1 <| o_push 1 <| o_bin n_sub <| o_iload 2 <| o_iast <| o_push 0 <| o_istore 3 <| b_X9_exchange_32 J
set_option maxRecDepth 100000 in
theorem s_X9_exchange_0 {l : Launch} {D : va_G} {cI cS cM : ClassId} {J : List KC} (hJ : ∀ (i pc d : Nat), ([(32, 0)] : List (Nat × Nat))[i]? = some (pc, d) → KS l D cI cS cM yX9_exchange.cls yX9_exchange.name cX9_exchange 6 none (k_rm 1 0 0) false pc d (k_jmp J i)) : KS l D cI cS cM yX9_exchange.cls yX9_exchange.name cX9_exchange 6 none (k_rm 1 0 0) false 0 0 (b_X9_exchange_0 J) :=
  s_aload_n dX9_exchange_0 rfl <|
  s_get dX9_exchange_1 (ci := 9) (sl := 28) (Cn := RX9) (Tf := TX9) (N := 40) rfl (by decide) kiX9 kw_7_11 <|
  s_iload_n dX9_exchange_4 rfl <|
  s_iald dX9_exchange_5 <|
  s_istore_n dX9_exchange_6 rfl (by decide) <|
  s_aload_n dX9_exchange_7 rfl <|
  s_get dX9_exchange_8 (ci := 9) (sl := 28) (Cn := RX9) (Tf := TX9) (N := 40) rfl (by decide) kiX9 kw_7_11 <|
  s_iload_n dX9_exchange_11 rfl <|
  s_aload_n dX9_exchange_12 rfl <|
  s_get dX9_exchange_13 (ci := 9) (sl := 28) (Cn := RX9) (Tf := TX9) (N := 40) rfl (by decide) kiX9 kw_7_11 <|
  s_iload_n dX9_exchange_16 rfl <|
  s_push1 dX9_exchange_17 (by decide) (by decide) <|
  s_isub dX9_exchange_18 <|
  s_iald dX9_exchange_19 <|
  s_iast dX9_exchange_20 <|
  s_aload_n dX9_exchange_21 rfl <|
  s_get dX9_exchange_22 (ci := 9) (sl := 28) (Cn := RX9) (Tf := TX9) (N := 40) rfl (by decide) kiX9 kw_7_11 <|
  s_iload_n dX9_exchange_25 rfl <|
  s_push1 dX9_exchange_26 (by decide) (by decide) <|
  s_isub dX9_exchange_27 <|
  s_iload_n dX9_exchange_28 rfl <|
  s_iast dX9_exchange_29 <|
  s_push1 dX9_exchange_30 (by decide) (by decide) <|
  s_istore_n dX9_exchange_31 rfl (by decide) <|
  s_X9_exchange_32 hJ
noncomputable def j_X9_exchange (J : List KC) : List KC := [b_X9_exchange_32 J]
noncomputable def m_X9_exchange (n : Nat) : KF := k_fun [k_u, k_u, k_u, k_u] (b_X9_exchange_0 (k_loop (j_X9_exchange) n))
theorem r_X9_exchange {l : Launch} {D : va_G} {cI cS cM : ClassId} (n : Nat) : k_snd l D cI cS cM yX9_exchange cX9_exchange 6 none 1 2 (m_X9_exchange n) :=
  k_method (by decide +kernel) (by simp) rfl (s_X9_exchange_0 (k_loops (hs := [(32, 0)]) (fun J hJ i pc d h => match i, h with | 0, h => by cases h; exact s_X9_exchange_32 hJ | _ + 1, h => by simp at h) n))
noncomputable def b_X9_find_26 (J : List KC) : KC := o_iload 2 <| o_iret
set_option maxRecDepth 100000 in
theorem s_X9_find_26 {l : Launch} {D : va_G} {cI cS cM : ClassId} {J : List KC} (hJ : ∀ (i pc d : Nat), ([(2, 0)] : List (Nat × Nat))[i]? = some (pc, d) → KS l D cI cS cM yX9_find.cls yX9_find.name cX9_find 3 (some .int) (k_rm 1 0 0) false pc d (k_jmp J i)) : KS l D cI cS cM yX9_find.cls yX9_find.name cX9_find 3 (some .int) (k_rm 1 0 0) false 26 0 (b_X9_find_26 J) :=
  s_iload_n dX9_find_26 rfl <|
  s_ireturn dX9_find_27 rfl
noncomputable def b_X9_find_20 (J : List KC) : KC := o_iinc 2 1 <| k_jmp J 0
set_option maxRecDepth 100000 in
theorem s_X9_find_20 {l : Launch} {D : va_G} {cI cS cM : ClassId} {J : List KC} (hJ : ∀ (i pc d : Nat), ([(2, 0)] : List (Nat × Nat))[i]? = some (pc, d) → KS l D cI cS cM yX9_find.cls yX9_find.name cX9_find 3 (some .int) (k_rm 1 0 0) false pc d (k_jmp J i)) : KS l D cI cS cM yX9_find.cls yX9_find.name cX9_find 3 (some .int) (k_rm 1 0 0) false 20 0 (b_X9_find_20 J) :=
  s_iinc dX9_find_20 (by decide) (by decide) <|
  s_goto dX9_find_23 (by decide) (hJ 0 _ _ rfl)
noncomputable def b_X9_find_10 (J : List KC) : KC := o_aload 0 <| o_get 9 7 <| o_iload 2 <| o_iald <| o_iload 1 <| o_c2 Nat.beq (b_X9_find_26 J) (b_X9_find_20 J)
set_option maxRecDepth 100000 in
theorem s_X9_find_10 {l : Launch} {D : va_G} {cI cS cM : ClassId} {J : List KC} (hJ : ∀ (i pc d : Nat), ([(2, 0)] : List (Nat × Nat))[i]? = some (pc, d) → KS l D cI cS cM yX9_find.cls yX9_find.name cX9_find 3 (some .int) (k_rm 1 0 0) false pc d (k_jmp J i)) : KS l D cI cS cM yX9_find.cls yX9_find.name cX9_find 3 (some .int) (k_rm 1 0 0) false 10 0 (b_X9_find_10 J) :=
  s_aload_n dX9_find_10 rfl <|
  s_get dX9_find_11 (ci := 9) (sl := 7) (Cn := RX9) (Tf := TX9) (N := 40) rfl (by decide) kiX9 kw_6_20 <|
  s_iload_n dX9_find_14 rfl <|
  s_iald dX9_find_15 <|
  s_iload_n dX9_find_16 rfl <|
  s_icmp_eq dX9_find_17 (by decide) (s_X9_find_26 hJ) (s_X9_find_20 hJ)
noncomputable def b_X9_find_2 (J : List KC) : KC := o_iload 2 <| o_aload 0 <| o_get 9 6 <| o_c2 s_lt (b_X9_find_10 J) (b_X9_find_26 J)
set_option maxRecDepth 100000 in
theorem s_X9_find_2 {l : Launch} {D : va_G} {cI cS cM : ClassId} {J : List KC} (hJ : ∀ (i pc d : Nat), ([(2, 0)] : List (Nat × Nat))[i]? = some (pc, d) → KS l D cI cS cM yX9_find.cls yX9_find.name cX9_find 3 (some .int) (k_rm 1 0 0) false pc d (k_jmp J i)) : KS l D cI cS cM yX9_find.cls yX9_find.name cX9_find 3 (some .int) (k_rm 1 0 0) false 2 0 (b_X9_find_2 J) :=
  s_iload_n dX9_find_2 rfl <|
  s_aload_n dX9_find_3 rfl <|
  s_get dX9_find_4 (ci := 9) (sl := 6) (Cn := RX9) (Tf := TX9) (N := 40) rfl (by decide) kiX9 kw_22_13 <|
  s_icmp_ge dX9_find_7 (by decide) (s_X9_find_26 hJ) (s_X9_find_10 hJ)
noncomputable def b_X9_find_0 (J : List KC) : KC := o_push 0 <| o_istore 2 <| b_X9_find_2 J
set_option maxRecDepth 100000 in
theorem s_X9_find_0 {l : Launch} {D : va_G} {cI cS cM : ClassId} {J : List KC} (hJ : ∀ (i pc d : Nat), ([(2, 0)] : List (Nat × Nat))[i]? = some (pc, d) → KS l D cI cS cM yX9_find.cls yX9_find.name cX9_find 3 (some .int) (k_rm 1 0 0) false pc d (k_jmp J i)) : KS l D cI cS cM yX9_find.cls yX9_find.name cX9_find 3 (some .int) (k_rm 1 0 0) false 0 0 (b_X9_find_0 J) :=
  s_push1 dX9_find_0 (by decide) (by decide) <|
  s_istore_n dX9_find_1 rfl (by decide) <|
  s_X9_find_2 hJ
noncomputable def j_X9_find (J : List KC) : List KC := [b_X9_find_2 J]
noncomputable def m_X9_find (n : Nat) : KF := k_fun [k_u] (b_X9_find_0 (k_loop (j_X9_find) n))
theorem r_X9_find {l : Launch} {D : va_G} {cI cS cM : ClassId} (n : Nat) : k_snd l D cI cS cM yX9_find cX9_find 3 (some .int) 1 2 (m_X9_find n) :=
  k_method (by decide +kernel) (by simp) rfl (s_X9_find_0 (k_loops (hs := [(2, 0)]) (fun J hJ i pc d h => match i, h with | 0, h => by cases h; exact s_X9_find_2 hJ | _ + 1, h => by simp at h) n))
noncomputable def b_X9_has_14 : KC := o_zret
set_option maxRecDepth 100000 in
theorem s_X9_has_14 {l : Launch} {D : va_G} {cI cS cM : ClassId} : KS l D cI cS cM yX9_has.cls yX9_has.name cX9_has 2 (some .boolean) (k_rm 1 0 0) false 14 1 (b_X9_has_14) :=
  s_zreturn dX9_has_14 rfl
noncomputable def b_X9_has_13 : KC := o_push 0 <| b_X9_has_14
set_option maxRecDepth 100000 in
theorem s_X9_has_13 {l : Launch} {D : va_G} {cI cS cM : ClassId} : KS l D cI cS cM yX9_has.cls yX9_has.name cX9_has 2 (some .boolean) (k_rm 1 0 0) false 13 0 (b_X9_has_13) :=
  s_push1 dX9_has_13 (by decide) (by decide) <|
  s_X9_has_14
noncomputable def b_X9_has_9 : KC := o_push 1 <| b_X9_has_14
set_option maxRecDepth 100000 in
theorem s_X9_has_9 {l : Launch} {D : va_G} {cI cS cM : ClassId} : KS l D cI cS cM yX9_has.cls yX9_has.name cX9_has 2 (some .boolean) (k_rm 1 0 0) false 9 0 (b_X9_has_9) :=
  s_push1 dX9_has_9 (by decide) (by decide) <|
  s_goto dX9_has_10 (by decide) (s_X9_has_14)
noncomputable def b_X9_has_0 : KC := o_iload 0 <| o_iload 1 <| o_shr <| o_push 1 <| o_bin n_and <| o_push 1 <| o_c2 Nat.beq (b_X9_has_9) (b_X9_has_13)
set_option maxRecDepth 100000 in
theorem s_X9_has_0 {l : Launch} {D : va_G} {cI cS cM : ClassId} : KS l D cI cS cM yX9_has.cls yX9_has.name cX9_has 2 (some .boolean) (k_rm 1 0 0) false 0 0 (b_X9_has_0) :=
  s_iload_n dX9_has_0 rfl <|
  s_iload_n dX9_has_1 rfl <|
  s_ishr dX9_has_2 <|
  s_push1 dX9_has_3 (by decide) (by decide) <|
  s_iand dX9_has_4 <|
  s_push1 dX9_has_5 (by decide) (by decide) <|
  s_icmp_ne dX9_has_6 (by decide) (s_X9_has_13) (s_X9_has_9)
noncomputable def m_X9_has : KF := k_fun [] (b_X9_has_0)
theorem r_X9_has {l : Launch} {D : va_G} {cI cS cM : ClassId} : k_snd l D cI cS cM yX9_has cX9_has 2 (some .boolean) 1 2 (m_X9_has) :=
  k_method (by decide +kernel) (by simp) rfl (s_X9_has_0)
noncomputable def b_X9_here_62 (J : List KC) : KC := o_iret
set_option maxRecDepth 100000 in
theorem s_X9_here_62 {l : Launch} {D : va_G} {cI cS cM : ClassId} {J : List KC} (hJ : ∀ (i pc d : Nat), ([(0, 0)] : List (Nat × Nat))[i]? = some (pc, d) → KS l D cI cS cM yX9_here.cls yX9_here.name cX9_here 1 (some .int) (k_rm 1 0 0) false pc d (k_jmp J i)) : KS l D cI cS cM yX9_here.cls yX9_here.name cX9_here 1 (some .int) (k_rm 1 0 0) false 62 1 (b_X9_here_62 J) :=
  s_ireturn dX9_here_62 rfl
noncomputable def b_X9_here_61 (J : List KC) : KC := o_push 4294967295 <| b_X9_here_62 J
set_option maxRecDepth 100000 in
theorem s_X9_here_61 {l : Launch} {D : va_G} {cI cS cM : ClassId} {J : List KC} (hJ : ∀ (i pc d : Nat), ([(0, 0)] : List (Nat × Nat))[i]? = some (pc, d) → KS l D cI cS cM yX9_here.cls yX9_here.name cX9_here 1 (some .int) (k_rm 1 0 0) false pc d (k_jmp J i)) : KS l D cI cS cM yX9_here.cls yX9_here.name cX9_here 1 (some .int) (k_rm 1 0 0) false 61 0 (b_X9_here_61 J) :=
  s_push1 dX9_here_61 (by decide) (by decide) <|
  s_X9_here_62 hJ
noncomputable def b_X9_here_49 (J : List KC) : KC := o_aload 0 <| o_get 9 31 <| o_aload 0 <| o_get 9 33 <| o_iald <| b_X9_here_62 J
set_option maxRecDepth 100000 in
theorem s_X9_here_49 {l : Launch} {D : va_G} {cI cS cM : ClassId} {J : List KC} (hJ : ∀ (i pc d : Nat), ([(0, 0)] : List (Nat × Nat))[i]? = some (pc, d) → KS l D cI cS cM yX9_here.cls yX9_here.name cX9_here 1 (some .int) (k_rm 1 0 0) false pc d (k_jmp J i)) : KS l D cI cS cM yX9_here.cls yX9_here.name cX9_here 1 (some .int) (k_rm 1 0 0) false 49 0 (b_X9_here_49 J) :=
  s_aload_n dX9_here_49 rfl <|
  s_get dX9_here_50 (ci := 9) (sl := 31) (Cn := RX9) (Tf := TX9) (N := 40) rfl (by decide) kiX9 kw_7_14 <|
  s_aload_n dX9_here_53 rfl <|
  s_get dX9_here_54 (ci := 9) (sl := 33) (Cn := RX9) (Tf := TX9) (N := 40) rfl (by decide) kiX9 kw_37_15 <|
  s_iald dX9_here_57 <|
  s_goto dX9_here_58 (by decide) (s_X9_here_62 hJ)
noncomputable def b_X9_here_38 (J : List KC) : KC := o_aload 0 <| o_get 9 33 <| o_aload 0 <| o_get 9 32 <| o_c2 s_lt (b_X9_here_49 J) (b_X9_here_61 J)
set_option maxRecDepth 100000 in
theorem s_X9_here_38 {l : Launch} {D : va_G} {cI cS cM : ClassId} {J : List KC} (hJ : ∀ (i pc d : Nat), ([(0, 0)] : List (Nat × Nat))[i]? = some (pc, d) → KS l D cI cS cM yX9_here.cls yX9_here.name cX9_here 1 (some .int) (k_rm 1 0 0) false pc d (k_jmp J i)) : KS l D cI cS cM yX9_here.cls yX9_here.name cX9_here 1 (some .int) (k_rm 1 0 0) false 38 0 (b_X9_here_38 J) :=
  s_aload_n dX9_here_38 rfl <|
  s_get dX9_here_39 (ci := 9) (sl := 33) (Cn := RX9) (Tf := TX9) (N := 40) rfl (by decide) kiX9 kw_37_15 <|
  s_aload_n dX9_here_42 rfl <|
  s_get dX9_here_43 (ci := 9) (sl := 32) (Cn := RX9) (Tf := TX9) (N := 40) rfl (by decide) kiX9 kw_35_11 <|
  s_icmp_ge dX9_here_46 (by decide) (s_X9_here_61 hJ) (s_X9_here_49 hJ)
noncomputable def b_X9_here_25 (J : List KC) : KC := o_aload 0 <| o_dup <| o_get 9 33 <| o_push 1 <| o_bin n_add <| o_puti 9 33 <| k_jmp J 0
set_option maxRecDepth 100000 in
theorem s_X9_here_25 {l : Launch} {D : va_G} {cI cS cM : ClassId} {J : List KC} (hJ : ∀ (i pc d : Nat), ([(0, 0)] : List (Nat × Nat))[i]? = some (pc, d) → KS l D cI cS cM yX9_here.cls yX9_here.name cX9_here 1 (some .int) (k_rm 1 0 0) false pc d (k_jmp J i)) : KS l D cI cS cM yX9_here.cls yX9_here.name cX9_here 1 (some .int) (k_rm 1 0 0) false 25 0 (b_X9_here_25 J) :=
  s_aload_n dX9_here_25 rfl <|
  s_dup dX9_here_26 <|
  s_get dX9_here_27 (ci := 9) (sl := 33) (Cn := RX9) (Tf := TX9) (N := 40) rfl (by decide) kiX9 kw_37_15 <|
  s_push1 dX9_here_30 (by decide) (by decide) <|
  s_iadd dX9_here_31 <|
  s_puti dX9_here_32 (ci := 9) (sl := 33) (Cn := RX9) (Tf := TX9) (N := 40) (tyf := tyX9) rfl (by decide) kiX9 tyX9_ok nmX9 kw_37_15 rfl rfl <|
  s_goto dX9_here_35 (by decide) (hJ 0 _ _ rfl)
noncomputable def b_X9_here_11 (J : List KC) : KC := o_aload 0 <| o_get 9 31 <| o_aload 0 <| o_get 9 33 <| o_iald <| o_push 32 <| o_c2 Nat.beq (b_X9_here_25 J) (b_X9_here_38 J)
set_option maxRecDepth 100000 in
theorem s_X9_here_11 {l : Launch} {D : va_G} {cI cS cM : ClassId} {J : List KC} (hJ : ∀ (i pc d : Nat), ([(0, 0)] : List (Nat × Nat))[i]? = some (pc, d) → KS l D cI cS cM yX9_here.cls yX9_here.name cX9_here 1 (some .int) (k_rm 1 0 0) false pc d (k_jmp J i)) : KS l D cI cS cM yX9_here.cls yX9_here.name cX9_here 1 (some .int) (k_rm 1 0 0) false 11 0 (b_X9_here_11 J) :=
  s_aload_n dX9_here_11 rfl <|
  s_get dX9_here_12 (ci := 9) (sl := 31) (Cn := RX9) (Tf := TX9) (N := 40) rfl (by decide) kiX9 kw_7_14 <|
  s_aload_n dX9_here_15 rfl <|
  s_get dX9_here_16 (ci := 9) (sl := 33) (Cn := RX9) (Tf := TX9) (N := 40) rfl (by decide) kiX9 kw_37_15 <|
  s_iald dX9_here_19 <|
  s_push2 dX9_here_20 (by decide) (by decide) <|
  s_icmp_ne dX9_here_22 (by decide) (s_X9_here_38 hJ) (s_X9_here_25 hJ)
noncomputable def b_X9_here_0 (J : List KC) : KC := o_aload 0 <| o_get 9 33 <| o_aload 0 <| o_get 9 32 <| o_c2 s_lt (b_X9_here_11 J) (b_X9_here_38 J)
set_option maxRecDepth 100000 in
theorem s_X9_here_0 {l : Launch} {D : va_G} {cI cS cM : ClassId} {J : List KC} (hJ : ∀ (i pc d : Nat), ([(0, 0)] : List (Nat × Nat))[i]? = some (pc, d) → KS l D cI cS cM yX9_here.cls yX9_here.name cX9_here 1 (some .int) (k_rm 1 0 0) false pc d (k_jmp J i)) : KS l D cI cS cM yX9_here.cls yX9_here.name cX9_here 1 (some .int) (k_rm 1 0 0) false 0 0 (b_X9_here_0 J) :=
  s_aload_n dX9_here_0 rfl <|
  s_get dX9_here_1 (ci := 9) (sl := 33) (Cn := RX9) (Tf := TX9) (N := 40) rfl (by decide) kiX9 kw_37_15 <|
  s_aload_n dX9_here_4 rfl <|
  s_get dX9_here_5 (ci := 9) (sl := 32) (Cn := RX9) (Tf := TX9) (N := 40) rfl (by decide) kiX9 kw_35_11 <|
  s_icmp_ge dX9_here_8 (by decide) (s_X9_here_38 hJ) (s_X9_here_11 hJ)
noncomputable def j_X9_here (J : List KC) : List KC := [b_X9_here_0 J]
noncomputable def m_X9_here (n : Nat) : KF := k_fun [] (b_X9_here_0 (k_loop (j_X9_here) n))
theorem r_X9_here {l : Launch} {D : va_G} {cI cS cM : ClassId} (n : Nat) : k_snd l D cI cS cM yX9_here cX9_here 1 (some .int) 1 1 (m_X9_here n) :=
  k_method (by decide +kernel) (by simp) rfl (s_X9_here_0 (k_loops (hs := [(0, 0)]) (fun J hJ i pc d h => match i, h with | 0, h => by cases h; exact s_X9_here_0 hJ | _ + 1, h => by simp at h) n))
noncomputable def b_X9_hold_25 (J : List KC) : KC := o_ret
set_option maxRecDepth 100000 in
theorem s_X9_hold_25 {l : Launch} {D : va_G} {cI cS cM : ClassId} {J : List KC} (hJ : ∀ (i pc d : Nat), ([(2, 0)] : List (Nat × Nat))[i]? = some (pc, d) → KS l D cI cS cM yX9_hold.cls yX9_hold.name cX9_hold 2 none (k_rm 1 0 0) false pc d (k_jmp J i)) : KS l D cI cS cM yX9_hold.cls yX9_hold.name cX9_hold 2 none (k_rm 1 0 0) false 25 0 (b_X9_hold_25 J) :=
  s_return dX9_hold_25 rfl
noncomputable def b_X9_hold_7 (J : List KC) : KC := o_aload 0 <| o_get 9 1 <| o_iload 1 <| o_aload 0 <| o_get 9 0 <| o_iload 1 <| o_iald <| o_iast <| o_iinc 1 1 <| k_jmp J 0
set_option maxRecDepth 100000 in
theorem s_X9_hold_7 {l : Launch} {D : va_G} {cI cS cM : ClassId} {J : List KC} (hJ : ∀ (i pc d : Nat), ([(2, 0)] : List (Nat × Nat))[i]? = some (pc, d) → KS l D cI cS cM yX9_hold.cls yX9_hold.name cX9_hold 2 none (k_rm 1 0 0) false pc d (k_jmp J i)) : KS l D cI cS cM yX9_hold.cls yX9_hold.name cX9_hold 2 none (k_rm 1 0 0) false 7 0 (b_X9_hold_7 J) :=
  s_aload_n dX9_hold_7 rfl <|
  s_get dX9_hold_8 (ci := 9) (sl := 1) (Cn := RX9) (Tf := TX9) (N := 40) rfl (by decide) kiX9 kw_6_17 <|
  s_iload_n dX9_hold_11 rfl <|
  s_aload_n dX9_hold_12 rfl <|
  s_get dX9_hold_13 (ci := 9) (sl := 0) (Cn := RX9) (Tf := TX9) (N := 40) rfl (by decide) kiX9 kw_6_16 <|
  s_iload_n dX9_hold_16 rfl <|
  s_iald dX9_hold_17 <|
  s_iast dX9_hold_18 <|
  s_iinc dX9_hold_19 (by decide) (by decide) <|
  s_goto dX9_hold_22 (by decide) (hJ 0 _ _ rfl)
noncomputable def b_X9_hold_2 (J : List KC) : KC := o_iload 1 <| o_push 5 <| o_c2 s_lt (b_X9_hold_7 J) (b_X9_hold_25 J)
set_option maxRecDepth 100000 in
theorem s_X9_hold_2 {l : Launch} {D : va_G} {cI cS cM : ClassId} {J : List KC} (hJ : ∀ (i pc d : Nat), ([(2, 0)] : List (Nat × Nat))[i]? = some (pc, d) → KS l D cI cS cM yX9_hold.cls yX9_hold.name cX9_hold 2 none (k_rm 1 0 0) false pc d (k_jmp J i)) : KS l D cI cS cM yX9_hold.cls yX9_hold.name cX9_hold 2 none (k_rm 1 0 0) false 2 0 (b_X9_hold_2 J) :=
  s_iload_n dX9_hold_2 rfl <|
  s_push1 dX9_hold_3 (by decide) (by decide) <|
  s_icmp_ge dX9_hold_4 (by decide) (s_X9_hold_25 hJ) (s_X9_hold_7 hJ)
noncomputable def b_X9_hold_0 (J : List KC) : KC := o_push 0 <| o_istore 1 <| b_X9_hold_2 J
set_option maxRecDepth 100000 in
theorem s_X9_hold_0 {l : Launch} {D : va_G} {cI cS cM : ClassId} {J : List KC} (hJ : ∀ (i pc d : Nat), ([(2, 0)] : List (Nat × Nat))[i]? = some (pc, d) → KS l D cI cS cM yX9_hold.cls yX9_hold.name cX9_hold 2 none (k_rm 1 0 0) false pc d (k_jmp J i)) : KS l D cI cS cM yX9_hold.cls yX9_hold.name cX9_hold 2 none (k_rm 1 0 0) false 0 0 (b_X9_hold_0 J) :=
  s_push1 dX9_hold_0 (by decide) (by decide) <|
  s_istore_n dX9_hold_1 rfl (by decide) <|
  s_X9_hold_2 hJ
noncomputable def j_X9_hold (J : List KC) : List KC := [b_X9_hold_2 J]
noncomputable def m_X9_hold (n : Nat) : KF := k_fun [k_u] (b_X9_hold_0 (k_loop (j_X9_hold) n))
theorem r_X9_hold {l : Launch} {D : va_G} {cI cS cM : ClassId} (n : Nat) : k_snd l D cI cS cM yX9_hold cX9_hold 2 none 1 1 (m_X9_hold n) :=
  k_method (by decide +kernel) (by simp) rfl (s_X9_hold_0 (k_loops (hs := [(2, 0)]) (fun J hJ i pc d h => match i, h with | 0, h => by cases h; exact s_X9_hold_2 hJ | _ + 1, h => by simp at h) n))
noncomputable def b_X9_in_15 : KC := o_zret
set_option maxRecDepth 100000 in
theorem s_X9_in_15 {l : Launch} {D : va_G} {cI cS cM : ClassId} : KS l D cI cS cM yX9_in.cls yX9_in.name cX9_in 3 (some .boolean) (k_rm 1 0 0) false 15 1 (b_X9_in_15) :=
  s_zreturn dX9_in_15 rfl
noncomputable def b_X9_in_14 : KC := o_push 0 <| b_X9_in_15
set_option maxRecDepth 100000 in
theorem s_X9_in_14 {l : Launch} {D : va_G} {cI cS cM : ClassId} : KS l D cI cS cM yX9_in.cls yX9_in.name cX9_in 3 (some .boolean) (k_rm 1 0 0) false 14 0 (b_X9_in_14) :=
  s_push1 dX9_in_14 (by decide) (by decide) <|
  s_X9_in_15
noncomputable def b_X9_in_10 : KC := o_push 1 <| b_X9_in_15
set_option maxRecDepth 100000 in
theorem s_X9_in_10 {l : Launch} {D : va_G} {cI cS cM : ClassId} : KS l D cI cS cM yX9_in.cls yX9_in.name cX9_in 3 (some .boolean) (k_rm 1 0 0) false 10 0 (b_X9_in_10) :=
  s_push1 dX9_in_10 (by decide) (by decide) <|
  s_goto dX9_in_11 (by decide) (s_X9_in_15)
noncomputable def b_X9_in_5 : KC := o_iload 0 <| o_iload 2 <| o_c2 s_gt (b_X9_in_14) (b_X9_in_10)
set_option maxRecDepth 100000 in
theorem s_X9_in_5 {l : Launch} {D : va_G} {cI cS cM : ClassId} : KS l D cI cS cM yX9_in.cls yX9_in.name cX9_in 3 (some .boolean) (k_rm 1 0 0) false 5 0 (b_X9_in_5) :=
  s_iload_n dX9_in_5 rfl <|
  s_iload_n dX9_in_6 rfl <|
  s_icmp_gt dX9_in_7 (by decide) (s_X9_in_14) (s_X9_in_10)
noncomputable def b_X9_in_0 : KC := o_iload 0 <| o_iload 1 <| o_c2 s_lt (b_X9_in_14) (b_X9_in_5)
set_option maxRecDepth 100000 in
theorem s_X9_in_0 {l : Launch} {D : va_G} {cI cS cM : ClassId} : KS l D cI cS cM yX9_in.cls yX9_in.name cX9_in 3 (some .boolean) (k_rm 1 0 0) false 0 0 (b_X9_in_0) :=
  s_iload_n dX9_in_0 rfl <|
  s_iload_n dX9_in_1 rfl <|
  s_icmp_lt dX9_in_2 (by decide) (s_X9_in_14) (s_X9_in_5)
noncomputable def m_X9_in : KF := k_fun [] (b_X9_in_0)
theorem r_X9_in {l : Launch} {D : va_G} {cI cS cM : ClassId} : k_snd l D cI cS cM yX9_in cX9_in 3 (some .boolean) 1 3 (m_X9_in) :=
  k_method (by decide +kernel) (by simp) rfl (s_X9_in_0)
noncomputable def b_X9_isAhead_115 (J : List KC) : KC := o_zret
set_option maxRecDepth 100000 in
theorem s_X9_isAhead_115 {l : Launch} {D : va_G} {cI cS cM : ClassId} {J : List KC} (hJ : ∀ (i pc d : Nat), ([(38, 0)] : List (Nat × Nat))[i]? = some (pc, d) → KS l D cI cS cM yX9_isAhead.cls yX9_isAhead.name cX9_isAhead 4 (some .boolean) (k_rm 1 0 0) false pc d (k_jmp J i)) : KS l D cI cS cM yX9_isAhead.cls yX9_isAhead.name cX9_isAhead 4 (some .boolean) (k_rm 1 0 0) false 115 1 (b_X9_isAhead_115 J) :=
  s_zreturn dX9_isAhead_115 rfl
noncomputable def b_X9_isAhead_114 (J : List KC) : KC := o_push 0 <| b_X9_isAhead_115 J
set_option maxRecDepth 100000 in
theorem s_X9_isAhead_114 {l : Launch} {D : va_G} {cI cS cM : ClassId} {J : List KC} (hJ : ∀ (i pc d : Nat), ([(38, 0)] : List (Nat × Nat))[i]? = some (pc, d) → KS l D cI cS cM yX9_isAhead.cls yX9_isAhead.name cX9_isAhead 4 (some .boolean) (k_rm 1 0 0) false pc d (k_jmp J i)) : KS l D cI cS cM yX9_isAhead.cls yX9_isAhead.name cX9_isAhead 4 (some .boolean) (k_rm 1 0 0) false 114 0 (b_X9_isAhead_114 J) :=
  s_push1 dX9_isAhead_114 (by decide) (by decide) <|
  s_X9_isAhead_115 hJ
noncomputable def b_X9_isAhead_110 (J : List KC) : KC := o_push 1 <| b_X9_isAhead_115 J
set_option maxRecDepth 100000 in
theorem s_X9_isAhead_110 {l : Launch} {D : va_G} {cI cS cM : ClassId} {J : List KC} (hJ : ∀ (i pc d : Nat), ([(38, 0)] : List (Nat × Nat))[i]? = some (pc, d) → KS l D cI cS cM yX9_isAhead.cls yX9_isAhead.name cX9_isAhead 4 (some .boolean) (k_rm 1 0 0) false pc d (k_jmp J i)) : KS l D cI cS cM yX9_isAhead.cls yX9_isAhead.name cX9_isAhead 4 (some .boolean) (k_rm 1 0 0) false 110 0 (b_X9_isAhead_110 J) :=
  s_push1 dX9_isAhead_110 (by decide) (by decide) <|
  s_goto dX9_isAhead_111 (by decide) (s_X9_isAhead_115 hJ)
noncomputable def b_X9_isAhead_85 (J : List KC) : KC := o_aload 0 <| o_get 9 29 <| o_push 8 <| o_iload 1 <| o_bin n_mul <| o_iload 3 <| o_bin n_add <| o_iald <| o_aload 0 <| o_get 9 29 <| o_push 8 <| o_iload 2 <| o_bin n_mul <| o_iload 3 <| o_bin n_add <| o_iald <| o_c2 s_lt (b_X9_isAhead_110 J) (b_X9_isAhead_114 J)
set_option maxRecDepth 100000 in
theorem s_X9_isAhead_85 {l : Launch} {D : va_G} {cI cS cM : ClassId} {J : List KC} (hJ : ∀ (i pc d : Nat), ([(38, 0)] : List (Nat × Nat))[i]? = some (pc, d) → KS l D cI cS cM yX9_isAhead.cls yX9_isAhead.name cX9_isAhead 4 (some .boolean) (k_rm 1 0 0) false pc d (k_jmp J i)) : KS l D cI cS cM yX9_isAhead.cls yX9_isAhead.name cX9_isAhead 4 (some .boolean) (k_rm 1 0 0) false 85 0 (b_X9_isAhead_85 J) :=
  s_aload_n dX9_isAhead_85 rfl <|
  s_get dX9_isAhead_86 (ci := 9) (sl := 29) (Cn := RX9) (Tf := TX9) (N := 40) rfl (by decide) kiX9 kw_7_12 <|
  s_push2 dX9_isAhead_89 (by decide) (by decide) <|
  s_iload_n dX9_isAhead_91 rfl <|
  s_imul dX9_isAhead_92 <|
  s_iload_n dX9_isAhead_93 rfl <|
  s_iadd dX9_isAhead_94 <|
  s_iald dX9_isAhead_95 <|
  s_aload_n dX9_isAhead_96 rfl <|
  s_get dX9_isAhead_97 (ci := 9) (sl := 29) (Cn := RX9) (Tf := TX9) (N := 40) rfl (by decide) kiX9 kw_7_12 <|
  s_push2 dX9_isAhead_100 (by decide) (by decide) <|
  s_iload_n dX9_isAhead_102 rfl <|
  s_imul dX9_isAhead_103 <|
  s_iload_n dX9_isAhead_104 rfl <|
  s_iadd dX9_isAhead_105 <|
  s_iald dX9_isAhead_106 <|
  s_icmp_ge dX9_isAhead_107 (by decide) (s_X9_isAhead_114 hJ) (s_X9_isAhead_110 hJ)
noncomputable def b_X9_isAhead_77 (J : List KC) : KC := o_iload 3 <| o_aload 0 <| o_get 9 12 <| o_c2 s_lt (b_X9_isAhead_85 J) (b_X9_isAhead_114 J)
set_option maxRecDepth 100000 in
theorem s_X9_isAhead_77 {l : Launch} {D : va_G} {cI cS cM : ClassId} {J : List KC} (hJ : ∀ (i pc d : Nat), ([(38, 0)] : List (Nat × Nat))[i]? = some (pc, d) → KS l D cI cS cM yX9_isAhead.cls yX9_isAhead.name cX9_isAhead 4 (some .boolean) (k_rm 1 0 0) false pc d (k_jmp J i)) : KS l D cI cS cM yX9_isAhead.cls yX9_isAhead.name cX9_isAhead 4 (some .boolean) (k_rm 1 0 0) false 77 0 (b_X9_isAhead_77 J) :=
  s_iload_n dX9_isAhead_77 rfl <|
  s_aload_n dX9_isAhead_78 rfl <|
  s_get dX9_isAhead_79 (ci := 9) (sl := 12) (Cn := RX9) (Tf := TX9) (N := 40) rfl (by decide) kiX9 kw_22_14 <|
  s_icmp_ge dX9_isAhead_82 (by decide) (s_X9_isAhead_114 hJ) (s_X9_isAhead_85 hJ)
noncomputable def b_X9_isAhead_71 (J : List KC) : KC := o_iinc 3 1 <| k_jmp J 0
set_option maxRecDepth 100000 in
theorem s_X9_isAhead_71 {l : Launch} {D : va_G} {cI cS cM : ClassId} {J : List KC} (hJ : ∀ (i pc d : Nat), ([(38, 0)] : List (Nat × Nat))[i]? = some (pc, d) → KS l D cI cS cM yX9_isAhead.cls yX9_isAhead.name cX9_isAhead 4 (some .boolean) (k_rm 1 0 0) false pc d (k_jmp J i)) : KS l D cI cS cM yX9_isAhead.cls yX9_isAhead.name cX9_isAhead 4 (some .boolean) (k_rm 1 0 0) false 71 0 (b_X9_isAhead_71 J) :=
  s_iinc dX9_isAhead_71 (by decide) (by decide) <|
  s_goto dX9_isAhead_74 (by decide) (hJ 0 _ _ rfl)
noncomputable def b_X9_isAhead_46 (J : List KC) : KC := o_aload 0 <| o_get 9 29 <| o_push 8 <| o_iload 1 <| o_bin n_mul <| o_iload 3 <| o_bin n_add <| o_iald <| o_aload 0 <| o_get 9 29 <| o_push 8 <| o_iload 2 <| o_bin n_mul <| o_iload 3 <| o_bin n_add <| o_iald <| o_c2 Nat.beq (b_X9_isAhead_71 J) (b_X9_isAhead_77 J)
set_option maxRecDepth 100000 in
theorem s_X9_isAhead_46 {l : Launch} {D : va_G} {cI cS cM : ClassId} {J : List KC} (hJ : ∀ (i pc d : Nat), ([(38, 0)] : List (Nat × Nat))[i]? = some (pc, d) → KS l D cI cS cM yX9_isAhead.cls yX9_isAhead.name cX9_isAhead 4 (some .boolean) (k_rm 1 0 0) false pc d (k_jmp J i)) : KS l D cI cS cM yX9_isAhead.cls yX9_isAhead.name cX9_isAhead 4 (some .boolean) (k_rm 1 0 0) false 46 0 (b_X9_isAhead_46 J) :=
  s_aload_n dX9_isAhead_46 rfl <|
  s_get dX9_isAhead_47 (ci := 9) (sl := 29) (Cn := RX9) (Tf := TX9) (N := 40) rfl (by decide) kiX9 kw_7_12 <|
  s_push2 dX9_isAhead_50 (by decide) (by decide) <|
  s_iload_n dX9_isAhead_52 rfl <|
  s_imul dX9_isAhead_53 <|
  s_iload_n dX9_isAhead_54 rfl <|
  s_iadd dX9_isAhead_55 <|
  s_iald dX9_isAhead_56 <|
  s_aload_n dX9_isAhead_57 rfl <|
  s_get dX9_isAhead_58 (ci := 9) (sl := 29) (Cn := RX9) (Tf := TX9) (N := 40) rfl (by decide) kiX9 kw_7_12 <|
  s_push2 dX9_isAhead_61 (by decide) (by decide) <|
  s_iload_n dX9_isAhead_63 rfl <|
  s_imul dX9_isAhead_64 <|
  s_iload_n dX9_isAhead_65 rfl <|
  s_iadd dX9_isAhead_66 <|
  s_iald dX9_isAhead_67 <|
  s_icmp_ne dX9_isAhead_68 (by decide) (s_X9_isAhead_77 hJ) (s_X9_isAhead_71 hJ)
noncomputable def b_X9_isAhead_38 (J : List KC) : KC := o_iload 3 <| o_aload 0 <| o_get 9 12 <| o_c2 s_lt (b_X9_isAhead_46 J) (b_X9_isAhead_77 J)
set_option maxRecDepth 100000 in
theorem s_X9_isAhead_38 {l : Launch} {D : va_G} {cI cS cM : ClassId} {J : List KC} (hJ : ∀ (i pc d : Nat), ([(38, 0)] : List (Nat × Nat))[i]? = some (pc, d) → KS l D cI cS cM yX9_isAhead.cls yX9_isAhead.name cX9_isAhead 4 (some .boolean) (k_rm 1 0 0) false pc d (k_jmp J i)) : KS l D cI cS cM yX9_isAhead.cls yX9_isAhead.name cX9_isAhead 4 (some .boolean) (k_rm 1 0 0) false 38 0 (b_X9_isAhead_38 J) :=
  s_iload_n dX9_isAhead_38 rfl <|
  s_aload_n dX9_isAhead_39 rfl <|
  s_get dX9_isAhead_40 (ci := 9) (sl := 12) (Cn := RX9) (Tf := TX9) (N := 40) rfl (by decide) kiX9 kw_22_14 <|
  s_icmp_ge dX9_isAhead_43 (by decide) (s_X9_isAhead_77 hJ) (s_X9_isAhead_46 hJ)
noncomputable def b_X9_isAhead_37 (J : List KC) : KC := o_zret
set_option maxRecDepth 100000 in
theorem s_X9_isAhead_37 {l : Launch} {D : va_G} {cI cS cM : ClassId} {J : List KC} (hJ : ∀ (i pc d : Nat), ([(38, 0)] : List (Nat × Nat))[i]? = some (pc, d) → KS l D cI cS cM yX9_isAhead.cls yX9_isAhead.name cX9_isAhead 4 (some .boolean) (k_rm 1 0 0) false pc d (k_jmp J i)) : KS l D cI cS cM yX9_isAhead.cls yX9_isAhead.name cX9_isAhead 4 (some .boolean) (k_rm 1 0 0) false 37 1 (b_X9_isAhead_37 J) :=
  s_zreturn dX9_isAhead_37 rfl
noncomputable def b_X9_isAhead_36 (J : List KC) : KC := o_push 0 <| b_X9_isAhead_37 J
set_option maxRecDepth 100000 in
theorem s_X9_isAhead_36 {l : Launch} {D : va_G} {cI cS cM : ClassId} {J : List KC} (hJ : ∀ (i pc d : Nat), ([(38, 0)] : List (Nat × Nat))[i]? = some (pc, d) → KS l D cI cS cM yX9_isAhead.cls yX9_isAhead.name cX9_isAhead 4 (some .boolean) (k_rm 1 0 0) false pc d (k_jmp J i)) : KS l D cI cS cM yX9_isAhead.cls yX9_isAhead.name cX9_isAhead 4 (some .boolean) (k_rm 1 0 0) false 36 0 (b_X9_isAhead_36 J) :=
  s_push1 dX9_isAhead_36 (by decide) (by decide) <|
  s_X9_isAhead_37 hJ
noncomputable def b_X9_isAhead_32 (J : List KC) : KC := o_push 1 <| b_X9_isAhead_37 J
set_option maxRecDepth 100000 in
theorem s_X9_isAhead_32 {l : Launch} {D : va_G} {cI cS cM : ClassId} {J : List KC} (hJ : ∀ (i pc d : Nat), ([(38, 0)] : List (Nat × Nat))[i]? = some (pc, d) → KS l D cI cS cM yX9_isAhead.cls yX9_isAhead.name cX9_isAhead 4 (some .boolean) (k_rm 1 0 0) false pc d (k_jmp J i)) : KS l D cI cS cM yX9_isAhead.cls yX9_isAhead.name cX9_isAhead 4 (some .boolean) (k_rm 1 0 0) false 32 0 (b_X9_isAhead_32 J) :=
  s_push1 dX9_isAhead_32 (by decide) (by decide) <|
  s_goto dX9_isAhead_33 (by decide) (s_X9_isAhead_37 hJ)
noncomputable def b_X9_isAhead_17 (J : List KC) : KC := o_aload 0 <| o_get 9 28 <| o_iload 1 <| o_iald <| o_aload 0 <| o_get 9 28 <| o_iload 2 <| o_iald <| o_c2 s_lt (b_X9_isAhead_32 J) (b_X9_isAhead_36 J)
set_option maxRecDepth 100000 in
theorem s_X9_isAhead_17 {l : Launch} {D : va_G} {cI cS cM : ClassId} {J : List KC} (hJ : ∀ (i pc d : Nat), ([(38, 0)] : List (Nat × Nat))[i]? = some (pc, d) → KS l D cI cS cM yX9_isAhead.cls yX9_isAhead.name cX9_isAhead 4 (some .boolean) (k_rm 1 0 0) false pc d (k_jmp J i)) : KS l D cI cS cM yX9_isAhead.cls yX9_isAhead.name cX9_isAhead 4 (some .boolean) (k_rm 1 0 0) false 17 0 (b_X9_isAhead_17 J) :=
  s_aload_n dX9_isAhead_17 rfl <|
  s_get dX9_isAhead_18 (ci := 9) (sl := 28) (Cn := RX9) (Tf := TX9) (N := 40) rfl (by decide) kiX9 kw_7_11 <|
  s_iload_n dX9_isAhead_21 rfl <|
  s_iald dX9_isAhead_22 <|
  s_aload_n dX9_isAhead_23 rfl <|
  s_get dX9_isAhead_24 (ci := 9) (sl := 28) (Cn := RX9) (Tf := TX9) (N := 40) rfl (by decide) kiX9 kw_7_11 <|
  s_iload_n dX9_isAhead_27 rfl <|
  s_iald dX9_isAhead_28 <|
  s_icmp_ge dX9_isAhead_29 (by decide) (s_X9_isAhead_36 hJ) (s_X9_isAhead_32 hJ)
noncomputable def b_X9_isAhead_0 (J : List KC) : KC := o_push 1 <| o_istore 3 <| o_aload 0 <| o_get 9 28 <| o_iload 1 <| o_iald <| o_aload 0 <| o_get 9 28 <| o_iload 2 <| o_iald <| o_c2 Nat.beq (b_X9_isAhead_38 J) (b_X9_isAhead_17 J)
set_option maxRecDepth 100000 in
theorem s_X9_isAhead_0 {l : Launch} {D : va_G} {cI cS cM : ClassId} {J : List KC} (hJ : ∀ (i pc d : Nat), ([(38, 0)] : List (Nat × Nat))[i]? = some (pc, d) → KS l D cI cS cM yX9_isAhead.cls yX9_isAhead.name cX9_isAhead 4 (some .boolean) (k_rm 1 0 0) false pc d (k_jmp J i)) : KS l D cI cS cM yX9_isAhead.cls yX9_isAhead.name cX9_isAhead 4 (some .boolean) (k_rm 1 0 0) false 0 0 (b_X9_isAhead_0 J) :=
  s_push1 dX9_isAhead_0 (by decide) (by decide) <|
  s_istore_n dX9_isAhead_1 rfl (by decide) <|
  s_aload_n dX9_isAhead_2 rfl <|
  s_get dX9_isAhead_3 (ci := 9) (sl := 28) (Cn := RX9) (Tf := TX9) (N := 40) rfl (by decide) kiX9 kw_7_11 <|
  s_iload_n dX9_isAhead_6 rfl <|
  s_iald dX9_isAhead_7 <|
  s_aload_n dX9_isAhead_8 rfl <|
  s_get dX9_isAhead_9 (ci := 9) (sl := 28) (Cn := RX9) (Tf := TX9) (N := 40) rfl (by decide) kiX9 kw_7_11 <|
  s_iload_n dX9_isAhead_12 rfl <|
  s_iald dX9_isAhead_13 <|
  s_icmp_eq dX9_isAhead_14 (by decide) (s_X9_isAhead_38 hJ) (s_X9_isAhead_17 hJ)
noncomputable def j_X9_isAhead (J : List KC) : List KC := [b_X9_isAhead_38 J]
noncomputable def m_X9_isAhead (n : Nat) : KF := k_fun [k_u] (b_X9_isAhead_0 (k_loop (j_X9_isAhead) n))
theorem r_X9_isAhead {l : Launch} {D : va_G} {cI cS cM : ClassId} (n : Nat) : k_snd l D cI cS cM yX9_isAhead cX9_isAhead 4 (some .boolean) 1 3 (m_X9_isAhead n) :=
  k_method (by decide +kernel) (by simp) rfl (s_X9_isAhead_0 (k_loops (hs := [(38, 0)]) (fun J hJ i pc d h => match i, h with | 0, h => by cases h; exact s_X9_isAhead_38 hJ | _ + 1, h => by simp at h) n))
noncomputable def b_X9_isPrime_42 (J : List KC) : KC := o_iload 1 <| o_zret
set_option maxRecDepth 100000 in
theorem s_X9_isPrime_42 {l : Launch} {D : va_G} {cI cS cM : ClassId} {J : List KC} (hJ : ∀ (i pc d : Nat), ([(13, 0)] : List (Nat × Nat))[i]? = some (pc, d) → KS l D cI cS cM yX9_isPrime.cls yX9_isPrime.name cX9_isPrime 3 (some .boolean) (k_rm 1 0 0) false pc d (k_jmp J i)) : KS l D cI cS cM yX9_isPrime.cls yX9_isPrime.name cX9_isPrime 3 (some .boolean) (k_rm 1 0 0) false 42 0 (b_X9_isPrime_42 J) :=
  s_iload_n dX9_isPrime_42 rfl <|
  s_zreturn dX9_isPrime_43 rfl
noncomputable def b_X9_isPrime_35 (J : List KC) : KC := o_istore 1 <| o_iinc 2 1 <| k_jmp J 0
set_option maxRecDepth 100000 in
theorem s_X9_isPrime_35 {l : Launch} {D : va_G} {cI cS cM : ClassId} {J : List KC} (hJ : ∀ (i pc d : Nat), ([(13, 0)] : List (Nat × Nat))[i]? = some (pc, d) → KS l D cI cS cM yX9_isPrime.cls yX9_isPrime.name cX9_isPrime 3 (some .boolean) (k_rm 1 0 0) false pc d (k_jmp J i)) : KS l D cI cS cM yX9_isPrime.cls yX9_isPrime.name cX9_isPrime 3 (some .boolean) (k_rm 1 0 0) false 35 1 (b_X9_isPrime_35 J) :=
  s_istore_n dX9_isPrime_35 rfl (by decide) <|
  s_iinc dX9_isPrime_36 (by decide) (by decide) <|
  s_goto dX9_isPrime_39 (by decide) (hJ 0 _ _ rfl)
noncomputable def b_X9_isPrime_34 (J : List KC) : KC := o_push 0 <| b_X9_isPrime_35 J
set_option maxRecDepth 100000 in
theorem s_X9_isPrime_34 {l : Launch} {D : va_G} {cI cS cM : ClassId} {J : List KC} (hJ : ∀ (i pc d : Nat), ([(13, 0)] : List (Nat × Nat))[i]? = some (pc, d) → KS l D cI cS cM yX9_isPrime.cls yX9_isPrime.name cX9_isPrime 3 (some .boolean) (k_rm 1 0 0) false pc d (k_jmp J i)) : KS l D cI cS cM yX9_isPrime.cls yX9_isPrime.name cX9_isPrime 3 (some .boolean) (k_rm 1 0 0) false 34 0 (b_X9_isPrime_34 J) :=
  s_push1 dX9_isPrime_34 (by decide) (by decide) <|
  s_X9_isPrime_35 hJ
noncomputable def b_X9_isPrime_30 (J : List KC) : KC := o_push 1 <| b_X9_isPrime_35 J
set_option maxRecDepth 100000 in
theorem s_X9_isPrime_30 {l : Launch} {D : va_G} {cI cS cM : ClassId} {J : List KC} (hJ : ∀ (i pc d : Nat), ([(13, 0)] : List (Nat × Nat))[i]? = some (pc, d) → KS l D cI cS cM yX9_isPrime.cls yX9_isPrime.name cX9_isPrime 3 (some .boolean) (k_rm 1 0 0) false pc d (k_jmp J i)) : KS l D cI cS cM yX9_isPrime.cls yX9_isPrime.name cX9_isPrime 3 (some .boolean) (k_rm 1 0 0) false 30 0 (b_X9_isPrime_30 J) :=
  s_push1 dX9_isPrime_30 (by decide) (by decide) <|
  s_goto dX9_isPrime_31 (by decide) (s_X9_isPrime_35 hJ)
noncomputable def b_X9_isPrime_24 (J : List KC) : KC := o_iload 0 <| o_iload 2 <| o_div n_rem <| o_c1 g_eq (b_X9_isPrime_34 J) (b_X9_isPrime_30 J)
set_option maxRecDepth 100000 in
theorem s_X9_isPrime_24 {l : Launch} {D : va_G} {cI cS cM : ClassId} {J : List KC} (hJ : ∀ (i pc d : Nat), ([(13, 0)] : List (Nat × Nat))[i]? = some (pc, d) → KS l D cI cS cM yX9_isPrime.cls yX9_isPrime.name cX9_isPrime 3 (some .boolean) (k_rm 1 0 0) false pc d (k_jmp J i)) : KS l D cI cS cM yX9_isPrime.cls yX9_isPrime.name cX9_isPrime 3 (some .boolean) (k_rm 1 0 0) false 24 0 (b_X9_isPrime_24 J) :=
  s_iload_n dX9_isPrime_24 rfl <|
  s_iload_n dX9_isPrime_25 rfl <|
  s_irem dX9_isPrime_26 <|
  s_if_eq dX9_isPrime_27 (by decide) (s_X9_isPrime_34 hJ) (s_X9_isPrime_30 hJ)
noncomputable def b_X9_isPrime_20 (J : List KC) : KC := o_iload 1 <| o_c1 g_eq (b_X9_isPrime_42 J) (b_X9_isPrime_24 J)
set_option maxRecDepth 100000 in
theorem s_X9_isPrime_20 {l : Launch} {D : va_G} {cI cS cM : ClassId} {J : List KC} (hJ : ∀ (i pc d : Nat), ([(13, 0)] : List (Nat × Nat))[i]? = some (pc, d) → KS l D cI cS cM yX9_isPrime.cls yX9_isPrime.name cX9_isPrime 3 (some .boolean) (k_rm 1 0 0) false pc d (k_jmp J i)) : KS l D cI cS cM yX9_isPrime.cls yX9_isPrime.name cX9_isPrime 3 (some .boolean) (k_rm 1 0 0) false 20 0 (b_X9_isPrime_20 J) :=
  s_iload_n dX9_isPrime_20 rfl <|
  s_if_eq dX9_isPrime_21 (by decide) (s_X9_isPrime_42 hJ) (s_X9_isPrime_24 hJ)
noncomputable def b_X9_isPrime_13 (J : List KC) : KC := o_iload 2 <| o_iload 2 <| o_bin n_mul <| o_iload 0 <| o_c2 s_gt (b_X9_isPrime_42 J) (b_X9_isPrime_20 J)
set_option maxRecDepth 100000 in
theorem s_X9_isPrime_13 {l : Launch} {D : va_G} {cI cS cM : ClassId} {J : List KC} (hJ : ∀ (i pc d : Nat), ([(13, 0)] : List (Nat × Nat))[i]? = some (pc, d) → KS l D cI cS cM yX9_isPrime.cls yX9_isPrime.name cX9_isPrime 3 (some .boolean) (k_rm 1 0 0) false pc d (k_jmp J i)) : KS l D cI cS cM yX9_isPrime.cls yX9_isPrime.name cX9_isPrime 3 (some .boolean) (k_rm 1 0 0) false 13 0 (b_X9_isPrime_13 J) :=
  s_iload_n dX9_isPrime_13 rfl <|
  s_iload_n dX9_isPrime_14 rfl <|
  s_imul dX9_isPrime_15 <|
  s_iload_n dX9_isPrime_16 rfl <|
  s_icmp_gt dX9_isPrime_17 (by decide) (s_X9_isPrime_42 hJ) (s_X9_isPrime_20 hJ)
noncomputable def b_X9_isPrime_10 (J : List KC) : KC := o_istore 1 <| o_push 2 <| o_istore 2 <| b_X9_isPrime_13 J
set_option maxRecDepth 100000 in
theorem s_X9_isPrime_10 {l : Launch} {D : va_G} {cI cS cM : ClassId} {J : List KC} (hJ : ∀ (i pc d : Nat), ([(13, 0)] : List (Nat × Nat))[i]? = some (pc, d) → KS l D cI cS cM yX9_isPrime.cls yX9_isPrime.name cX9_isPrime 3 (some .boolean) (k_rm 1 0 0) false pc d (k_jmp J i)) : KS l D cI cS cM yX9_isPrime.cls yX9_isPrime.name cX9_isPrime 3 (some .boolean) (k_rm 1 0 0) false 10 1 (b_X9_isPrime_10 J) :=
  s_istore_n dX9_isPrime_10 rfl (by decide) <|
  s_push1 dX9_isPrime_11 (by decide) (by decide) <|
  s_istore_n dX9_isPrime_12 rfl (by decide) <|
  s_X9_isPrime_13 hJ
noncomputable def b_X9_isPrime_9 (J : List KC) : KC := o_push 0 <| b_X9_isPrime_10 J
set_option maxRecDepth 100000 in
theorem s_X9_isPrime_9 {l : Launch} {D : va_G} {cI cS cM : ClassId} {J : List KC} (hJ : ∀ (i pc d : Nat), ([(13, 0)] : List (Nat × Nat))[i]? = some (pc, d) → KS l D cI cS cM yX9_isPrime.cls yX9_isPrime.name cX9_isPrime 3 (some .boolean) (k_rm 1 0 0) false pc d (k_jmp J i)) : KS l D cI cS cM yX9_isPrime.cls yX9_isPrime.name cX9_isPrime 3 (some .boolean) (k_rm 1 0 0) false 9 0 (b_X9_isPrime_9 J) :=
  s_push1 dX9_isPrime_9 (by decide) (by decide) <|
  s_X9_isPrime_10 hJ
noncomputable def b_X9_isPrime_5 (J : List KC) : KC := o_push 1 <| b_X9_isPrime_10 J
set_option maxRecDepth 100000 in
theorem s_X9_isPrime_5 {l : Launch} {D : va_G} {cI cS cM : ClassId} {J : List KC} (hJ : ∀ (i pc d : Nat), ([(13, 0)] : List (Nat × Nat))[i]? = some (pc, d) → KS l D cI cS cM yX9_isPrime.cls yX9_isPrime.name cX9_isPrime 3 (some .boolean) (k_rm 1 0 0) false pc d (k_jmp J i)) : KS l D cI cS cM yX9_isPrime.cls yX9_isPrime.name cX9_isPrime 3 (some .boolean) (k_rm 1 0 0) false 5 0 (b_X9_isPrime_5 J) :=
  s_push1 dX9_isPrime_5 (by decide) (by decide) <|
  s_goto dX9_isPrime_6 (by decide) (s_X9_isPrime_10 hJ)
noncomputable def b_X9_isPrime_0 (J : List KC) : KC := o_iload 0 <| o_push 1 <| o_c2 s_gt (b_X9_isPrime_5 J) (b_X9_isPrime_9 J)
set_option maxRecDepth 100000 in
theorem s_X9_isPrime_0 {l : Launch} {D : va_G} {cI cS cM : ClassId} {J : List KC} (hJ : ∀ (i pc d : Nat), ([(13, 0)] : List (Nat × Nat))[i]? = some (pc, d) → KS l D cI cS cM yX9_isPrime.cls yX9_isPrime.name cX9_isPrime 3 (some .boolean) (k_rm 1 0 0) false pc d (k_jmp J i)) : KS l D cI cS cM yX9_isPrime.cls yX9_isPrime.name cX9_isPrime 3 (some .boolean) (k_rm 1 0 0) false 0 0 (b_X9_isPrime_0 J) :=
  s_iload_n dX9_isPrime_0 rfl <|
  s_push1 dX9_isPrime_1 (by decide) (by decide) <|
  s_icmp_le dX9_isPrime_2 (by decide) (s_X9_isPrime_9 hJ) (s_X9_isPrime_5 hJ)
noncomputable def j_X9_isPrime (J : List KC) : List KC := [b_X9_isPrime_13 J]
noncomputable def m_X9_isPrime (n : Nat) : KF := k_fun [k_u, k_u] (b_X9_isPrime_0 (k_loop (j_X9_isPrime) n))
theorem r_X9_isPrime {l : Launch} {D : va_G} {cI cS cM : ClassId} (n : Nat) : k_snd l D cI cS cM yX9_isPrime cX9_isPrime 3 (some .boolean) 1 1 (m_X9_isPrime n) :=
  k_method (by decide +kernel) (by simp) rfl (s_X9_isPrime_0 (k_loops (hs := [(13, 0)]) (fun J hJ i pc d h => match i, h with | 0, h => by cases h; exact s_X9_isPrime_13 hJ | _ + 1, h => by simp at h) n))
noncomputable def b_X9_mix_0 : KC := o_aload 0 <| o_lpush 31 <| o_aload 0 <| o_get 9 39 <| o_lbin l_mul <| o_iload 1 <| o_i2l <| o_lbin l_add <| o_putl 9 39 <| o_ret
set_option maxRecDepth 100000 in
theorem s_X9_mix_0 {l : Launch} {D : va_G} {cI cS cM : ClassId} : KS l D cI cS cM yX9_mix.cls yX9_mix.name cX9_mix 2 none (k_rm 1 0 0) false 0 0 (b_X9_mix_0) :=
  s_aload_n dX9_mix_0 rfl <|
  s_ldc2 dX9_mix_1 kw_40_18 rfl (by decide) <|
  s_aload_n dX9_mix_4 rfl <|
  s_get dX9_mix_5 (ci := 9) (sl := 39) (Cn := RX9) (Tf := TX9) (N := 40) rfl (by decide) kiX9 kw_40_13 <|
  s_lmul dX9_mix_8 <|
  s_iload_n dX9_mix_9 rfl <|
  s_i2l dX9_mix_10 <|
  s_ladd dX9_mix_11 <|
  s_putl dX9_mix_12 (ci := 9) (sl := 39) (Cn := RX9) (Tf := TX9) (N := 40) (tyf := tyX9) rfl (by decide) kiX9 tyX9_ok nmX9 kw_40_13 rfl rfl <|
  s_return dX9_mix_15 rfl
noncomputable def m_X9_mix : KF := k_fun [] (b_X9_mix_0)
theorem r_X9_mix {l : Launch} {D : va_G} {cI cS cM : ClassId} : k_snd l D cI cS cM yX9_mix cX9_mix 2 none 1 2 (m_X9_mix) :=
  k_method (by decide +kernel) (by simp) rfl (s_X9_mix_0)
noncomputable def b_X9_multiply_50 (J : List KC) : KC := o_ret
set_option maxRecDepth 100000 in
theorem s_X9_multiply_50 {l : Launch} {D : va_G} {cI cS cM : ClassId} {J : List KC} (hJ : ∀ (i pc d : Nat), ([(2, 0)] : List (Nat × Nat))[i]? = some (pc, d) → KS l D cI cS cM yX9_multiply.cls yX9_multiply.name cX9_multiply 4 none (k_rm 1 0 0) false pc d (k_jmp J i)) : KS l D cI cS cM yX9_multiply.cls yX9_multiply.name cX9_multiply 4 none (k_rm 1 0 0) false 50 0 (b_X9_multiply_50 J) :=
  s_return dX9_multiply_50 rfl
noncomputable def b_X9_multiply_10 (J : List KC) : KC := o_aload 0 <| o_get 9 30 <| o_iload 3 <| o_aload 0 <| o_get 9 29 <| o_push 8 <| o_iload 1 <| o_bin n_mul <| o_iload 3 <| o_bin n_add <| o_iald <| o_aload 0 <| o_get 9 29 <| o_push 8 <| o_iload 2 <| o_bin n_mul <| o_iload 3 <| o_bin n_add <| o_iald <| o_bin n_mul <| o_aload 0 <| o_get 9 16 <| o_div n_rem <| o_iast <| o_iinc 3 1 <| k_jmp J 0
set_option maxRecDepth 100000 in
theorem s_X9_multiply_10 {l : Launch} {D : va_G} {cI cS cM : ClassId} {J : List KC} (hJ : ∀ (i pc d : Nat), ([(2, 0)] : List (Nat × Nat))[i]? = some (pc, d) → KS l D cI cS cM yX9_multiply.cls yX9_multiply.name cX9_multiply 4 none (k_rm 1 0 0) false pc d (k_jmp J i)) : KS l D cI cS cM yX9_multiply.cls yX9_multiply.name cX9_multiply 4 none (k_rm 1 0 0) false 10 0 (b_X9_multiply_10 J) :=
  s_aload_n dX9_multiply_10 rfl <|
  s_get dX9_multiply_11 (ci := 9) (sl := 30) (Cn := RX9) (Tf := TX9) (N := 40) rfl (by decide) kiX9 kw_7_13 <|
  s_iload_n dX9_multiply_14 rfl <|
  s_aload_n dX9_multiply_15 rfl <|
  s_get dX9_multiply_16 (ci := 9) (sl := 29) (Cn := RX9) (Tf := TX9) (N := 40) rfl (by decide) kiX9 kw_7_12 <|
  s_push2 dX9_multiply_19 (by decide) (by decide) <|
  s_iload_n dX9_multiply_21 rfl <|
  s_imul dX9_multiply_22 <|
  s_iload_n dX9_multiply_23 rfl <|
  s_iadd dX9_multiply_24 <|
  s_iald dX9_multiply_25 <|
  s_aload_n dX9_multiply_26 rfl <|
  s_get dX9_multiply_27 (ci := 9) (sl := 29) (Cn := RX9) (Tf := TX9) (N := 40) rfl (by decide) kiX9 kw_7_12 <|
  s_push2 dX9_multiply_30 (by decide) (by decide) <|
  s_iload_n dX9_multiply_32 rfl <|
  s_imul dX9_multiply_33 <|
  s_iload_n dX9_multiply_34 rfl <|
  s_iadd dX9_multiply_35 <|
  s_iald dX9_multiply_36 <|
  s_imul dX9_multiply_37 <|
  s_aload_n dX9_multiply_38 rfl <|
  s_get dX9_multiply_39 (ci := 9) (sl := 16) (Cn := RX9) (Tf := TX9) (N := 40) rfl (by decide) kiX9 kw_22_16 <|
  s_irem dX9_multiply_42 <|
  s_iast dX9_multiply_43 <|
  s_iinc dX9_multiply_44 (by decide) (by decide) <|
  s_goto dX9_multiply_47 (by decide) (hJ 0 _ _ rfl)
noncomputable def b_X9_multiply_2 (J : List KC) : KC := o_iload 3 <| o_aload 0 <| o_get 9 12 <| o_c2 s_lt (b_X9_multiply_10 J) (b_X9_multiply_50 J)
set_option maxRecDepth 100000 in
theorem s_X9_multiply_2 {l : Launch} {D : va_G} {cI cS cM : ClassId} {J : List KC} (hJ : ∀ (i pc d : Nat), ([(2, 0)] : List (Nat × Nat))[i]? = some (pc, d) → KS l D cI cS cM yX9_multiply.cls yX9_multiply.name cX9_multiply 4 none (k_rm 1 0 0) false pc d (k_jmp J i)) : KS l D cI cS cM yX9_multiply.cls yX9_multiply.name cX9_multiply 4 none (k_rm 1 0 0) false 2 0 (b_X9_multiply_2 J) :=
  s_iload_n dX9_multiply_2 rfl <|
  s_aload_n dX9_multiply_3 rfl <|
  s_get dX9_multiply_4 (ci := 9) (sl := 12) (Cn := RX9) (Tf := TX9) (N := 40) rfl (by decide) kiX9 kw_22_14 <|
  s_icmp_ge dX9_multiply_7 (by decide) (s_X9_multiply_50 hJ) (s_X9_multiply_10 hJ)
noncomputable def b_X9_multiply_0 (J : List KC) : KC := o_push 0 <| o_istore 3 <| b_X9_multiply_2 J
set_option maxRecDepth 100000 in
theorem s_X9_multiply_0 {l : Launch} {D : va_G} {cI cS cM : ClassId} {J : List KC} (hJ : ∀ (i pc d : Nat), ([(2, 0)] : List (Nat × Nat))[i]? = some (pc, d) → KS l D cI cS cM yX9_multiply.cls yX9_multiply.name cX9_multiply 4 none (k_rm 1 0 0) false pc d (k_jmp J i)) : KS l D cI cS cM yX9_multiply.cls yX9_multiply.name cX9_multiply 4 none (k_rm 1 0 0) false 0 0 (b_X9_multiply_0 J) :=
  s_push1 dX9_multiply_0 (by decide) (by decide) <|
  s_istore_n dX9_multiply_1 rfl (by decide) <|
  s_X9_multiply_2 hJ
noncomputable def j_X9_multiply (J : List KC) : List KC := [b_X9_multiply_2 J]
noncomputable def m_X9_multiply (n : Nat) : KF := k_fun [k_u] (b_X9_multiply_0 (k_loop (j_X9_multiply) n))
theorem r_X9_multiply {l : Launch} {D : va_G} {cI cS cM : ClassId} (n : Nat) : k_snd l D cI cS cM yX9_multiply cX9_multiply 4 none 1 3 (m_X9_multiply n) :=
  k_method (by decide +kernel) (by simp) rfl (s_X9_multiply_0 (k_loops (hs := [(2, 0)]) (fun J hJ i pc d h => match i, h with | 0, h => by cases h; exact s_X9_multiply_2 hJ | _ + 1, h => by simp at h) n))
noncomputable def b_X9_must_33 : KC := o_ret
set_option maxRecDepth 100000 in
theorem s_X9_must_33 {l : Launch} {D : va_G} {cI cS cM : ClassId} : KS l D cI cS cM yX9_must.cls yX9_must.name cX9_must 2 none (k_rm 1 0 0) false 33 0 (b_X9_must_33) :=
  s_return dX9_must_33 rfl
noncomputable def b_X9_must_25 : KC := o_aload 0 <| o_aload 0 <| o_get 9 33 <| o_puti 9 34 <| b_X9_must_33
set_option maxRecDepth 100000 in
theorem s_X9_must_25 {l : Launch} {D : va_G} {cI cS cM : ClassId} : KS l D cI cS cM yX9_must.cls yX9_must.name cX9_must 2 none (k_rm 1 0 0) false 25 0 (b_X9_must_25) :=
  s_aload_n dX9_must_25 rfl <|
  s_aload_n dX9_must_26 rfl <|
  s_get dX9_must_27 (ci := 9) (sl := 33) (Cn := RX9) (Tf := TX9) (N := 40) rfl (by decide) kiX9 kw_37_15 <|
  s_puti dX9_must_30 (ci := 9) (sl := 34) (Cn := RX9) (Tf := TX9) (N := 40) (tyf := tyX9) rfl (by decide) kiX9 tyX9_ok nmX9 kw_37_16 rfl rfl <|
  s_X9_must_33
noncomputable def b_X9_must_12 : KC := o_aload 0 <| o_dup <| o_get 9 33 <| o_push 1 <| o_bin n_add <| o_puti 9 33 <| b_X9_must_33
set_option maxRecDepth 100000 in
theorem s_X9_must_12 {l : Launch} {D : va_G} {cI cS cM : ClassId} : KS l D cI cS cM yX9_must.cls yX9_must.name cX9_must 2 none (k_rm 1 0 0) false 12 0 (b_X9_must_12) :=
  s_aload_n dX9_must_12 rfl <|
  s_dup dX9_must_13 <|
  s_get dX9_must_14 (ci := 9) (sl := 33) (Cn := RX9) (Tf := TX9) (N := 40) rfl (by decide) kiX9 kw_37_15 <|
  s_push1 dX9_must_17 (by decide) (by decide) <|
  s_iadd dX9_must_18 <|
  s_puti dX9_must_19 (ci := 9) (sl := 33) (Cn := RX9) (Tf := TX9) (N := 40) (tyf := tyX9) rfl (by decide) kiX9 tyX9_ok nmX9 kw_37_15 rfl rfl <|
  s_goto dX9_must_22 (by decide) (s_X9_must_33)
noncomputable def b_X9_must_8 : KC := o_iload 1 <| o_c1 g_eq (b_X9_must_25) (b_X9_must_12)
set_option maxRecDepth 100000 in
theorem s_X9_must_8 {l : Launch} {D : va_G} {cI cS cM : ClassId} : KS l D cI cS cM yX9_must.cls yX9_must.name cX9_must 2 none (k_rm 1 0 0) false 8 0 (b_X9_must_8) :=
  s_iload_n dX9_must_8 rfl <|
  s_if_eq dX9_must_9 (by decide) (s_X9_must_25) (s_X9_must_12)
noncomputable def b_X9_must_0 : KC := o_aload 0 <| o_get 9 34 <| o_push 4294967295 <| o_c2 Nat.beq (b_X9_must_8) (b_X9_must_33)
set_option maxRecDepth 100000 in
theorem s_X9_must_0 {l : Launch} {D : va_G} {cI cS cM : ClassId} : KS l D cI cS cM yX9_must.cls yX9_must.name cX9_must 2 none (k_rm 1 0 0) false 0 0 (b_X9_must_0) :=
  s_aload_n dX9_must_0 rfl <|
  s_get dX9_must_1 (ci := 9) (sl := 34) (Cn := RX9) (Tf := TX9) (N := 40) rfl (by decide) kiX9 kw_37_16 <|
  s_push1 dX9_must_4 (by decide) (by decide) <|
  s_icmp_ne dX9_must_5 (by decide) (s_X9_must_33) (s_X9_must_8)
noncomputable def m_X9_must : KF := k_fun [] (b_X9_must_0)
theorem r_X9_must {l : Launch} {D : va_G} {cI cS cM : ClassId} : k_snd l D cI cS cM yX9_must cX9_must 2 none 1 2 (m_X9_must) :=
  k_method (by decide +kernel) (by simp) rfl (s_X9_must_0)
noncomputable def b_X9_over_21 : KC := o_iret
set_option maxRecDepth 100000 in
theorem s_X9_over_21 {l : Launch} {D : va_G} {cI cS cM : ClassId} : KS l D cI cS cM yX9_over.cls yX9_over.name cX9_over 3 (some .int) (k_rm 1 0 0) false 21 1 (b_X9_over_21) :=
  s_ireturn dX9_over_21 rfl
noncomputable def b_X9_over_20 : KC := o_iload 2 <| b_X9_over_21
set_option maxRecDepth 100000 in
theorem s_X9_over_20 {l : Launch} {D : va_G} {cI cS cM : ClassId} : KS l D cI cS cM yX9_over.cls yX9_over.name cX9_over 3 (some .int) (k_rm 1 0 0) false 20 0 (b_X9_over_20) :=
  s_iload_n dX9_over_20 rfl <|
  s_X9_over_21
noncomputable def b_X9_over_11 : KC := o_iload 2 <| o_aload 0 <| o_get 9 16 <| o_bin n_add <| b_X9_over_21
set_option maxRecDepth 100000 in
theorem s_X9_over_11 {l : Launch} {D : va_G} {cI cS cM : ClassId} : KS l D cI cS cM yX9_over.cls yX9_over.name cX9_over 3 (some .int) (k_rm 1 0 0) false 11 0 (b_X9_over_11) :=
  s_iload_n dX9_over_11 rfl <|
  s_aload_n dX9_over_12 rfl <|
  s_get dX9_over_13 (ci := 9) (sl := 16) (Cn := RX9) (Tf := TX9) (N := 40) rfl (by decide) kiX9 kw_22_16 <|
  s_iadd dX9_over_16 <|
  s_goto dX9_over_17 (by decide) (s_X9_over_21)
noncomputable def b_X9_over_0 : KC := o_iload 1 <| o_aload 0 <| o_get 9 16 <| o_div n_rem <| o_istore 2 <| o_iload 2 <| o_c1 g_lt (b_X9_over_11) (b_X9_over_20)
set_option maxRecDepth 100000 in
theorem s_X9_over_0 {l : Launch} {D : va_G} {cI cS cM : ClassId} : KS l D cI cS cM yX9_over.cls yX9_over.name cX9_over 3 (some .int) (k_rm 1 0 0) false 0 0 (b_X9_over_0) :=
  s_iload_n dX9_over_0 rfl <|
  s_aload_n dX9_over_1 rfl <|
  s_get dX9_over_2 (ci := 9) (sl := 16) (Cn := RX9) (Tf := TX9) (N := 40) rfl (by decide) kiX9 kw_22_16 <|
  s_irem dX9_over_5 <|
  s_istore_n dX9_over_6 rfl (by decide) <|
  s_iload_n dX9_over_7 rfl <|
  s_if_ge dX9_over_8 (by decide) (s_X9_over_20) (s_X9_over_11)
noncomputable def m_X9_over : KF := k_fun [k_u] (b_X9_over_0)
theorem r_X9_over {l : Launch} {D : va_G} {cI cS cM : ClassId} : k_snd l D cI cS cM yX9_over cX9_over 3 (some .int) 1 2 (m_X9_over) :=
  k_method (by decide +kernel) (by simp) rfl (s_X9_over_0)
noncomputable def b_X9_power_26 (J : List KC) : KC := o_iload 3 <| o_iret
set_option maxRecDepth 100000 in
theorem s_X9_power_26 {l : Launch} {D : va_G} {cI cS cM : ClassId} {J : List KC} (hJ : ∀ (i pc d : Nat), ([(5, 0)] : List (Nat × Nat))[i]? = some (pc, d) → KS l D cI cS cM yX9_power.cls yX9_power.name cX9_power 5 (some .int) (k_rm 1 0 0) false pc d (k_jmp J i)) : KS l D cI cS cM yX9_power.cls yX9_power.name cX9_power 5 (some .int) (k_rm 1 0 0) false 26 0 (b_X9_power_26 J) :=
  s_iload_n dX9_power_26 rfl <|
  s_ireturn dX9_power_27 rfl
noncomputable def b_X9_power_11 (J : List KC) : KC := o_iload 3 <| o_iload 1 <| o_bin n_mul <| o_aload 0 <| o_get 9 16 <| o_div n_rem <| o_istore 3 <| o_iinc 4 1 <| k_jmp J 0
set_option maxRecDepth 100000 in
theorem s_X9_power_11 {l : Launch} {D : va_G} {cI cS cM : ClassId} {J : List KC} (hJ : ∀ (i pc d : Nat), ([(5, 0)] : List (Nat × Nat))[i]? = some (pc, d) → KS l D cI cS cM yX9_power.cls yX9_power.name cX9_power 5 (some .int) (k_rm 1 0 0) false pc d (k_jmp J i)) : KS l D cI cS cM yX9_power.cls yX9_power.name cX9_power 5 (some .int) (k_rm 1 0 0) false 11 0 (b_X9_power_11 J) :=
  s_iload_n dX9_power_11 rfl <|
  s_iload_n dX9_power_12 rfl <|
  s_imul dX9_power_13 <|
  s_aload_n dX9_power_14 rfl <|
  s_get dX9_power_15 (ci := 9) (sl := 16) (Cn := RX9) (Tf := TX9) (N := 40) rfl (by decide) kiX9 kw_22_16 <|
  s_irem dX9_power_18 <|
  s_istore_n dX9_power_19 rfl (by decide) <|
  s_iinc dX9_power_20 (by decide) (by decide) <|
  s_goto dX9_power_23 (by decide) (hJ 0 _ _ rfl)
noncomputable def b_X9_power_5 (J : List KC) : KC := o_iload 4 <| o_iload 2 <| o_c2 s_lt (b_X9_power_11 J) (b_X9_power_26 J)
set_option maxRecDepth 100000 in
theorem s_X9_power_5 {l : Launch} {D : va_G} {cI cS cM : ClassId} {J : List KC} (hJ : ∀ (i pc d : Nat), ([(5, 0)] : List (Nat × Nat))[i]? = some (pc, d) → KS l D cI cS cM yX9_power.cls yX9_power.name cX9_power 5 (some .int) (k_rm 1 0 0) false pc d (k_jmp J i)) : KS l D cI cS cM yX9_power.cls yX9_power.name cX9_power 5 (some .int) (k_rm 1 0 0) false 5 0 (b_X9_power_5 J) :=
  s_iload dX9_power_5 <|
  s_iload_n dX9_power_7 rfl <|
  s_icmp_ge dX9_power_8 (by decide) (s_X9_power_26 hJ) (s_X9_power_11 hJ)
noncomputable def b_X9_power_0 (J : List KC) : KC := o_push 1 <| o_istore 3 <| o_push 0 <| o_istore 4 <| b_X9_power_5 J
set_option maxRecDepth 100000 in
theorem s_X9_power_0 {l : Launch} {D : va_G} {cI cS cM : ClassId} {J : List KC} (hJ : ∀ (i pc d : Nat), ([(5, 0)] : List (Nat × Nat))[i]? = some (pc, d) → KS l D cI cS cM yX9_power.cls yX9_power.name cX9_power 5 (some .int) (k_rm 1 0 0) false pc d (k_jmp J i)) : KS l D cI cS cM yX9_power.cls yX9_power.name cX9_power 5 (some .int) (k_rm 1 0 0) false 0 0 (b_X9_power_0 J) :=
  s_push1 dX9_power_0 (by decide) (by decide) <|
  s_istore_n dX9_power_1 rfl (by decide) <|
  s_push1 dX9_power_2 (by decide) (by decide) <|
  s_istore dX9_power_3 (by decide) <|
  s_X9_power_5 hJ
noncomputable def j_X9_power (J : List KC) : List KC := [b_X9_power_5 J]
noncomputable def m_X9_power (n : Nat) : KF := k_fun [k_u, k_u] (b_X9_power_0 (k_loop (j_X9_power) n))
theorem r_X9_power {l : Launch} {D : va_G} {cI cS cM : ClassId} (n : Nat) : k_snd l D cI cS cM yX9_power cX9_power 5 (some .int) 1 3 (m_X9_power n) :=
  k_method (by decide +kernel) (by simp) rfl (s_X9_power_0 (k_loops (hs := [(5, 0)]) (fun J hJ i pc d h => match i, h with | 0, h => by cases h; exact s_X9_power_5 hJ | _ + 1, h => by simp at h) n))
noncomputable def b_X9_push_78 (J : List KC) : KC := o_aload 0 <| o_dup <| o_get 9 3 <| o_push 1 <| o_bin n_add <| o_puti 9 3 <| o_ret
set_option maxRecDepth 100000 in
theorem s_X9_push_78 {l : Launch} {D : va_G} {cI cS cM : ClassId} {J : List KC} (hJ : ∀ (i pc d : Nat), ([(10, 0), (48, 0)] : List (Nat × Nat))[i]? = some (pc, d) → KS l D cI cS cM yX9_push.cls yX9_push.name cX9_push 2 none (k_rm 1 0 0) false pc d (k_jmp J i)) : KS l D cI cS cM yX9_push.cls yX9_push.name cX9_push 2 none (k_rm 1 0 0) false 78 0 (b_X9_push_78 J) :=
  s_aload_n dX9_push_78 rfl <|
  s_dup dX9_push_79 <|
  s_get dX9_push_80 (ci := 9) (sl := 3) (Cn := RX9) (Tf := TX9) (N := 40) rfl (by decide) kiX9 kw_10_9 <|
  s_push1 dX9_push_83 (by decide) (by decide) <|
  s_iadd dX9_push_84 <|
  s_puti dX9_push_85 (ci := 9) (sl := 3) (Cn := RX9) (Tf := TX9) (N := 40) (tyf := tyX9) rfl (by decide) kiX9 tyX9_ok nmX9 kw_10_9 rfl rfl <|
  s_return dX9_push_88 rfl
noncomputable def b_X9_push_53 (J : List KC) : KC := o_aload 0 <| o_get 9 2 <| o_push 5 <| o_aload 0 <| o_get 9 3 <| o_bin n_mul <| o_iload 1 <| o_bin n_add <| o_aload 0 <| o_get 9 1 <| o_iload 1 <| o_iald <| o_iast <| o_iinc 1 1 <| k_jmp J 1
set_option maxRecDepth 100000 in
theorem s_X9_push_53 {l : Launch} {D : va_G} {cI cS cM : ClassId} {J : List KC} (hJ : ∀ (i pc d : Nat), ([(10, 0), (48, 0)] : List (Nat × Nat))[i]? = some (pc, d) → KS l D cI cS cM yX9_push.cls yX9_push.name cX9_push 2 none (k_rm 1 0 0) false pc d (k_jmp J i)) : KS l D cI cS cM yX9_push.cls yX9_push.name cX9_push 2 none (k_rm 1 0 0) false 53 0 (b_X9_push_53 J) :=
  s_aload_n dX9_push_53 rfl <|
  s_get dX9_push_54 (ci := 9) (sl := 2) (Cn := RX9) (Tf := TX9) (N := 40) rfl (by decide) kiX9 kw_6_18 <|
  s_push1 dX9_push_57 (by decide) (by decide) <|
  s_aload_n dX9_push_58 rfl <|
  s_get dX9_push_59 (ci := 9) (sl := 3) (Cn := RX9) (Tf := TX9) (N := 40) rfl (by decide) kiX9 kw_10_9 <|
  s_imul dX9_push_62 <|
  s_iload_n dX9_push_63 rfl <|
  s_iadd dX9_push_64 <|
  s_aload_n dX9_push_65 rfl <|
  s_get dX9_push_66 (ci := 9) (sl := 1) (Cn := RX9) (Tf := TX9) (N := 40) rfl (by decide) kiX9 kw_6_17 <|
  s_iload_n dX9_push_69 rfl <|
  s_iald dX9_push_70 <|
  s_iast dX9_push_71 <|
  s_iinc dX9_push_72 (by decide) (by decide) <|
  s_goto dX9_push_75 (by decide) (hJ 1 _ _ rfl)
noncomputable def b_X9_push_48 (J : List KC) : KC := o_iload 1 <| o_push 5 <| o_c2 s_lt (b_X9_push_53 J) (b_X9_push_78 J)
set_option maxRecDepth 100000 in
theorem s_X9_push_48 {l : Launch} {D : va_G} {cI cS cM : ClassId} {J : List KC} (hJ : ∀ (i pc d : Nat), ([(10, 0), (48, 0)] : List (Nat × Nat))[i]? = some (pc, d) → KS l D cI cS cM yX9_push.cls yX9_push.name cX9_push 2 none (k_rm 1 0 0) false pc d (k_jmp J i)) : KS l D cI cS cM yX9_push.cls yX9_push.name cX9_push 2 none (k_rm 1 0 0) false 48 0 (b_X9_push_48 J) :=
  s_iload_n dX9_push_48 rfl <|
  s_push1 dX9_push_49 (by decide) (by decide) <|
  s_icmp_ge dX9_push_50 (by decide) (s_X9_push_78 hJ) (s_X9_push_53 hJ)
noncomputable def b_X9_push_46 (J : List KC) : KC := o_push 0 <| o_istore 1 <| b_X9_push_48 J
set_option maxRecDepth 100000 in
theorem s_X9_push_46 {l : Launch} {D : va_G} {cI cS cM : ClassId} {J : List KC} (hJ : ∀ (i pc d : Nat), ([(10, 0), (48, 0)] : List (Nat × Nat))[i]? = some (pc, d) → KS l D cI cS cM yX9_push.cls yX9_push.name cX9_push 2 none (k_rm 1 0 0) false pc d (k_jmp J i)) : KS l D cI cS cM yX9_push.cls yX9_push.name cX9_push 2 none (k_rm 1 0 0) false 46 0 (b_X9_push_46 J) :=
  s_push1 dX9_push_46 (by decide) (by decide) <|
  s_istore_n dX9_push_47 rfl (by decide) <|
  s_X9_push_48 hJ
noncomputable def b_X9_push_36 (J : List KC) : KC := o_aload 0 <| o_dup <| o_get 9 3 <| o_push 1 <| o_bin n_sub <| o_puti 9 3 <| b_X9_push_46 J
set_option maxRecDepth 100000 in
theorem s_X9_push_36 {l : Launch} {D : va_G} {cI cS cM : ClassId} {J : List KC} (hJ : ∀ (i pc d : Nat), ([(10, 0), (48, 0)] : List (Nat × Nat))[i]? = some (pc, d) → KS l D cI cS cM yX9_push.cls yX9_push.name cX9_push 2 none (k_rm 1 0 0) false pc d (k_jmp J i)) : KS l D cI cS cM yX9_push.cls yX9_push.name cX9_push 2 none (k_rm 1 0 0) false 36 0 (b_X9_push_36 J) :=
  s_aload_n dX9_push_36 rfl <|
  s_dup dX9_push_37 <|
  s_get dX9_push_38 (ci := 9) (sl := 3) (Cn := RX9) (Tf := TX9) (N := 40) rfl (by decide) kiX9 kw_10_9 <|
  s_push1 dX9_push_41 (by decide) (by decide) <|
  s_isub dX9_push_42 <|
  s_puti dX9_push_43 (ci := 9) (sl := 3) (Cn := RX9) (Tf := TX9) (N := 40) (tyf := tyX9) rfl (by decide) kiX9 tyX9_ok nmX9 kw_10_9 rfl rfl <|
  s_X9_push_46 hJ
noncomputable def b_X9_push_16 (J : List KC) : KC := o_aload 0 <| o_get 9 2 <| o_iload 1 <| o_aload 0 <| o_get 9 2 <| o_iload 1 <| o_push 5 <| o_bin n_add <| o_iald <| o_iast <| o_iinc 1 1 <| k_jmp J 0
set_option maxRecDepth 100000 in
theorem s_X9_push_16 {l : Launch} {D : va_G} {cI cS cM : ClassId} {J : List KC} (hJ : ∀ (i pc d : Nat), ([(10, 0), (48, 0)] : List (Nat × Nat))[i]? = some (pc, d) → KS l D cI cS cM yX9_push.cls yX9_push.name cX9_push 2 none (k_rm 1 0 0) false pc d (k_jmp J i)) : KS l D cI cS cM yX9_push.cls yX9_push.name cX9_push 2 none (k_rm 1 0 0) false 16 0 (b_X9_push_16 J) :=
  s_aload_n dX9_push_16 rfl <|
  s_get dX9_push_17 (ci := 9) (sl := 2) (Cn := RX9) (Tf := TX9) (N := 40) rfl (by decide) kiX9 kw_6_18 <|
  s_iload_n dX9_push_20 rfl <|
  s_aload_n dX9_push_21 rfl <|
  s_get dX9_push_22 (ci := 9) (sl := 2) (Cn := RX9) (Tf := TX9) (N := 40) rfl (by decide) kiX9 kw_6_18 <|
  s_iload_n dX9_push_25 rfl <|
  s_push1 dX9_push_26 (by decide) (by decide) <|
  s_iadd dX9_push_27 <|
  s_iald dX9_push_28 <|
  s_iast dX9_push_29 <|
  s_iinc dX9_push_30 (by decide) (by decide) <|
  s_goto dX9_push_33 (by decide) (hJ 0 _ _ rfl)
noncomputable def b_X9_push_10 (J : List KC) : KC := o_iload 1 <| o_push 20 <| o_c2 s_lt (b_X9_push_16 J) (b_X9_push_36 J)
set_option maxRecDepth 100000 in
theorem s_X9_push_10 {l : Launch} {D : va_G} {cI cS cM : ClassId} {J : List KC} (hJ : ∀ (i pc d : Nat), ([(10, 0), (48, 0)] : List (Nat × Nat))[i]? = some (pc, d) → KS l D cI cS cM yX9_push.cls yX9_push.name cX9_push 2 none (k_rm 1 0 0) false pc d (k_jmp J i)) : KS l D cI cS cM yX9_push.cls yX9_push.name cX9_push 2 none (k_rm 1 0 0) false 10 0 (b_X9_push_10 J) :=
  s_iload_n dX9_push_10 rfl <|
  s_push2 dX9_push_11 (by decide) (by decide) <|
  s_icmp_ge dX9_push_13 (by decide) (s_X9_push_36 hJ) (s_X9_push_16 hJ)
noncomputable def b_X9_push_8 (J : List KC) : KC := o_push 0 <| o_istore 1 <| b_X9_push_10 J
set_option maxRecDepth 100000 in
theorem s_X9_push_8 {l : Launch} {D : va_G} {cI cS cM : ClassId} {J : List KC} (hJ : ∀ (i pc d : Nat), ([(10, 0), (48, 0)] : List (Nat × Nat))[i]? = some (pc, d) → KS l D cI cS cM yX9_push.cls yX9_push.name cX9_push 2 none (k_rm 1 0 0) false pc d (k_jmp J i)) : KS l D cI cS cM yX9_push.cls yX9_push.name cX9_push 2 none (k_rm 1 0 0) false 8 0 (b_X9_push_8 J) :=
  s_push1 dX9_push_8 (by decide) (by decide) <|
  s_istore_n dX9_push_9 rfl (by decide) <|
  s_X9_push_10 hJ
noncomputable def b_X9_push_0 (J : List KC) : KC := o_aload 0 <| o_get 9 3 <| o_push 5 <| o_c2 Nat.beq (b_X9_push_8 J) (b_X9_push_46 J)
set_option maxRecDepth 100000 in
theorem s_X9_push_0 {l : Launch} {D : va_G} {cI cS cM : ClassId} {J : List KC} (hJ : ∀ (i pc d : Nat), ([(10, 0), (48, 0)] : List (Nat × Nat))[i]? = some (pc, d) → KS l D cI cS cM yX9_push.cls yX9_push.name cX9_push 2 none (k_rm 1 0 0) false pc d (k_jmp J i)) : KS l D cI cS cM yX9_push.cls yX9_push.name cX9_push 2 none (k_rm 1 0 0) false 0 0 (b_X9_push_0 J) :=
  s_aload_n dX9_push_0 rfl <|
  s_get dX9_push_1 (ci := 9) (sl := 3) (Cn := RX9) (Tf := TX9) (N := 40) rfl (by decide) kiX9 kw_10_9 <|
  s_push1 dX9_push_4 (by decide) (by decide) <|
  s_icmp_ne dX9_push_5 (by decide) (s_X9_push_46 hJ) (s_X9_push_8 hJ)
noncomputable def j_X9_push (J : List KC) : List KC := [b_X9_push_10 J, b_X9_push_48 J]
noncomputable def m_X9_push (n : Nat) : KF := k_fun [k_u] (b_X9_push_0 (k_loop (j_X9_push) n))
theorem r_X9_push {l : Launch} {D : va_G} {cI cS cM : ClassId} (n : Nat) : k_snd l D cI cS cM yX9_push cX9_push 2 none 1 1 (m_X9_push n) :=
  k_method (by decide +kernel) (by simp) rfl (s_X9_push_0 (k_loops (hs := [(10, 0), (48, 0)]) (fun J hJ i pc d h => match i, h with | 0, h => by cases h; exact s_X9_push_10 hJ | 1, h => by cases h; exact s_X9_push_48 hJ | _ + 2, h => by simp at h) n))
noncomputable def b_X9_refuses_0 : KC := o_aload 0 <| o_get 9 4 <| o_push 4294967294 <| o_iload 1 <| o_bin n_sub <| o_dup2 <| o_iald <| o_push 1 <| o_bin n_add <| o_iast <| o_iload 1 <| o_iret
set_option maxRecDepth 100000 in
theorem s_X9_refuses_0 {l : Launch} {D : va_G} {cI cS cM : ClassId} : KS l D cI cS cM yX9_refuses.cls yX9_refuses.name cX9_refuses 2 (some .int) (k_rm 1 0 0) false 0 0 (b_X9_refuses_0) :=
  s_aload_n dX9_refuses_0 rfl <|
  s_get dX9_refuses_1 (ci := 9) (sl := 4) (Cn := RX9) (Tf := TX9) (N := 40) rfl (by decide) kiX9 kw_6_19 <|
  s_push2 dX9_refuses_4 (by decide) (by decide) <|
  s_iload_n dX9_refuses_6 rfl <|
  s_isub dX9_refuses_7 <|
  s_dup2 dX9_refuses_8 <|
  s_iald dX9_refuses_9 <|
  s_push1 dX9_refuses_10 (by decide) (by decide) <|
  s_iadd dX9_refuses_11 <|
  s_iast dX9_refuses_12 <|
  s_iload_n dX9_refuses_13 rfl <|
  s_ireturn dX9_refuses_14 rfl
noncomputable def m_X9_refuses : KF := k_fun [] (b_X9_refuses_0)
theorem r_X9_refuses {l : Launch} {D : va_G} {cI cS cM : ClassId} : k_snd l D cI cS cM yX9_refuses cX9_refuses 2 (some .int) 1 2 (m_X9_refuses) :=
  k_method (by decide +kernel) (by simp) rfl (s_X9_refuses_0)
noncomputable def b_X9_round_24 (J : List KC) : KC := o_iload 2 <| o_iret
set_option maxRecDepth 100000 in
theorem s_X9_round_24 {l : Launch} {D : va_G} {cI cS cM : ClassId} {J : List KC} (hJ : ∀ (i pc d : Nat), ([(4, 0)] : List (Nat × Nat))[i]? = some (pc, d) → KS l D cI cS cM yX9_round.cls yX9_round.name cX9_round 4 (some .int) (k_rm 1 0 0) false pc d (k_jmp J i)) : KS l D cI cS cM yX9_round.cls yX9_round.name cX9_round 4 (some .int) (k_rm 1 0 0) false 24 0 (b_X9_round_24 J) :=
  s_iload_n dX9_round_24 rfl <|
  s_ireturn dX9_round_25 rfl
noncomputable def b_X9_round_9 (J : List KC) : KC := o_iload 3 <| o_iload 1 <| o_bin n_mul <| o_aload 0 <| o_get 9 16 <| o_div n_rem <| o_istore 3 <| o_iinc 2 1 <| k_jmp J 0
set_option maxRecDepth 100000 in
theorem s_X9_round_9 {l : Launch} {D : va_G} {cI cS cM : ClassId} {J : List KC} (hJ : ∀ (i pc d : Nat), ([(4, 0)] : List (Nat × Nat))[i]? = some (pc, d) → KS l D cI cS cM yX9_round.cls yX9_round.name cX9_round 4 (some .int) (k_rm 1 0 0) false pc d (k_jmp J i)) : KS l D cI cS cM yX9_round.cls yX9_round.name cX9_round 4 (some .int) (k_rm 1 0 0) false 9 0 (b_X9_round_9 J) :=
  s_iload_n dX9_round_9 rfl <|
  s_iload_n dX9_round_10 rfl <|
  s_imul dX9_round_11 <|
  s_aload_n dX9_round_12 rfl <|
  s_get dX9_round_13 (ci := 9) (sl := 16) (Cn := RX9) (Tf := TX9) (N := 40) rfl (by decide) kiX9 kw_22_16 <|
  s_irem dX9_round_16 <|
  s_istore_n dX9_round_17 rfl (by decide) <|
  s_iinc dX9_round_18 (by decide) (by decide) <|
  s_goto dX9_round_21 (by decide) (hJ 0 _ _ rfl)
noncomputable def b_X9_round_4 (J : List KC) : KC := o_iload 3 <| o_push 1 <| o_c2 Nat.beq (b_X9_round_24 J) (b_X9_round_9 J)
set_option maxRecDepth 100000 in
theorem s_X9_round_4 {l : Launch} {D : va_G} {cI cS cM : ClassId} {J : List KC} (hJ : ∀ (i pc d : Nat), ([(4, 0)] : List (Nat × Nat))[i]? = some (pc, d) → KS l D cI cS cM yX9_round.cls yX9_round.name cX9_round 4 (some .int) (k_rm 1 0 0) false pc d (k_jmp J i)) : KS l D cI cS cM yX9_round.cls yX9_round.name cX9_round 4 (some .int) (k_rm 1 0 0) false 4 0 (b_X9_round_4 J) :=
  s_iload_n dX9_round_4 rfl <|
  s_push1 dX9_round_5 (by decide) (by decide) <|
  s_icmp_eq dX9_round_6 (by decide) (s_X9_round_24 hJ) (s_X9_round_9 hJ)
noncomputable def b_X9_round_0 (J : List KC) : KC := o_push 1 <| o_istore 2 <| o_iload 1 <| o_istore 3 <| b_X9_round_4 J
set_option maxRecDepth 100000 in
theorem s_X9_round_0 {l : Launch} {D : va_G} {cI cS cM : ClassId} {J : List KC} (hJ : ∀ (i pc d : Nat), ([(4, 0)] : List (Nat × Nat))[i]? = some (pc, d) → KS l D cI cS cM yX9_round.cls yX9_round.name cX9_round 4 (some .int) (k_rm 1 0 0) false pc d (k_jmp J i)) : KS l D cI cS cM yX9_round.cls yX9_round.name cX9_round 4 (some .int) (k_rm 1 0 0) false 0 0 (b_X9_round_0 J) :=
  s_push1 dX9_round_0 (by decide) (by decide) <|
  s_istore_n dX9_round_1 rfl (by decide) <|
  s_iload_n dX9_round_2 rfl <|
  s_istore_n dX9_round_3 rfl (by decide) <|
  s_X9_round_4 hJ
noncomputable def j_X9_round (J : List KC) : List KC := [b_X9_round_4 J]
noncomputable def m_X9_round (n : Nat) : KF := k_fun [k_u, k_u] (b_X9_round_0 (k_loop (j_X9_round) n))
theorem r_X9_round {l : Launch} {D : va_G} {cI cS cM : ClassId} (n : Nat) : k_snd l D cI cS cM yX9_round cX9_round 4 (some .int) 1 2 (m_X9_round n) :=
  k_method (by decide +kernel) (by simp) rfl (s_X9_round_0 (k_loops (hs := [(4, 0)]) (fun J hJ i pc d h => match i, h with | 0, h => by cases h; exact s_X9_round_4 hJ | _ + 1, h => by simp at h) n))
noncomputable def b_X9_starOf_0 : KC := o_aload 0 <| o_get 9 9 <| o_aload 0 <| o_get 9 10 <| o_aload 0 <| o_get 9 14 <| o_iload 1 <| o_iald <| o_iald <| o_iald <| o_iret
set_option maxRecDepth 100000 in
theorem s_X9_starOf_0 {l : Launch} {D : va_G} {cI cS cM : ClassId} : KS l D cI cS cM yX9_starOf.cls yX9_starOf.name cX9_starOf 2 (some .int) (k_rm 1 0 0) false 0 0 (b_X9_starOf_0) :=
  s_aload_n dX9_starOf_0 rfl <|
  s_get dX9_starOf_1 (ci := 9) (sl := 9) (Cn := RX9) (Tf := TX9) (N := 40) rfl (by decide) kiX9 kw_6_22 <|
  s_aload_n dX9_starOf_4 rfl <|
  s_get dX9_starOf_5 (ci := 9) (sl := 10) (Cn := RX9) (Tf := TX9) (N := 40) rfl (by decide) kiX9 kw_6_23 <|
  s_aload_n dX9_starOf_8 rfl <|
  s_get dX9_starOf_9 (ci := 9) (sl := 14) (Cn := RX9) (Tf := TX9) (N := 40) rfl (by decide) kiX9 kw_7_2 <|
  s_iload_n dX9_starOf_12 rfl <|
  s_iald dX9_starOf_13 <|
  s_iald dX9_starOf_14 <|
  s_iald dX9_starOf_15 <|
  s_ireturn dX9_starOf_16 rfl
noncomputable def m_X9_starOf : KF := k_fun [] (b_X9_starOf_0)
theorem r_X9_starOf {l : Launch} {D : va_G} {cI cS cM : ClassId} : k_snd l D cI cS cM yX9_starOf cX9_starOf 2 (some .int) 1 2 (m_X9_starOf) :=
  k_method (by decide +kernel) (by simp) rfl (s_X9_starOf_0)
noncomputable def b_X9_stays_27 (J : List KC) : KC := o_iload 1 <| o_iret
set_option maxRecDepth 100000 in
theorem s_X9_stays_27 {l : Launch} {D : va_G} {cI cS cM : ClassId} {J : List KC} (hJ : ∀ (i pc d : Nat), ([(4, 0)] : List (Nat × Nat))[i]? = some (pc, d) → KS l D cI cS cM yX9_stays.cls yX9_stays.name cX9_stays 3 (some .int) (k_rm 1 0 0) false pc d (k_jmp J i)) : KS l D cI cS cM yX9_stays.cls yX9_stays.name cX9_stays 3 (some .int) (k_rm 1 0 0) false 27 0 (b_X9_stays_27 J) :=
  s_iload_n dX9_stays_27 rfl <|
  s_ireturn dX9_stays_28 rfl
noncomputable def b_X9_stays_14 (J : List KC) : KC := o_push 10 <| o_iload 1 <| o_bin n_mul <| o_iload 2 <| o_bin n_add <| o_istore 1 <| o_iinc 2 1 <| k_jmp J 0
set_option maxRecDepth 100000 in
theorem s_X9_stays_14 {l : Launch} {D : va_G} {cI cS cM : ClassId} {J : List KC} (hJ : ∀ (i pc d : Nat), ([(4, 0)] : List (Nat × Nat))[i]? = some (pc, d) → KS l D cI cS cM yX9_stays.cls yX9_stays.name cX9_stays 3 (some .int) (k_rm 1 0 0) false pc d (k_jmp J i)) : KS l D cI cS cM yX9_stays.cls yX9_stays.name cX9_stays 3 (some .int) (k_rm 1 0 0) false 14 0 (b_X9_stays_14 J) :=
  s_push2 dX9_stays_14 (by decide) (by decide) <|
  s_iload_n dX9_stays_16 rfl <|
  s_imul dX9_stays_17 <|
  s_iload_n dX9_stays_18 rfl <|
  s_iadd dX9_stays_19 <|
  s_istore_n dX9_stays_20 rfl (by decide) <|
  s_iinc dX9_stays_21 (by decide) (by decide) <|
  s_goto dX9_stays_24 (by decide) (hJ 0 _ _ rfl)
noncomputable def b_X9_stays_4 (J : List KC) : KC := o_iload 2 <| o_aload 0 <| o_get 9 0 <| o_push 0 <| o_iald <| o_c2 s_lt (b_X9_stays_14 J) (b_X9_stays_27 J)
set_option maxRecDepth 100000 in
theorem s_X9_stays_4 {l : Launch} {D : va_G} {cI cS cM : ClassId} {J : List KC} (hJ : ∀ (i pc d : Nat), ([(4, 0)] : List (Nat × Nat))[i]? = some (pc, d) → KS l D cI cS cM yX9_stays.cls yX9_stays.name cX9_stays 3 (some .int) (k_rm 1 0 0) false pc d (k_jmp J i)) : KS l D cI cS cM yX9_stays.cls yX9_stays.name cX9_stays 3 (some .int) (k_rm 1 0 0) false 4 0 (b_X9_stays_4 J) :=
  s_iload_n dX9_stays_4 rfl <|
  s_aload_n dX9_stays_5 rfl <|
  s_get dX9_stays_6 (ci := 9) (sl := 0) (Cn := RX9) (Tf := TX9) (N := 40) rfl (by decide) kiX9 kw_6_16 <|
  s_push1 dX9_stays_9 (by decide) (by decide) <|
  s_iald dX9_stays_10 <|
  s_icmp_ge dX9_stays_11 (by decide) (s_X9_stays_27 hJ) (s_X9_stays_14 hJ)
noncomputable def b_X9_stays_0 (J : List KC) : KC := o_push 0 <| o_istore 1 <| o_push 0 <| o_istore 2 <| b_X9_stays_4 J
set_option maxRecDepth 100000 in
theorem s_X9_stays_0 {l : Launch} {D : va_G} {cI cS cM : ClassId} {J : List KC} (hJ : ∀ (i pc d : Nat), ([(4, 0)] : List (Nat × Nat))[i]? = some (pc, d) → KS l D cI cS cM yX9_stays.cls yX9_stays.name cX9_stays 3 (some .int) (k_rm 1 0 0) false pc d (k_jmp J i)) : KS l D cI cS cM yX9_stays.cls yX9_stays.name cX9_stays 3 (some .int) (k_rm 1 0 0) false 0 0 (b_X9_stays_0 J) :=
  s_push1 dX9_stays_0 (by decide) (by decide) <|
  s_istore_n dX9_stays_1 rfl (by decide) <|
  s_push1 dX9_stays_2 (by decide) (by decide) <|
  s_istore_n dX9_stays_3 rfl (by decide) <|
  s_X9_stays_4 hJ
noncomputable def j_X9_stays (J : List KC) : List KC := [b_X9_stays_4 J]
noncomputable def m_X9_stays (n : Nat) : KF := k_fun [k_u, k_u] (b_X9_stays_0 (k_loop (j_X9_stays) n))
theorem r_X9_stays {l : Launch} {D : va_G} {cI cS cM : ClassId} (n : Nat) : k_snd l D cI cS cM yX9_stays cX9_stays 3 (some .int) 1 1 (m_X9_stays n) :=
  k_method (by decide +kernel) (by simp) rfl (s_X9_stays_0 (k_loops (hs := [(4, 0)]) (fun J hJ i pc d h => match i, h with | 0, h => by cases h; exact s_X9_stays_4 hJ | _ + 1, h => by simp at h) n))
noncomputable def b_X9_then_0 : KC := o_aload 0 <| o_get 9 8 <| o_push 120 <| o_iload 1 <| o_bin n_mul <| o_iload 2 <| o_bin n_add <| o_iald <| o_iret
set_option maxRecDepth 100000 in
theorem s_X9_then_0 {l : Launch} {D : va_G} {cI cS cM : ClassId} : KS l D cI cS cM yX9_then.cls yX9_then.name cX9_then 3 (some .int) (k_rm 1 0 0) false 0 0 (b_X9_then_0) :=
  s_aload_n dX9_then_0 rfl <|
  s_get dX9_then_1 (ci := 9) (sl := 8) (Cn := RX9) (Tf := TX9) (N := 40) rfl (by decide) kiX9 kw_6_21 <|
  s_push2 dX9_then_4 (by decide) (by decide) <|
  s_iload_n dX9_then_6 rfl <|
  s_imul dX9_then_7 <|
  s_iload_n dX9_then_8 rfl <|
  s_iadd dX9_then_9 <|
  s_iald dX9_then_10 <|
  s_ireturn dX9_then_11 rfl
noncomputable def m_X9_then : KF := k_fun [] (b_X9_then_0)
theorem r_X9_then {l : Launch} {D : va_G} {cI cS cM : ClassId} : k_snd l D cI cS cM yX9_then cX9_then 3 (some .int) 1 3 (m_X9_then) :=
  k_method (by decide +kernel) (by simp) rfl (s_X9_then_0)
noncomputable def b_X9_to_29 (J : List KC) : KC := o_iload 3 <| o_push 10 <| o_div n_rem <| o_iret
set_option maxRecDepth 100000 in
theorem s_X9_to_29 {l : Launch} {D : va_G} {cI cS cM : ClassId} {J : List KC} (hJ : ∀ (i pc d : Nat), ([(12, 0)] : List (Nat × Nat))[i]? = some (pc, d) → KS l D cI cS cM yX9_to.cls yX9_to.name cX9_to 5 (some .int) (k_rm 1 0 0) false pc d (k_jmp J i)) : KS l D cI cS cM yX9_to.cls yX9_to.name cX9_to 5 (some .int) (k_rm 1 0 0) false 29 0 (b_X9_to_29 J) :=
  s_iload_n dX9_to_29 rfl <|
  s_push2 dX9_to_30 (by decide) (by decide) <|
  s_irem dX9_to_32 <|
  s_ireturn dX9_to_33 rfl
noncomputable def b_X9_to_18 (J : List KC) : KC := o_iload 3 <| o_push 10 <| o_div n_div <| o_istore 3 <| o_iinc 4 4294967295 <| k_jmp J 0
set_option maxRecDepth 100000 in
theorem s_X9_to_18 {l : Launch} {D : va_G} {cI cS cM : ClassId} {J : List KC} (hJ : ∀ (i pc d : Nat), ([(12, 0)] : List (Nat × Nat))[i]? = some (pc, d) → KS l D cI cS cM yX9_to.cls yX9_to.name cX9_to 5 (some .int) (k_rm 1 0 0) false pc d (k_jmp J i)) : KS l D cI cS cM yX9_to.cls yX9_to.name cX9_to 5 (some .int) (k_rm 1 0 0) false 18 0 (b_X9_to_18 J) :=
  s_iload_n dX9_to_18 rfl <|
  s_push2 dX9_to_19 (by decide) (by decide) <|
  s_idiv dX9_to_21 <|
  s_istore_n dX9_to_22 rfl (by decide) <|
  s_iinc dX9_to_23 (by decide) (by decide) <|
  s_goto dX9_to_26 (by decide) (hJ 0 _ _ rfl)
noncomputable def b_X9_to_12 (J : List KC) : KC := o_iload 4 <| o_iload 2 <| o_c2 s_gt (b_X9_to_18 J) (b_X9_to_29 J)
set_option maxRecDepth 100000 in
theorem s_X9_to_12 {l : Launch} {D : va_G} {cI cS cM : ClassId} {J : List KC} (hJ : ∀ (i pc d : Nat), ([(12, 0)] : List (Nat × Nat))[i]? = some (pc, d) → KS l D cI cS cM yX9_to.cls yX9_to.name cX9_to 5 (some .int) (k_rm 1 0 0) false pc d (k_jmp J i)) : KS l D cI cS cM yX9_to.cls yX9_to.name cX9_to 5 (some .int) (k_rm 1 0 0) false 12 0 (b_X9_to_12 J) :=
  s_iload dX9_to_12 <|
  s_iload_n dX9_to_14 rfl <|
  s_icmp_le dX9_to_15 (by decide) (s_X9_to_29 hJ) (s_X9_to_18 hJ)
noncomputable def b_X9_to_0 (J : List KC) : KC := o_iload 1 <| o_istore 3 <| o_aload 0 <| o_get 9 0 <| o_push 0 <| o_iald <| o_push 1 <| o_bin n_sub <| o_istore 4 <| b_X9_to_12 J
set_option maxRecDepth 100000 in
theorem s_X9_to_0 {l : Launch} {D : va_G} {cI cS cM : ClassId} {J : List KC} (hJ : ∀ (i pc d : Nat), ([(12, 0)] : List (Nat × Nat))[i]? = some (pc, d) → KS l D cI cS cM yX9_to.cls yX9_to.name cX9_to 5 (some .int) (k_rm 1 0 0) false pc d (k_jmp J i)) : KS l D cI cS cM yX9_to.cls yX9_to.name cX9_to 5 (some .int) (k_rm 1 0 0) false 0 0 (b_X9_to_0 J) :=
  s_iload_n dX9_to_0 rfl <|
  s_istore_n dX9_to_1 rfl (by decide) <|
  s_aload_n dX9_to_2 rfl <|
  s_get dX9_to_3 (ci := 9) (sl := 0) (Cn := RX9) (Tf := TX9) (N := 40) rfl (by decide) kiX9 kw_6_16 <|
  s_push1 dX9_to_6 (by decide) (by decide) <|
  s_iald dX9_to_7 <|
  s_push1 dX9_to_8 (by decide) (by decide) <|
  s_isub dX9_to_9 <|
  s_istore dX9_to_10 (by decide) <|
  s_X9_to_12 hJ
noncomputable def j_X9_to (J : List KC) : List KC := [b_X9_to_12 J]
noncomputable def m_X9_to (n : Nat) : KF := k_fun [k_u, k_u] (b_X9_to_0 (k_loop (j_X9_to) n))
theorem r_X9_to {l : Launch} {D : va_G} {cI cS cM : ClassId} (n : Nat) : k_snd l D cI cS cM yX9_to cX9_to 5 (some .int) 1 3 (m_X9_to n) :=
  k_method (by decide +kernel) (by simp) rfl (s_X9_to_0 (k_loops (hs := [(12, 0)]) (fun J hJ i pc d h => match i, h with | 0, h => by cases h; exact s_X9_to_12 hJ | _ + 1, h => by simp at h) n))
noncomputable def b_X9_toldOf_47 : KC := o_iret
set_option maxRecDepth 100000 in
theorem s_X9_toldOf_47 {l : Launch} {D : va_G} {cI cS cM : ClassId} : KS l D cI cS cM yX9_toldOf.cls yX9_toldOf.name cX9_toldOf 2 (some .int) (k_rm 1 0 0) false 47 1 (b_X9_toldOf_47) :=
  s_ireturn dX9_toldOf_47 rfl
noncomputable def b_X9_toldOf_43 : KC := o_aload 0 <| o_get 9 3 <| b_X9_toldOf_47
set_option maxRecDepth 100000 in
theorem s_X9_toldOf_43 {l : Launch} {D : va_G} {cI cS cM : ClassId} : KS l D cI cS cM yX9_toldOf.cls yX9_toldOf.name cX9_toldOf 2 (some .int) (k_rm 1 0 0) false 43 0 (b_X9_toldOf_43) :=
  s_aload_n dX9_toldOf_43 rfl <|
  s_get dX9_toldOf_44 (ci := 9) (sl := 3) (Cn := RX9) (Tf := TX9) (N := 40) rfl (by decide) kiX9 kw_10_9 <|
  s_X9_toldOf_47
noncomputable def b_X9_toldOf_32 : KC := o_aload 0 <| o_get 9 0 <| o_iload 1 <| o_push 4 <| o_bin n_sub <| o_iald <| b_X9_toldOf_47
set_option maxRecDepth 100000 in
theorem s_X9_toldOf_32 {l : Launch} {D : va_G} {cI cS cM : ClassId} : KS l D cI cS cM yX9_toldOf.cls yX9_toldOf.name cX9_toldOf 2 (some .int) (k_rm 1 0 0) false 32 0 (b_X9_toldOf_32) :=
  s_aload_n dX9_toldOf_32 rfl <|
  s_get dX9_toldOf_33 (ci := 9) (sl := 0) (Cn := RX9) (Tf := TX9) (N := 40) rfl (by decide) kiX9 kw_6_16 <|
  s_iload_n dX9_toldOf_36 rfl <|
  s_push1 dX9_toldOf_37 (by decide) (by decide) <|
  s_isub dX9_toldOf_38 <|
  s_iald dX9_toldOf_39 <|
  s_goto dX9_toldOf_40 (by decide) (s_X9_toldOf_47)
noncomputable def b_X9_toldOf_26 : KC := o_iload 1 <| o_push 6 <| o_c2 s_lt (b_X9_toldOf_32) (b_X9_toldOf_43)
set_option maxRecDepth 100000 in
theorem s_X9_toldOf_26 {l : Launch} {D : va_G} {cI cS cM : ClassId} : KS l D cI cS cM yX9_toldOf.cls yX9_toldOf.name cX9_toldOf 2 (some .int) (k_rm 1 0 0) false 26 0 (b_X9_toldOf_26) :=
  s_iload_n dX9_toldOf_26 rfl <|
  s_push2 dX9_toldOf_27 (by decide) (by decide) <|
  s_icmp_ge dX9_toldOf_29 (by decide) (s_X9_toldOf_43) (s_X9_toldOf_32)
noncomputable def b_X9_toldOf_19 : KC := o_aload 0 <| o_get 9 32 <| b_X9_toldOf_47
set_option maxRecDepth 100000 in
theorem s_X9_toldOf_19 {l : Launch} {D : va_G} {cI cS cM : ClassId} : KS l D cI cS cM yX9_toldOf.cls yX9_toldOf.name cX9_toldOf 2 (some .int) (k_rm 1 0 0) false 19 0 (b_X9_toldOf_19) :=
  s_aload_n dX9_toldOf_19 rfl <|
  s_get dX9_toldOf_20 (ci := 9) (sl := 32) (Cn := RX9) (Tf := TX9) (N := 40) rfl (by decide) kiX9 kw_35_11 <|
  s_goto dX9_toldOf_23 (by decide) (s_X9_toldOf_47)
noncomputable def b_X9_toldOf_14 : KC := o_iload 1 <| o_push 3 <| o_c2 Nat.beq (b_X9_toldOf_19) (b_X9_toldOf_26)
set_option maxRecDepth 100000 in
theorem s_X9_toldOf_14 {l : Launch} {D : va_G} {cI cS cM : ClassId} : KS l D cI cS cM yX9_toldOf.cls yX9_toldOf.name cX9_toldOf 2 (some .int) (k_rm 1 0 0) false 14 0 (b_X9_toldOf_14) :=
  s_iload_n dX9_toldOf_14 rfl <|
  s_push1 dX9_toldOf_15 (by decide) (by decide) <|
  s_icmp_ne dX9_toldOf_16 (by decide) (s_X9_toldOf_26) (s_X9_toldOf_19)
noncomputable def b_X9_toldOf_5 : KC := o_aload 0 <| o_get 9 4 <| o_iload 1 <| o_iald <| b_X9_toldOf_47
set_option maxRecDepth 100000 in
theorem s_X9_toldOf_5 {l : Launch} {D : va_G} {cI cS cM : ClassId} : KS l D cI cS cM yX9_toldOf.cls yX9_toldOf.name cX9_toldOf 2 (some .int) (k_rm 1 0 0) false 5 0 (b_X9_toldOf_5) :=
  s_aload_n dX9_toldOf_5 rfl <|
  s_get dX9_toldOf_6 (ci := 9) (sl := 4) (Cn := RX9) (Tf := TX9) (N := 40) rfl (by decide) kiX9 kw_6_19 <|
  s_iload_n dX9_toldOf_9 rfl <|
  s_iald dX9_toldOf_10 <|
  s_goto dX9_toldOf_11 (by decide) (s_X9_toldOf_47)
noncomputable def b_X9_toldOf_0 : KC := o_iload 1 <| o_push 3 <| o_c2 s_lt (b_X9_toldOf_5) (b_X9_toldOf_14)
set_option maxRecDepth 100000 in
theorem s_X9_toldOf_0 {l : Launch} {D : va_G} {cI cS cM : ClassId} : KS l D cI cS cM yX9_toldOf.cls yX9_toldOf.name cX9_toldOf 2 (some .int) (k_rm 1 0 0) false 0 0 (b_X9_toldOf_0) :=
  s_iload_n dX9_toldOf_0 rfl <|
  s_push1 dX9_toldOf_1 (by decide) (by decide) <|
  s_icmp_ge dX9_toldOf_2 (by decide) (s_X9_toldOf_14) (s_X9_toldOf_5)
noncomputable def m_X9_toldOf : KF := k_fun [] (b_X9_toldOf_0)
theorem r_X9_toldOf {l : Launch} {D : va_G} {cI cS cM : ClassId} : k_snd l D cI cS cM yX9_toldOf cX9_toldOf 2 (some .int) 1 2 (m_X9_toldOf) :=
  k_method (by decide +kernel) (by simp) rfl (s_X9_toldOf_0)
noncomputable def b_X9_back_56 (F_X9_refuses : KF) (J : List KC) : KC := o_aload 0 <| o_push 0 <| o_putz 9 5 <| o_aload 0 <| o_get 9 3 <| o_iret
set_option maxRecDepth 100000 in
theorem s_X9_back_56 {l : Launch} {D : va_G} {cI cS cM : ClassId} {F_X9_refuses : KF} (h_X9_refuses : k_snd l D cI cS cM yX9_refuses cX9_refuses 2 (some .int) 1 2 F_X9_refuses) {J : List KC} (hJ : ∀ (i pc d : Nat), ([(26, 0)] : List (Nat × Nat))[i]? = some (pc, d) → KS l D cI cS cM yX9_back.cls yX9_back.name cX9_back 2 (some .int) (k_rm 2 0 0) false pc d (k_jmp J i)) : KS l D cI cS cM yX9_back.cls yX9_back.name cX9_back 2 (some .int) (k_rm 2 0 0) false 56 0 (b_X9_back_56 F_X9_refuses J) :=
  s_aload_n dX9_back_56 rfl <|
  s_push1 dX9_back_57 (by decide) (by decide) <|
  s_putz dX9_back_58 (ci := 9) (sl := 5) (Cn := RX9) (Tf := TX9) (N := 40) (tyf := tyX9) rfl (by decide) kiX9 tyX9_ok nmX9 kw_9_17 rfl rfl <|
  s_aload_n dX9_back_61 rfl <|
  s_get dX9_back_62 (ci := 9) (sl := 3) (Cn := RX9) (Tf := TX9) (N := 40) rfl (by decide) kiX9 kw_10_9 <|
  s_ireturn dX9_back_65 rfl
noncomputable def b_X9_back_31 (F_X9_refuses : KF) (J : List KC) : KC := o_aload 0 <| o_get 9 0 <| o_iload 1 <| o_aload 0 <| o_get 9 2 <| o_push 5 <| o_aload 0 <| o_get 9 3 <| o_bin n_mul <| o_iload 1 <| o_bin n_add <| o_iald <| o_iast <| o_iinc 1 1 <| k_jmp J 0
set_option maxRecDepth 100000 in
theorem s_X9_back_31 {l : Launch} {D : va_G} {cI cS cM : ClassId} {F_X9_refuses : KF} (h_X9_refuses : k_snd l D cI cS cM yX9_refuses cX9_refuses 2 (some .int) 1 2 F_X9_refuses) {J : List KC} (hJ : ∀ (i pc d : Nat), ([(26, 0)] : List (Nat × Nat))[i]? = some (pc, d) → KS l D cI cS cM yX9_back.cls yX9_back.name cX9_back 2 (some .int) (k_rm 2 0 0) false pc d (k_jmp J i)) : KS l D cI cS cM yX9_back.cls yX9_back.name cX9_back 2 (some .int) (k_rm 2 0 0) false 31 0 (b_X9_back_31 F_X9_refuses J) :=
  s_aload_n dX9_back_31 rfl <|
  s_get dX9_back_32 (ci := 9) (sl := 0) (Cn := RX9) (Tf := TX9) (N := 40) rfl (by decide) kiX9 kw_6_16 <|
  s_iload_n dX9_back_35 rfl <|
  s_aload_n dX9_back_36 rfl <|
  s_get dX9_back_37 (ci := 9) (sl := 2) (Cn := RX9) (Tf := TX9) (N := 40) rfl (by decide) kiX9 kw_6_18 <|
  s_push1 dX9_back_40 (by decide) (by decide) <|
  s_aload_n dX9_back_41 rfl <|
  s_get dX9_back_42 (ci := 9) (sl := 3) (Cn := RX9) (Tf := TX9) (N := 40) rfl (by decide) kiX9 kw_10_9 <|
  s_imul dX9_back_45 <|
  s_iload_n dX9_back_46 rfl <|
  s_iadd dX9_back_47 <|
  s_iald dX9_back_48 <|
  s_iast dX9_back_49 <|
  s_iinc dX9_back_50 (by decide) (by decide) <|
  s_goto dX9_back_53 (by decide) (hJ 0 _ _ rfl)
noncomputable def b_X9_back_26 (F_X9_refuses : KF) (J : List KC) : KC := o_iload 1 <| o_push 5 <| o_c2 s_lt (b_X9_back_31 F_X9_refuses J) (b_X9_back_56 F_X9_refuses J)
set_option maxRecDepth 100000 in
theorem s_X9_back_26 {l : Launch} {D : va_G} {cI cS cM : ClassId} {F_X9_refuses : KF} (h_X9_refuses : k_snd l D cI cS cM yX9_refuses cX9_refuses 2 (some .int) 1 2 F_X9_refuses) {J : List KC} (hJ : ∀ (i pc d : Nat), ([(26, 0)] : List (Nat × Nat))[i]? = some (pc, d) → KS l D cI cS cM yX9_back.cls yX9_back.name cX9_back 2 (some .int) (k_rm 2 0 0) false pc d (k_jmp J i)) : KS l D cI cS cM yX9_back.cls yX9_back.name cX9_back 2 (some .int) (k_rm 2 0 0) false 26 0 (b_X9_back_26 F_X9_refuses J) :=
  s_iload_n dX9_back_26 rfl <|
  s_push1 dX9_back_27 (by decide) (by decide) <|
  s_icmp_ge dX9_back_28 (by decide) (s_X9_back_56 h_X9_refuses hJ) (s_X9_back_31 h_X9_refuses hJ)
noncomputable def b_X9_back_14 (F_X9_refuses : KF) (J : List KC) : KC := o_aload 0 <| o_dup <| o_get 9 3 <| o_push 1 <| o_bin n_sub <| o_puti 9 3 <| o_push 0 <| o_istore 1 <| b_X9_back_26 F_X9_refuses J
set_option maxRecDepth 100000 in
theorem s_X9_back_14 {l : Launch} {D : va_G} {cI cS cM : ClassId} {F_X9_refuses : KF} (h_X9_refuses : k_snd l D cI cS cM yX9_refuses cX9_refuses 2 (some .int) 1 2 F_X9_refuses) {J : List KC} (hJ : ∀ (i pc d : Nat), ([(26, 0)] : List (Nat × Nat))[i]? = some (pc, d) → KS l D cI cS cM yX9_back.cls yX9_back.name cX9_back 2 (some .int) (k_rm 2 0 0) false pc d (k_jmp J i)) : KS l D cI cS cM yX9_back.cls yX9_back.name cX9_back 2 (some .int) (k_rm 2 0 0) false 14 0 (b_X9_back_14 F_X9_refuses J) :=
  s_aload_n dX9_back_14 rfl <|
  s_dup dX9_back_15 <|
  s_get dX9_back_16 (ci := 9) (sl := 3) (Cn := RX9) (Tf := TX9) (N := 40) rfl (by decide) kiX9 kw_10_9 <|
  s_push1 dX9_back_19 (by decide) (by decide) <|
  s_isub dX9_back_20 <|
  s_puti dX9_back_21 (ci := 9) (sl := 3) (Cn := RX9) (Tf := TX9) (N := 40) (tyf := tyX9) rfl (by decide) kiX9 tyX9_ok nmX9 kw_10_9 rfl rfl <|
  s_push1 dX9_back_24 (by decide) (by decide) <|
  s_istore_n dX9_back_25 rfl (by decide) <|
  s_X9_back_26 h_X9_refuses hJ
noncomputable def b_X9_back_7 (F_X9_refuses : KF) (J : List KC) : KC := o_aload 0 <| o_push 4294967293 <| o_cV1 2 9 F_X9_refuses <| o_iret
set_option maxRecDepth 100000 in
theorem s_X9_back_7 {l : Launch} {D : va_G} {cI cS cM : ClassId} {F_X9_refuses : KF} (h_X9_refuses : k_snd l D cI cS cM yX9_refuses cX9_refuses 2 (some .int) 1 2 F_X9_refuses) {J : List KC} (hJ : ∀ (i pc d : Nat), ([(26, 0)] : List (Nat × Nat))[i]? = some (pc, d) → KS l D cI cS cM yX9_back.cls yX9_back.name cX9_back 2 (some .int) (k_rm 2 0 0) false pc d (k_jmp J i)) : KS l D cI cS cM yX9_back.cls yX9_back.name cX9_back 2 (some .int) (k_rm 2 0 0) false 7 0 (b_X9_back_7 F_X9_refuses J) :=
  s_aload_n dX9_back_7 rfl <|
  s_push2 dX9_back_8 (by decide) (by decide) <|
  s_callV1 dX9_back_10 kw_10_1 kw_10_2 kw_10_3 (ci := 9) rfl ok_X9_refuses (by decide) (by decide) h_X9_refuses (by decide) <|
  s_ireturn dX9_back_13 rfl
noncomputable def b_X9_back_0 (F_X9_refuses : KF) (J : List KC) : KC := o_aload 0 <| o_get 9 3 <| o_c1 g_eq (b_X9_back_7 F_X9_refuses J) (b_X9_back_14 F_X9_refuses J)
set_option maxRecDepth 100000 in
theorem s_X9_back_0 {l : Launch} {D : va_G} {cI cS cM : ClassId} {F_X9_refuses : KF} (h_X9_refuses : k_snd l D cI cS cM yX9_refuses cX9_refuses 2 (some .int) 1 2 F_X9_refuses) {J : List KC} (hJ : ∀ (i pc d : Nat), ([(26, 0)] : List (Nat × Nat))[i]? = some (pc, d) → KS l D cI cS cM yX9_back.cls yX9_back.name cX9_back 2 (some .int) (k_rm 2 0 0) false pc d (k_jmp J i)) : KS l D cI cS cM yX9_back.cls yX9_back.name cX9_back 2 (some .int) (k_rm 2 0 0) false 0 0 (b_X9_back_0 F_X9_refuses J) :=
  s_aload_n dX9_back_0 rfl <|
  s_get dX9_back_1 (ci := 9) (sl := 3) (Cn := RX9) (Tf := TX9) (N := 40) rfl (by decide) kiX9 kw_10_9 <|
  s_if_ne dX9_back_4 (by decide) (s_X9_back_14 h_X9_refuses hJ) (s_X9_back_7 h_X9_refuses hJ)
noncomputable def j_X9_back (F_X9_refuses : KF) (J : List KC) : List KC := [b_X9_back_26 F_X9_refuses J]
noncomputable def m_X9_back (F_X9_refuses : KF) (n : Nat) : KF := k_fun [k_u] (b_X9_back_0 F_X9_refuses (k_loop (j_X9_back F_X9_refuses) n))
theorem r_X9_back {l : Launch} {D : va_G} {cI cS cM : ClassId} {F_X9_refuses : KF} (h_X9_refuses : k_snd l D cI cS cM yX9_refuses cX9_refuses 2 (some .int) 1 2 F_X9_refuses) (n : Nat) : k_snd l D cI cS cM yX9_back cX9_back 2 (some .int) 2 1 (m_X9_back F_X9_refuses n) :=
  k_method (by decide +kernel) (by simp) rfl (s_X9_back_0 h_X9_refuses (k_loops (hs := [(26, 0)]) (fun J hJ i pc d h => match i, h with | 0, h => by cases h; exact s_X9_back_26 h_X9_refuses hJ | _ + 1, h => by simp at h) n))
noncomputable def b_X9_both_40 (F_X9_to : KF) (J : List KC) : KC := o_iload 3 <| o_iret
set_option maxRecDepth 100000 in
theorem s_X9_both_40 {l : Launch} {D : va_G} {cI cS cM : ClassId} {F_X9_to : KF} (h_X9_to : k_snd l D cI cS cM yX9_to cX9_to 5 (some .int) 1 3 F_X9_to) {J : List KC} (hJ : ∀ (i pc d : Nat), ([(5, 0)] : List (Nat × Nat))[i]? = some (pc, d) → KS l D cI cS cM yX9_both.cls yX9_both.name cX9_both 5 (some .int) (k_rm 2 0 0) false pc d (k_jmp J i)) : KS l D cI cS cM yX9_both.cls yX9_both.name cX9_both 5 (some .int) (k_rm 2 0 0) false 40 0 (b_X9_both_40 F_X9_to J) :=
  s_iload_n dX9_both_40 rfl <|
  s_ireturn dX9_both_41 rfl
noncomputable def b_X9_both_16 (F_X9_to : KF) (J : List KC) : KC := o_push 10 <| o_iload 3 <| o_bin n_mul <| o_aload 0 <| o_iload 2 <| o_aload 0 <| o_iload 1 <| o_iload 4 <| o_cV1 3 9 F_X9_to <| o_cV1 3 9 F_X9_to <| o_bin n_add <| o_istore 3 <| o_iinc 4 1 <| k_jmp J 0
set_option maxRecDepth 100000 in
theorem s_X9_both_16 {l : Launch} {D : va_G} {cI cS cM : ClassId} {F_X9_to : KF} (h_X9_to : k_snd l D cI cS cM yX9_to cX9_to 5 (some .int) 1 3 F_X9_to) {J : List KC} (hJ : ∀ (i pc d : Nat), ([(5, 0)] : List (Nat × Nat))[i]? = some (pc, d) → KS l D cI cS cM yX9_both.cls yX9_both.name cX9_both 5 (some .int) (k_rm 2 0 0) false pc d (k_jmp J i)) : KS l D cI cS cM yX9_both.cls yX9_both.name cX9_both 5 (some .int) (k_rm 2 0 0) false 16 0 (b_X9_both_16 F_X9_to J) :=
  s_push2 dX9_both_16 (by decide) (by decide) <|
  s_iload_n dX9_both_18 rfl <|
  s_imul dX9_both_19 <|
  s_aload_n dX9_both_20 rfl <|
  s_iload_n dX9_both_21 rfl <|
  s_aload_n dX9_both_22 rfl <|
  s_iload_n dX9_both_23 rfl <|
  s_iload dX9_both_24 <|
  s_callV1 dX9_both_26 kw_11_10 kw_11_11 kw_11_12 (ci := 9) rfl ok_X9_to (by decide) (by decide) h_X9_to (by decide) <|
  s_callV1 dX9_both_29 kw_11_10 kw_11_11 kw_11_12 (ci := 9) rfl ok_X9_to (by decide) (by decide) h_X9_to (by decide) <|
  s_iadd dX9_both_32 <|
  s_istore_n dX9_both_33 rfl (by decide) <|
  s_iinc dX9_both_34 (by decide) (by decide) <|
  s_goto dX9_both_37 (by decide) (hJ 0 _ _ rfl)
noncomputable def b_X9_both_5 (F_X9_to : KF) (J : List KC) : KC := o_iload 4 <| o_aload 0 <| o_get 9 0 <| o_push 0 <| o_iald <| o_c2 s_lt (b_X9_both_16 F_X9_to J) (b_X9_both_40 F_X9_to J)
set_option maxRecDepth 100000 in
theorem s_X9_both_5 {l : Launch} {D : va_G} {cI cS cM : ClassId} {F_X9_to : KF} (h_X9_to : k_snd l D cI cS cM yX9_to cX9_to 5 (some .int) 1 3 F_X9_to) {J : List KC} (hJ : ∀ (i pc d : Nat), ([(5, 0)] : List (Nat × Nat))[i]? = some (pc, d) → KS l D cI cS cM yX9_both.cls yX9_both.name cX9_both 5 (some .int) (k_rm 2 0 0) false pc d (k_jmp J i)) : KS l D cI cS cM yX9_both.cls yX9_both.name cX9_both 5 (some .int) (k_rm 2 0 0) false 5 0 (b_X9_both_5 F_X9_to J) :=
  s_iload dX9_both_5 <|
  s_aload_n dX9_both_7 rfl <|
  s_get dX9_both_8 (ci := 9) (sl := 0) (Cn := RX9) (Tf := TX9) (N := 40) rfl (by decide) kiX9 kw_6_16 <|
  s_push1 dX9_both_11 (by decide) (by decide) <|
  s_iald dX9_both_12 <|
  s_icmp_ge dX9_both_13 (by decide) (s_X9_both_40 h_X9_to hJ) (s_X9_both_16 h_X9_to hJ)
noncomputable def b_X9_both_0 (F_X9_to : KF) (J : List KC) : KC := o_push 0 <| o_istore 3 <| o_push 0 <| o_istore 4 <| b_X9_both_5 F_X9_to J
set_option maxRecDepth 100000 in
theorem s_X9_both_0 {l : Launch} {D : va_G} {cI cS cM : ClassId} {F_X9_to : KF} (h_X9_to : k_snd l D cI cS cM yX9_to cX9_to 5 (some .int) 1 3 F_X9_to) {J : List KC} (hJ : ∀ (i pc d : Nat), ([(5, 0)] : List (Nat × Nat))[i]? = some (pc, d) → KS l D cI cS cM yX9_both.cls yX9_both.name cX9_both 5 (some .int) (k_rm 2 0 0) false pc d (k_jmp J i)) : KS l D cI cS cM yX9_both.cls yX9_both.name cX9_both 5 (some .int) (k_rm 2 0 0) false 0 0 (b_X9_both_0 F_X9_to J) :=
  s_push1 dX9_both_0 (by decide) (by decide) <|
  s_istore_n dX9_both_1 rfl (by decide) <|
  s_push1 dX9_both_2 (by decide) (by decide) <|
  s_istore dX9_both_3 (by decide) <|
  s_X9_both_5 h_X9_to hJ
noncomputable def j_X9_both (F_X9_to : KF) (J : List KC) : List KC := [b_X9_both_5 F_X9_to J]
noncomputable def m_X9_both (F_X9_to : KF) (n : Nat) : KF := k_fun [k_u, k_u] (b_X9_both_0 F_X9_to (k_loop (j_X9_both F_X9_to) n))
theorem r_X9_both {l : Launch} {D : va_G} {cI cS cM : ClassId} {F_X9_to : KF} (h_X9_to : k_snd l D cI cS cM yX9_to cX9_to 5 (some .int) 1 3 F_X9_to) (n : Nat) : k_snd l D cI cS cM yX9_both cX9_both 5 (some .int) 2 3 (m_X9_both F_X9_to n) :=
  k_method (by decide +kernel) (by simp) rfl (s_X9_both_0 h_X9_to (k_loops (hs := [(5, 0)]) (fun J hJ i pc d h => match i, h with | 0, h => by cases h; exact s_X9_both_5 h_X9_to hJ | _ + 1, h => by simp at h) n))
noncomputable def b_X9_by_23 (F_X9_over : KF) (J : List KC) : KC := o_iload 3 <| o_iret
set_option maxRecDepth 100000 in
theorem s_X9_by_23 {l : Launch} {D : va_G} {cI cS cM : ClassId} {F_X9_over : KF} (h_X9_over : k_snd l D cI cS cM yX9_over cX9_over 3 (some .int) 1 2 F_X9_over) {J : List KC} (hJ : ∀ (i pc d : Nat), ([(2, 0)] : List (Nat × Nat))[i]? = some (pc, d) → KS l D cI cS cM yX9_by.cls yX9_by.name cX9_by 4 (some .int) (k_rm 2 0 0) false pc d (k_jmp J i)) : KS l D cI cS cM yX9_by.cls yX9_by.name cX9_by 4 (some .int) (k_rm 2 0 0) false 23 0 (b_X9_by_23 F_X9_over J) :=
  s_iload_n dX9_by_23 rfl <|
  s_ireturn dX9_by_24 rfl
noncomputable def b_X9_by_17 (F_X9_over : KF) (J : List KC) : KC := o_iinc 3 1 <| k_jmp J 0
set_option maxRecDepth 100000 in
theorem s_X9_by_17 {l : Launch} {D : va_G} {cI cS cM : ClassId} {F_X9_over : KF} (h_X9_over : k_snd l D cI cS cM yX9_over cX9_over 3 (some .int) 1 2 F_X9_over) {J : List KC} (hJ : ∀ (i pc d : Nat), ([(2, 0)] : List (Nat × Nat))[i]? = some (pc, d) → KS l D cI cS cM yX9_by.cls yX9_by.name cX9_by 4 (some .int) (k_rm 2 0 0) false pc d (k_jmp J i)) : KS l D cI cS cM yX9_by.cls yX9_by.name cX9_by 4 (some .int) (k_rm 2 0 0) false 17 0 (b_X9_by_17 F_X9_over J) :=
  s_iinc dX9_by_17 (by decide) (by decide) <|
  s_goto dX9_by_20 (by decide) (hJ 0 _ _ rfl)
noncomputable def b_X9_by_2 (F_X9_over : KF) (J : List KC) : KC := o_aload 0 <| o_iload 3 <| o_iload 2 <| o_bin n_mul <| o_cV1 2 9 F_X9_over <| o_aload 0 <| o_iload 1 <| o_cV1 2 9 F_X9_over <| o_c2 Nat.beq (b_X9_by_23 F_X9_over J) (b_X9_by_17 F_X9_over J)
set_option maxRecDepth 100000 in
theorem s_X9_by_2 {l : Launch} {D : va_G} {cI cS cM : ClassId} {F_X9_over : KF} (h_X9_over : k_snd l D cI cS cM yX9_over cX9_over 3 (some .int) 1 2 F_X9_over) {J : List KC} (hJ : ∀ (i pc d : Nat), ([(2, 0)] : List (Nat × Nat))[i]? = some (pc, d) → KS l D cI cS cM yX9_by.cls yX9_by.name cX9_by 4 (some .int) (k_rm 2 0 0) false pc d (k_jmp J i)) : KS l D cI cS cM yX9_by.cls yX9_by.name cX9_by 4 (some .int) (k_rm 2 0 0) false 2 0 (b_X9_by_2 F_X9_over J) :=
  s_aload_n dX9_by_2 rfl <|
  s_iload_n dX9_by_3 rfl <|
  s_iload_n dX9_by_4 rfl <|
  s_imul dX9_by_5 <|
  s_callV1 dX9_by_6 kw_25_14 kw_25_15 kw_25_16 (ci := 9) rfl ok_X9_over (by decide) (by decide) h_X9_over (by decide) <|
  s_aload_n dX9_by_9 rfl <|
  s_iload_n dX9_by_10 rfl <|
  s_callV1 dX9_by_11 kw_25_14 kw_25_15 kw_25_16 (ci := 9) rfl ok_X9_over (by decide) (by decide) h_X9_over (by decide) <|
  s_icmp_eq dX9_by_14 (by decide) (s_X9_by_23 h_X9_over hJ) (s_X9_by_17 h_X9_over hJ)
noncomputable def b_X9_by_0 (F_X9_over : KF) (J : List KC) : KC := o_push 0 <| o_istore 3 <| b_X9_by_2 F_X9_over J
set_option maxRecDepth 100000 in
theorem s_X9_by_0 {l : Launch} {D : va_G} {cI cS cM : ClassId} {F_X9_over : KF} (h_X9_over : k_snd l D cI cS cM yX9_over cX9_over 3 (some .int) 1 2 F_X9_over) {J : List KC} (hJ : ∀ (i pc d : Nat), ([(2, 0)] : List (Nat × Nat))[i]? = some (pc, d) → KS l D cI cS cM yX9_by.cls yX9_by.name cX9_by 4 (some .int) (k_rm 2 0 0) false pc d (k_jmp J i)) : KS l D cI cS cM yX9_by.cls yX9_by.name cX9_by 4 (some .int) (k_rm 2 0 0) false 0 0 (b_X9_by_0 F_X9_over J) :=
  s_push1 dX9_by_0 (by decide) (by decide) <|
  s_istore_n dX9_by_1 rfl (by decide) <|
  s_X9_by_2 h_X9_over hJ
noncomputable def j_X9_by (F_X9_over : KF) (J : List KC) : List KC := [b_X9_by_2 F_X9_over J]
noncomputable def m_X9_by (F_X9_over : KF) (n : Nat) : KF := k_fun [k_u] (b_X9_by_0 F_X9_over (k_loop (j_X9_by F_X9_over) n))
theorem r_X9_by {l : Launch} {D : va_G} {cI cS cM : ClassId} {F_X9_over : KF} (h_X9_over : k_snd l D cI cS cM yX9_over cX9_over 3 (some .int) 1 2 F_X9_over) (n : Nat) : k_snd l D cI cS cM yX9_by cX9_by 4 (some .int) 2 3 (m_X9_by F_X9_over n) :=
  k_method (by decide +kernel) (by simp) rfl (s_X9_by_0 h_X9_over (k_loops (hs := [(2, 0)]) (fun J hJ i pc d h => match i, h with | 0, h => by cases h; exact s_X9_by_2 h_X9_over hJ | _ + 1, h => by simp at h) n))
noncomputable def b_X9_doDrops_63 (F_X9_in : KF) (J : List KC) : KC := o_aload 0 <| o_push 0 <| o_putz 9 5 <| o_aload 0 <| o_get 9 0 <| o_push 1 <| o_iald <| o_iret
set_option maxRecDepth 100000 in
theorem s_X9_doDrops_63 {l : Launch} {D : va_G} {cI cS cM : ClassId} {F_X9_in : KF} (h_X9_in : k_snd l D cI cS cM yX9_in cX9_in 3 (some .boolean) 1 3 F_X9_in) {J : List KC} (hJ : ∀ (i pc d : Nat), ([(31, 0)] : List (Nat × Nat))[i]? = some (pc, d) → KS l D cI cS cM yX9_doDrops.cls yX9_doDrops.name cX9_doDrops 3 (some .int) (k_rm 2 0 0) false pc d (k_jmp J i)) : KS l D cI cS cM yX9_doDrops.cls yX9_doDrops.name cX9_doDrops 3 (some .int) (k_rm 2 0 0) false 63 0 (b_X9_doDrops_63 F_X9_in J) :=
  s_aload_n dX9_doDrops_63 rfl <|
  s_push1 dX9_doDrops_64 (by decide) (by decide) <|
  s_putz dX9_doDrops_65 (ci := 9) (sl := 5) (Cn := RX9) (Tf := TX9) (N := 40) (tyf := tyX9) rfl (by decide) kiX9 tyX9_ok nmX9 kw_9_17 rfl rfl <|
  s_aload_n dX9_doDrops_68 rfl <|
  s_get dX9_doDrops_69 (ci := 9) (sl := 0) (Cn := RX9) (Tf := TX9) (N := 40) rfl (by decide) kiX9 kw_6_16 <|
  s_push1 dX9_doDrops_72 (by decide) (by decide) <|
  s_iald dX9_doDrops_73 <|
  s_ireturn dX9_doDrops_74 rfl
noncomputable def b_X9_doDrops_41 (F_X9_in : KF) (J : List KC) : KC := o_aload 0 <| o_get 9 0 <| o_push 2 <| o_iload 2 <| o_bin n_add <| o_aload 0 <| o_get 9 0 <| o_push 3 <| o_iload 2 <| o_bin n_add <| o_iald <| o_iast <| o_iinc 2 1 <| k_jmp J 0
set_option maxRecDepth 100000 in
theorem s_X9_doDrops_41 {l : Launch} {D : va_G} {cI cS cM : ClassId} {F_X9_in : KF} (h_X9_in : k_snd l D cI cS cM yX9_in cX9_in 3 (some .boolean) 1 3 F_X9_in) {J : List KC} (hJ : ∀ (i pc d : Nat), ([(31, 0)] : List (Nat × Nat))[i]? = some (pc, d) → KS l D cI cS cM yX9_doDrops.cls yX9_doDrops.name cX9_doDrops 3 (some .int) (k_rm 2 0 0) false pc d (k_jmp J i)) : KS l D cI cS cM yX9_doDrops.cls yX9_doDrops.name cX9_doDrops 3 (some .int) (k_rm 2 0 0) false 41 0 (b_X9_doDrops_41 F_X9_in J) :=
  s_aload_n dX9_doDrops_41 rfl <|
  s_get dX9_doDrops_42 (ci := 9) (sl := 0) (Cn := RX9) (Tf := TX9) (N := 40) rfl (by decide) kiX9 kw_6_16 <|
  s_push1 dX9_doDrops_45 (by decide) (by decide) <|
  s_iload_n dX9_doDrops_46 rfl <|
  s_iadd dX9_doDrops_47 <|
  s_aload_n dX9_doDrops_48 rfl <|
  s_get dX9_doDrops_49 (ci := 9) (sl := 0) (Cn := RX9) (Tf := TX9) (N := 40) rfl (by decide) kiX9 kw_6_16 <|
  s_push1 dX9_doDrops_52 (by decide) (by decide) <|
  s_iload_n dX9_doDrops_53 rfl <|
  s_iadd dX9_doDrops_54 <|
  s_iald dX9_doDrops_55 <|
  s_iast dX9_doDrops_56 <|
  s_iinc dX9_doDrops_57 (by decide) (by decide) <|
  s_goto dX9_doDrops_60 (by decide) (hJ 0 _ _ rfl)
noncomputable def b_X9_doDrops_31 (F_X9_in : KF) (J : List KC) : KC := o_iload 2 <| o_aload 0 <| o_get 9 0 <| o_push 1 <| o_iald <| o_c2 s_lt (b_X9_doDrops_41 F_X9_in J) (b_X9_doDrops_63 F_X9_in J)
set_option maxRecDepth 100000 in
theorem s_X9_doDrops_31 {l : Launch} {D : va_G} {cI cS cM : ClassId} {F_X9_in : KF} (h_X9_in : k_snd l D cI cS cM yX9_in cX9_in 3 (some .boolean) 1 3 F_X9_in) {J : List KC} (hJ : ∀ (i pc d : Nat), ([(31, 0)] : List (Nat × Nat))[i]? = some (pc, d) → KS l D cI cS cM yX9_doDrops.cls yX9_doDrops.name cX9_doDrops 3 (some .int) (k_rm 2 0 0) false pc d (k_jmp J i)) : KS l D cI cS cM yX9_doDrops.cls yX9_doDrops.name cX9_doDrops 3 (some .int) (k_rm 2 0 0) false 31 0 (b_X9_doDrops_31 F_X9_in J) :=
  s_iload_n dX9_doDrops_31 rfl <|
  s_aload_n dX9_doDrops_32 rfl <|
  s_get dX9_doDrops_33 (ci := 9) (sl := 0) (Cn := RX9) (Tf := TX9) (N := 40) rfl (by decide) kiX9 kw_6_16 <|
  s_push1 dX9_doDrops_36 (by decide) (by decide) <|
  s_iald dX9_doDrops_37 <|
  s_icmp_ge dX9_doDrops_38 (by decide) (s_X9_doDrops_63 h_X9_in hJ) (s_X9_doDrops_41 h_X9_in hJ)
noncomputable def b_X9_doDrops_19 (F_X9_in : KF) (J : List KC) : KC := o_aload 0 <| o_get 9 0 <| o_push 1 <| o_dup2 <| o_iald <| o_push 1 <| o_bin n_sub <| o_iast <| o_iload 1 <| o_istore 2 <| b_X9_doDrops_31 F_X9_in J
set_option maxRecDepth 100000 in
theorem s_X9_doDrops_19 {l : Launch} {D : va_G} {cI cS cM : ClassId} {F_X9_in : KF} (h_X9_in : k_snd l D cI cS cM yX9_in cX9_in 3 (some .boolean) 1 3 F_X9_in) {J : List KC} (hJ : ∀ (i pc d : Nat), ([(31, 0)] : List (Nat × Nat))[i]? = some (pc, d) → KS l D cI cS cM yX9_doDrops.cls yX9_doDrops.name cX9_doDrops 3 (some .int) (k_rm 2 0 0) false pc d (k_jmp J i)) : KS l D cI cS cM yX9_doDrops.cls yX9_doDrops.name cX9_doDrops 3 (some .int) (k_rm 2 0 0) false 19 0 (b_X9_doDrops_19 F_X9_in J) :=
  s_aload_n dX9_doDrops_19 rfl <|
  s_get dX9_doDrops_20 (ci := 9) (sl := 0) (Cn := RX9) (Tf := TX9) (N := 40) rfl (by decide) kiX9 kw_6_16 <|
  s_push1 dX9_doDrops_23 (by decide) (by decide) <|
  s_dup2 dX9_doDrops_24 <|
  s_iald dX9_doDrops_25 <|
  s_push1 dX9_doDrops_26 (by decide) (by decide) <|
  s_isub dX9_doDrops_27 <|
  s_iast dX9_doDrops_28 <|
  s_iload_n dX9_doDrops_29 rfl <|
  s_istore_n dX9_doDrops_30 rfl (by decide) <|
  s_X9_doDrops_31 h_X9_in hJ
noncomputable def b_X9_doDrops_16 (F_X9_in : KF) (J : List KC) : KC := o_push 4294967294 <| o_iret
set_option maxRecDepth 100000 in
theorem s_X9_doDrops_16 {l : Launch} {D : va_G} {cI cS cM : ClassId} {F_X9_in : KF} (h_X9_in : k_snd l D cI cS cM yX9_in cX9_in 3 (some .boolean) 1 3 F_X9_in) {J : List KC} (hJ : ∀ (i pc d : Nat), ([(31, 0)] : List (Nat × Nat))[i]? = some (pc, d) → KS l D cI cS cM yX9_doDrops.cls yX9_doDrops.name cX9_doDrops 3 (some .int) (k_rm 2 0 0) false pc d (k_jmp J i)) : KS l D cI cS cM yX9_doDrops.cls yX9_doDrops.name cX9_doDrops 3 (some .int) (k_rm 2 0 0) false 16 0 (b_X9_doDrops_16 F_X9_in J) :=
  s_push2 dX9_doDrops_16 (by decide) (by decide) <|
  s_ireturn dX9_doDrops_18 rfl
noncomputable def b_X9_doDrops_0 (F_X9_in : KF) (J : List KC) : KC := o_iload 1 <| o_push 0 <| o_aload 0 <| o_get 9 0 <| o_push 1 <| o_iald <| o_push 1 <| o_bin n_sub <| o_cS1 3 F_X9_in <| o_c1 g_eq (b_X9_doDrops_16 F_X9_in J) (b_X9_doDrops_19 F_X9_in J)
set_option maxRecDepth 100000 in
theorem s_X9_doDrops_0 {l : Launch} {D : va_G} {cI cS cM : ClassId} {F_X9_in : KF} (h_X9_in : k_snd l D cI cS cM yX9_in cX9_in 3 (some .boolean) 1 3 F_X9_in) {J : List KC} (hJ : ∀ (i pc d : Nat), ([(31, 0)] : List (Nat × Nat))[i]? = some (pc, d) → KS l D cI cS cM yX9_doDrops.cls yX9_doDrops.name cX9_doDrops 3 (some .int) (k_rm 2 0 0) false pc d (k_jmp J i)) : KS l D cI cS cM yX9_doDrops.cls yX9_doDrops.name cX9_doDrops 3 (some .int) (k_rm 2 0 0) false 0 0 (b_X9_doDrops_0 F_X9_in J) :=
  s_iload_n dX9_doDrops_0 rfl <|
  s_push1 dX9_doDrops_1 (by decide) (by decide) <|
  s_aload_n dX9_doDrops_2 rfl <|
  s_get dX9_doDrops_3 (ci := 9) (sl := 0) (Cn := RX9) (Tf := TX9) (N := 40) rfl (by decide) kiX9 kw_6_16 <|
  s_push1 dX9_doDrops_6 (by decide) (by decide) <|
  s_iald dX9_doDrops_7 <|
  s_push1 dX9_doDrops_8 (by decide) (by decide) <|
  s_isub dX9_doDrops_9 <|
  s_callS1 dX9_doDrops_10 kw_9_18 kw_9_19 ok_X9_in (by decide) (by decide) h_X9_in (by decide) <|
  s_if_ne dX9_doDrops_13 (by decide) (s_X9_doDrops_19 h_X9_in hJ) (s_X9_doDrops_16 h_X9_in hJ)
noncomputable def j_X9_doDrops (F_X9_in : KF) (J : List KC) : List KC := [b_X9_doDrops_31 F_X9_in J]
noncomputable def m_X9_doDrops (F_X9_in : KF) (n : Nat) : KF := k_fun [k_u] (b_X9_doDrops_0 F_X9_in (k_loop (j_X9_doDrops F_X9_in) n))
theorem r_X9_doDrops {l : Launch} {D : va_G} {cI cS cM : ClassId} {F_X9_in : KF} (h_X9_in : k_snd l D cI cS cM yX9_in cX9_in 3 (some .boolean) 1 3 F_X9_in) (n : Nat) : k_snd l D cI cS cM yX9_doDrops cX9_doDrops 3 (some .int) 2 2 (m_X9_doDrops F_X9_in n) :=
  k_method (by decide +kernel) (by simp) rfl (s_X9_doDrops_0 h_X9_in (k_loops (hs := [(31, 0)]) (fun J hJ i pc d h => match i, h with | 0, h => by cases h; exact s_X9_doDrops_31 h_X9_in hJ | _ + 1, h => by simp at h) n))
noncomputable def b_X9_doPoints_12 (F_X9_in : KF) : KC := o_aload 0 <| o_get 9 0 <| o_push 0 <| o_iald <| o_istore 2 <| o_aload 0 <| o_get 9 0 <| o_push 0 <| o_iload 1 <| o_iast <| o_aload 0 <| o_get 9 0 <| o_push 1 <| o_push 0 <| o_iast <| o_aload 0 <| o_push 0 <| o_putz 9 5 <| o_iload 2 <| o_iret
set_option maxRecDepth 100000 in
theorem s_X9_doPoints_12 {l : Launch} {D : va_G} {cI cS cM : ClassId} {F_X9_in : KF} (h_X9_in : k_snd l D cI cS cM yX9_in cX9_in 3 (some .boolean) 1 3 F_X9_in) : KS l D cI cS cM yX9_doPoints.cls yX9_doPoints.name cX9_doPoints 3 (some .int) (k_rm 2 0 0) false 12 0 (b_X9_doPoints_12 F_X9_in) :=
  s_aload_n dX9_doPoints_12 rfl <|
  s_get dX9_doPoints_13 (ci := 9) (sl := 0) (Cn := RX9) (Tf := TX9) (N := 40) rfl (by decide) kiX9 kw_6_16 <|
  s_push1 dX9_doPoints_16 (by decide) (by decide) <|
  s_iald dX9_doPoints_17 <|
  s_istore_n dX9_doPoints_18 rfl (by decide) <|
  s_aload_n dX9_doPoints_19 rfl <|
  s_get dX9_doPoints_20 (ci := 9) (sl := 0) (Cn := RX9) (Tf := TX9) (N := 40) rfl (by decide) kiX9 kw_6_16 <|
  s_push1 dX9_doPoints_23 (by decide) (by decide) <|
  s_iload_n dX9_doPoints_24 rfl <|
  s_iast dX9_doPoints_25 <|
  s_aload_n dX9_doPoints_26 rfl <|
  s_get dX9_doPoints_27 (ci := 9) (sl := 0) (Cn := RX9) (Tf := TX9) (N := 40) rfl (by decide) kiX9 kw_6_16 <|
  s_push1 dX9_doPoints_30 (by decide) (by decide) <|
  s_push1 dX9_doPoints_31 (by decide) (by decide) <|
  s_iast dX9_doPoints_32 <|
  s_aload_n dX9_doPoints_33 rfl <|
  s_push1 dX9_doPoints_34 (by decide) (by decide) <|
  s_putz dX9_doPoints_35 (ci := 9) (sl := 5) (Cn := RX9) (Tf := TX9) (N := 40) (tyf := tyX9) rfl (by decide) kiX9 tyX9_ok nmX9 kw_9_17 rfl rfl <|
  s_iload_n dX9_doPoints_38 rfl <|
  s_ireturn dX9_doPoints_39 rfl
noncomputable def b_X9_doPoints_9 (F_X9_in : KF) : KC := o_push 4294967294 <| o_iret
set_option maxRecDepth 100000 in
theorem s_X9_doPoints_9 {l : Launch} {D : va_G} {cI cS cM : ClassId} {F_X9_in : KF} (h_X9_in : k_snd l D cI cS cM yX9_in cX9_in 3 (some .boolean) 1 3 F_X9_in) : KS l D cI cS cM yX9_doPoints.cls yX9_doPoints.name cX9_doPoints 3 (some .int) (k_rm 2 0 0) false 9 0 (b_X9_doPoints_9 F_X9_in) :=
  s_push2 dX9_doPoints_9 (by decide) (by decide) <|
  s_ireturn dX9_doPoints_11 rfl
noncomputable def b_X9_doPoints_0 (F_X9_in : KF) : KC := o_iload 1 <| o_push 1 <| o_push 5 <| o_cS1 3 F_X9_in <| o_c1 g_eq (b_X9_doPoints_9 F_X9_in) (b_X9_doPoints_12 F_X9_in)
set_option maxRecDepth 100000 in
theorem s_X9_doPoints_0 {l : Launch} {D : va_G} {cI cS cM : ClassId} {F_X9_in : KF} (h_X9_in : k_snd l D cI cS cM yX9_in cX9_in 3 (some .boolean) 1 3 F_X9_in) : KS l D cI cS cM yX9_doPoints.cls yX9_doPoints.name cX9_doPoints 3 (some .int) (k_rm 2 0 0) false 0 0 (b_X9_doPoints_0 F_X9_in) :=
  s_iload_n dX9_doPoints_0 rfl <|
  s_push1 dX9_doPoints_1 (by decide) (by decide) <|
  s_push1 dX9_doPoints_2 (by decide) (by decide) <|
  s_callS1 dX9_doPoints_3 kw_9_18 kw_9_19 ok_X9_in (by decide) (by decide) h_X9_in (by decide) <|
  s_if_ne dX9_doPoints_6 (by decide) (s_X9_doPoints_12 h_X9_in) (s_X9_doPoints_9 h_X9_in)
noncomputable def m_X9_doPoints (F_X9_in : KF) : KF := k_fun [k_u] (b_X9_doPoints_0 F_X9_in)
theorem r_X9_doPoints {l : Launch} {D : va_G} {cI cS cM : ClassId} {F_X9_in : KF} (h_X9_in : k_snd l D cI cS cM yX9_in cX9_in 3 (some .boolean) 1 3 F_X9_in) : k_snd l D cI cS cM yX9_doPoints cX9_doPoints 3 (some .int) 2 2 (m_X9_doPoints F_X9_in) :=
  k_method (by decide +kernel) (by simp) rfl (s_X9_doPoints_0 h_X9_in)
noncomputable def b_X9_ends_10 (F_X9_refuses F_X9_push : KF) : KC := o_aload 0 <| o_cV0 1 9 F_X9_push <| o_iload 1 <| o_iret
set_option maxRecDepth 100000 in
theorem s_X9_ends_10 {l : Launch} {D : va_G} {cI cS cM : ClassId} {F_X9_refuses F_X9_push : KF} (h_X9_refuses : k_snd l D cI cS cM yX9_refuses cX9_refuses 2 (some .int) 1 2 F_X9_refuses) (h_X9_push : k_snd l D cI cS cM yX9_push cX9_push 2 none 1 1 F_X9_push) : KS l D cI cS cM yX9_ends.cls yX9_ends.name cX9_ends 2 (some .int) (k_rm 2 0 0) false 10 0 (b_X9_ends_10 F_X9_refuses F_X9_push) :=
  s_aload_n dX9_ends_10 rfl <|
  s_callV0 dX9_ends_11 kw_10_5 kw_10_6 kw_10_7 (ci := 9) rfl ok_X9_push (by decide) (by decide) h_X9_push (by decide) <|
  s_iload_n dX9_ends_14 rfl <|
  s_ireturn dX9_ends_15 rfl
noncomputable def b_X9_ends_4 (F_X9_refuses F_X9_push : KF) : KC := o_aload 0 <| o_iload 1 <| o_cV1 2 9 F_X9_refuses <| o_iret
set_option maxRecDepth 100000 in
theorem s_X9_ends_4 {l : Launch} {D : va_G} {cI cS cM : ClassId} {F_X9_refuses F_X9_push : KF} (h_X9_refuses : k_snd l D cI cS cM yX9_refuses cX9_refuses 2 (some .int) 1 2 F_X9_refuses) (h_X9_push : k_snd l D cI cS cM yX9_push cX9_push 2 none 1 1 F_X9_push) : KS l D cI cS cM yX9_ends.cls yX9_ends.name cX9_ends 2 (some .int) (k_rm 2 0 0) false 4 0 (b_X9_ends_4 F_X9_refuses F_X9_push) :=
  s_aload_n dX9_ends_4 rfl <|
  s_iload_n dX9_ends_5 rfl <|
  s_callV1 dX9_ends_6 kw_10_1 kw_10_2 kw_10_3 (ci := 9) rfl ok_X9_refuses (by decide) (by decide) h_X9_refuses (by decide) <|
  s_ireturn dX9_ends_9 rfl
noncomputable def b_X9_ends_0 (F_X9_refuses F_X9_push : KF) : KC := o_iload 1 <| o_c1 g_lt (b_X9_ends_4 F_X9_refuses F_X9_push) (b_X9_ends_10 F_X9_refuses F_X9_push)
set_option maxRecDepth 100000 in
theorem s_X9_ends_0 {l : Launch} {D : va_G} {cI cS cM : ClassId} {F_X9_refuses F_X9_push : KF} (h_X9_refuses : k_snd l D cI cS cM yX9_refuses cX9_refuses 2 (some .int) 1 2 F_X9_refuses) (h_X9_push : k_snd l D cI cS cM yX9_push cX9_push 2 none 1 1 F_X9_push) : KS l D cI cS cM yX9_ends.cls yX9_ends.name cX9_ends 2 (some .int) (k_rm 2 0 0) false 0 0 (b_X9_ends_0 F_X9_refuses F_X9_push) :=
  s_iload_n dX9_ends_0 rfl <|
  s_if_ge dX9_ends_1 (by decide) (s_X9_ends_10 h_X9_refuses h_X9_push) (s_X9_ends_4 h_X9_refuses h_X9_push)
noncomputable def m_X9_ends (F_X9_refuses F_X9_push : KF) : KF := k_fun [] (b_X9_ends_0 F_X9_refuses F_X9_push)
theorem r_X9_ends {l : Launch} {D : va_G} {cI cS cM : ClassId} {F_X9_refuses F_X9_push : KF} (h_X9_refuses : k_snd l D cI cS cM yX9_refuses cX9_refuses 2 (some .int) 1 2 F_X9_refuses) (h_X9_push : k_snd l D cI cS cM yX9_push cX9_push 2 none 1 1 F_X9_push) : k_snd l D cI cS cM yX9_ends cX9_ends 2 (some .int) 2 2 (m_X9_ends F_X9_refuses F_X9_push) :=
  k_method (by decide +kernel) (by simp) rfl (s_X9_ends_0 h_X9_refuses h_X9_push)
noncomputable def b_X9_figure_0 (F_X9_here F_X9_in F_X9_must : KF) : KC := o_aload 0 <| o_cV1 1 9 F_X9_here <| o_push 48 <| o_bin n_sub <| o_istore 3 <| o_aload 0 <| o_iload 3 <| o_iload 1 <| o_iload 2 <| o_cS1 3 F_X9_in <| o_cV0 2 9 F_X9_must <| o_iload 3 <| o_iret
set_option maxRecDepth 100000 in
theorem s_X9_figure_0 {l : Launch} {D : va_G} {cI cS cM : ClassId} {F_X9_here F_X9_in F_X9_must : KF} (h_X9_here : k_snd l D cI cS cM yX9_here cX9_here 1 (some .int) 1 1 F_X9_here) (h_X9_in : k_snd l D cI cS cM yX9_in cX9_in 3 (some .boolean) 1 3 F_X9_in) (h_X9_must : k_snd l D cI cS cM yX9_must cX9_must 2 none 1 2 F_X9_must) : KS l D cI cS cM yX9_figure.cls yX9_figure.name cX9_figure 4 (some .int) (k_rm 2 0 0) false 0 0 (b_X9_figure_0 F_X9_here F_X9_in F_X9_must) :=
  s_aload_n dX9_figure_0 rfl <|
  s_callV1 dX9_figure_1 kw_37_19 kw_37_20 kw_37_21 (ci := 9) rfl ok_X9_here (by decide) (by decide) h_X9_here (by decide) <|
  s_push2 dX9_figure_4 (by decide) (by decide) <|
  s_isub dX9_figure_6 <|
  s_istore_n dX9_figure_7 rfl (by decide) <|
  s_aload_n dX9_figure_8 rfl <|
  s_iload_n dX9_figure_9 rfl <|
  s_iload_n dX9_figure_10 rfl <|
  s_iload_n dX9_figure_11 rfl <|
  s_callS1 dX9_figure_12 kw_9_18 kw_9_19 ok_X9_in (by decide) (by decide) h_X9_in (by decide) <|
  s_callV0 dX9_figure_15 kw_38_3 kw_38_4 kw_38_5 (ci := 9) rfl ok_X9_must (by decide) (by decide) h_X9_must (by decide) <|
  s_iload_n dX9_figure_18 rfl <|
  s_ireturn dX9_figure_19 rfl
noncomputable def m_X9_figure (F_X9_here F_X9_in F_X9_must : KF) : KF := k_fun [k_u] (b_X9_figure_0 F_X9_here F_X9_in F_X9_must)
theorem r_X9_figure {l : Launch} {D : va_G} {cI cS cM : ClassId} {F_X9_here F_X9_in F_X9_must : KF} (h_X9_here : k_snd l D cI cS cM yX9_here cX9_here 1 (some .int) 1 1 F_X9_here) (h_X9_in : k_snd l D cI cS cM yX9_in cX9_in 3 (some .boolean) 1 3 F_X9_in) (h_X9_must : k_snd l D cI cS cM yX9_must cX9_must 2 none 1 2 F_X9_must) : k_snd l D cI cS cM yX9_figure cX9_figure 4 (some .int) 2 3 (m_X9_figure F_X9_here F_X9_in F_X9_must) :=
  k_method (by decide +kernel) (by simp) rfl (s_X9_figure_0 h_X9_here h_X9_in h_X9_must)
noncomputable def b_X9_findPrime_135 (F_X9_common F_X9_isPrime F_X9_round F_X9_power : KF) (J : List KC) : KC := o_aload 0 <| o_aload 0 <| o_iload 1 <| o_aload 0 <| o_get 9 16 <| o_push 1 <| o_bin n_sub <| o_aload 0 <| o_get 9 15 <| o_div n_div <| o_cV1 3 9 F_X9_power <| o_puti 9 17 <| o_ret
set_option maxRecDepth 100000 in
theorem s_X9_findPrime_135 {l : Launch} {D : va_G} {cI cS cM : ClassId} {F_X9_common F_X9_isPrime F_X9_round F_X9_power : KF} (h_X9_common : k_snd l D cI cS cM yX9_common cX9_common 5 (some .int) 1 2 F_X9_common) (h_X9_isPrime : k_snd l D cI cS cM yX9_isPrime cX9_isPrime 3 (some .boolean) 1 1 F_X9_isPrime) (h_X9_round : k_snd l D cI cS cM yX9_round cX9_round 4 (some .int) 1 2 F_X9_round) (h_X9_power : k_snd l D cI cS cM yX9_power cX9_power 5 (some .int) 1 3 F_X9_power) {J : List KC} (hJ : ∀ (i pc d : Nat), ([(7, 0), (58, 0), (115, 0)] : List (Nat × Nat))[i]? = some (pc, d) → KS l D cI cS cM yX9_findPrime.cls yX9_findPrime.name cX9_findPrime 3 none (k_rm 2 0 0) false pc d (k_jmp J i)) : KS l D cI cS cM yX9_findPrime.cls yX9_findPrime.name cX9_findPrime 3 none (k_rm 2 0 0) false 135 0 (b_X9_findPrime_135 F_X9_common F_X9_isPrime F_X9_round F_X9_power J) :=
  s_aload_n dX9_findPrime_135 rfl <|
  s_aload_n dX9_findPrime_136 rfl <|
  s_iload_n dX9_findPrime_137 rfl <|
  s_aload_n dX9_findPrime_138 rfl <|
  s_get dX9_findPrime_139 (ci := 9) (sl := 16) (Cn := RX9) (Tf := TX9) (N := 40) rfl (by decide) kiX9 kw_22_16 <|
  s_push1 dX9_findPrime_142 (by decide) (by decide) <|
  s_isub dX9_findPrime_143 <|
  s_aload_n dX9_findPrime_144 rfl <|
  s_get dX9_findPrime_145 (ci := 9) (sl := 15) (Cn := RX9) (Tf := TX9) (N := 40) rfl (by decide) kiX9 kw_22_15 <|
  s_idiv dX9_findPrime_148 <|
  s_callV1 dX9_findPrime_149 kw_24_16 kw_24_17 kw_24_18 (ci := 9) rfl ok_X9_power (by decide) (by decide) h_X9_power (by decide) <|
  s_puti dX9_findPrime_152 (ci := 9) (sl := 17) (Cn := RX9) (Tf := TX9) (N := 40) (tyf := tyX9) rfl (by decide) kiX9 tyX9_ok nmX9 kw_22_17 rfl rfl <|
  s_return dX9_findPrime_155 rfl
noncomputable def b_X9_findPrime_129 (F_X9_common F_X9_isPrime F_X9_round F_X9_power : KF) (J : List KC) : KC := o_iinc 1 1 <| k_jmp J 2
set_option maxRecDepth 100000 in
theorem s_X9_findPrime_129 {l : Launch} {D : va_G} {cI cS cM : ClassId} {F_X9_common F_X9_isPrime F_X9_round F_X9_power : KF} (h_X9_common : k_snd l D cI cS cM yX9_common cX9_common 5 (some .int) 1 2 F_X9_common) (h_X9_isPrime : k_snd l D cI cS cM yX9_isPrime cX9_isPrime 3 (some .boolean) 1 1 F_X9_isPrime) (h_X9_round : k_snd l D cI cS cM yX9_round cX9_round 4 (some .int) 1 2 F_X9_round) (h_X9_power : k_snd l D cI cS cM yX9_power cX9_power 5 (some .int) 1 3 F_X9_power) {J : List KC} (hJ : ∀ (i pc d : Nat), ([(7, 0), (58, 0), (115, 0)] : List (Nat × Nat))[i]? = some (pc, d) → KS l D cI cS cM yX9_findPrime.cls yX9_findPrime.name cX9_findPrime 3 none (k_rm 2 0 0) false pc d (k_jmp J i)) : KS l D cI cS cM yX9_findPrime.cls yX9_findPrime.name cX9_findPrime 3 none (k_rm 2 0 0) false 129 0 (b_X9_findPrime_129 F_X9_common F_X9_isPrime F_X9_round F_X9_power J) :=
  s_iinc dX9_findPrime_129 (by decide) (by decide) <|
  s_goto dX9_findPrime_132 (by decide) (hJ 2 _ _ rfl)
noncomputable def b_X9_findPrime_115 (F_X9_common F_X9_isPrime F_X9_round F_X9_power : KF) (J : List KC) : KC := o_aload 0 <| o_iload 1 <| o_cV1 2 9 F_X9_round <| o_aload 0 <| o_get 9 16 <| o_push 1 <| o_bin n_sub <| o_c2 Nat.beq (b_X9_findPrime_135 F_X9_common F_X9_isPrime F_X9_round F_X9_power J) (b_X9_findPrime_129 F_X9_common F_X9_isPrime F_X9_round F_X9_power J)
set_option maxRecDepth 100000 in
theorem s_X9_findPrime_115 {l : Launch} {D : va_G} {cI cS cM : ClassId} {F_X9_common F_X9_isPrime F_X9_round F_X9_power : KF} (h_X9_common : k_snd l D cI cS cM yX9_common cX9_common 5 (some .int) 1 2 F_X9_common) (h_X9_isPrime : k_snd l D cI cS cM yX9_isPrime cX9_isPrime 3 (some .boolean) 1 1 F_X9_isPrime) (h_X9_round : k_snd l D cI cS cM yX9_round cX9_round 4 (some .int) 1 2 F_X9_round) (h_X9_power : k_snd l D cI cS cM yX9_power cX9_power 5 (some .int) 1 3 F_X9_power) {J : List KC} (hJ : ∀ (i pc d : Nat), ([(7, 0), (58, 0), (115, 0)] : List (Nat × Nat))[i]? = some (pc, d) → KS l D cI cS cM yX9_findPrime.cls yX9_findPrime.name cX9_findPrime 3 none (k_rm 2 0 0) false pc d (k_jmp J i)) : KS l D cI cS cM yX9_findPrime.cls yX9_findPrime.name cX9_findPrime 3 none (k_rm 2 0 0) false 115 0 (b_X9_findPrime_115 F_X9_common F_X9_isPrime F_X9_round F_X9_power J) :=
  s_aload_n dX9_findPrime_115 rfl <|
  s_iload_n dX9_findPrime_116 rfl <|
  s_callV1 dX9_findPrime_117 kw_24_12 kw_24_13 kw_24_14 (ci := 9) rfl ok_X9_round (by decide) (by decide) h_X9_round (by decide) <|
  s_aload_n dX9_findPrime_120 rfl <|
  s_get dX9_findPrime_121 (ci := 9) (sl := 16) (Cn := RX9) (Tf := TX9) (N := 40) rfl (by decide) kiX9 kw_22_16 <|
  s_push1 dX9_findPrime_124 (by decide) (by decide) <|
  s_isub dX9_findPrime_125 <|
  s_icmp_eq dX9_findPrime_126 (by decide) (s_X9_findPrime_135 h_X9_common h_X9_isPrime h_X9_round h_X9_power hJ) (s_X9_findPrime_129 h_X9_common h_X9_isPrime h_X9_round h_X9_power hJ)
noncomputable def b_X9_findPrime_113 (F_X9_common F_X9_isPrime F_X9_round F_X9_power : KF) (J : List KC) : KC := o_push 1 <| o_istore 1 <| b_X9_findPrime_115 F_X9_common F_X9_isPrime F_X9_round F_X9_power J
set_option maxRecDepth 100000 in
theorem s_X9_findPrime_113 {l : Launch} {D : va_G} {cI cS cM : ClassId} {F_X9_common F_X9_isPrime F_X9_round F_X9_power : KF} (h_X9_common : k_snd l D cI cS cM yX9_common cX9_common 5 (some .int) 1 2 F_X9_common) (h_X9_isPrime : k_snd l D cI cS cM yX9_isPrime cX9_isPrime 3 (some .boolean) 1 1 F_X9_isPrime) (h_X9_round : k_snd l D cI cS cM yX9_round cX9_round 4 (some .int) 1 2 F_X9_round) (h_X9_power : k_snd l D cI cS cM yX9_power cX9_power 5 (some .int) 1 3 F_X9_power) {J : List KC} (hJ : ∀ (i pc d : Nat), ([(7, 0), (58, 0), (115, 0)] : List (Nat × Nat))[i]? = some (pc, d) → KS l D cI cS cM yX9_findPrime.cls yX9_findPrime.name cX9_findPrime 3 none (k_rm 2 0 0) false pc d (k_jmp J i)) : KS l D cI cS cM yX9_findPrime.cls yX9_findPrime.name cX9_findPrime 3 none (k_rm 2 0 0) false 113 0 (b_X9_findPrime_113 F_X9_common F_X9_isPrime F_X9_round F_X9_power J) :=
  s_push1 dX9_findPrime_113 (by decide) (by decide) <|
  s_istore_n dX9_findPrime_114 rfl (by decide) <|
  s_X9_findPrime_115 h_X9_common h_X9_isPrime h_X9_round h_X9_power hJ
noncomputable def b_X9_findPrime_100 (F_X9_common F_X9_isPrime F_X9_round F_X9_power : KF) (J : List KC) : KC := o_aload 0 <| o_dup <| o_get 9 16 <| o_push 1 <| o_bin n_add <| o_puti 9 16 <| k_jmp J 1
set_option maxRecDepth 100000 in
theorem s_X9_findPrime_100 {l : Launch} {D : va_G} {cI cS cM : ClassId} {F_X9_common F_X9_isPrime F_X9_round F_X9_power : KF} (h_X9_common : k_snd l D cI cS cM yX9_common cX9_common 5 (some .int) 1 2 F_X9_common) (h_X9_isPrime : k_snd l D cI cS cM yX9_isPrime cX9_isPrime 3 (some .boolean) 1 1 F_X9_isPrime) (h_X9_round : k_snd l D cI cS cM yX9_round cX9_round 4 (some .int) 1 2 F_X9_round) (h_X9_power : k_snd l D cI cS cM yX9_power cX9_power 5 (some .int) 1 3 F_X9_power) {J : List KC} (hJ : ∀ (i pc d : Nat), ([(7, 0), (58, 0), (115, 0)] : List (Nat × Nat))[i]? = some (pc, d) → KS l D cI cS cM yX9_findPrime.cls yX9_findPrime.name cX9_findPrime 3 none (k_rm 2 0 0) false pc d (k_jmp J i)) : KS l D cI cS cM yX9_findPrime.cls yX9_findPrime.name cX9_findPrime 3 none (k_rm 2 0 0) false 100 0 (b_X9_findPrime_100 F_X9_common F_X9_isPrime F_X9_round F_X9_power J) :=
  s_aload_n dX9_findPrime_100 rfl <|
  s_dup dX9_findPrime_101 <|
  s_get dX9_findPrime_102 (ci := 9) (sl := 16) (Cn := RX9) (Tf := TX9) (N := 40) rfl (by decide) kiX9 kw_22_16 <|
  s_push1 dX9_findPrime_105 (by decide) (by decide) <|
  s_iadd dX9_findPrime_106 <|
  s_puti dX9_findPrime_107 (ci := 9) (sl := 16) (Cn := RX9) (Tf := TX9) (N := 40) (tyf := tyX9) rfl (by decide) kiX9 tyX9_ok nmX9 kw_22_16 rfl rfl <|
  s_goto dX9_findPrime_110 (by decide) (hJ 1 _ _ rfl)
noncomputable def b_X9_findPrime_86 (F_X9_common F_X9_isPrime F_X9_round F_X9_power : KF) (J : List KC) : KC := o_aload 0 <| o_get 9 16 <| o_push 1 <| o_bin n_sub <| o_aload 0 <| o_get 9 15 <| o_div n_rem <| o_c1 g_eq (b_X9_findPrime_113 F_X9_common F_X9_isPrime F_X9_round F_X9_power J) (b_X9_findPrime_100 F_X9_common F_X9_isPrime F_X9_round F_X9_power J)
set_option maxRecDepth 100000 in
theorem s_X9_findPrime_86 {l : Launch} {D : va_G} {cI cS cM : ClassId} {F_X9_common F_X9_isPrime F_X9_round F_X9_power : KF} (h_X9_common : k_snd l D cI cS cM yX9_common cX9_common 5 (some .int) 1 2 F_X9_common) (h_X9_isPrime : k_snd l D cI cS cM yX9_isPrime cX9_isPrime 3 (some .boolean) 1 1 F_X9_isPrime) (h_X9_round : k_snd l D cI cS cM yX9_round cX9_round 4 (some .int) 1 2 F_X9_round) (h_X9_power : k_snd l D cI cS cM yX9_power cX9_power 5 (some .int) 1 3 F_X9_power) {J : List KC} (hJ : ∀ (i pc d : Nat), ([(7, 0), (58, 0), (115, 0)] : List (Nat × Nat))[i]? = some (pc, d) → KS l D cI cS cM yX9_findPrime.cls yX9_findPrime.name cX9_findPrime 3 none (k_rm 2 0 0) false pc d (k_jmp J i)) : KS l D cI cS cM yX9_findPrime.cls yX9_findPrime.name cX9_findPrime 3 none (k_rm 2 0 0) false 86 0 (b_X9_findPrime_86 F_X9_common F_X9_isPrime F_X9_round F_X9_power J) :=
  s_aload_n dX9_findPrime_86 rfl <|
  s_get dX9_findPrime_87 (ci := 9) (sl := 16) (Cn := RX9) (Tf := TX9) (N := 40) rfl (by decide) kiX9 kw_22_16 <|
  s_push1 dX9_findPrime_90 (by decide) (by decide) <|
  s_isub dX9_findPrime_91 <|
  s_aload_n dX9_findPrime_92 rfl <|
  s_get dX9_findPrime_93 (ci := 9) (sl := 15) (Cn := RX9) (Tf := TX9) (N := 40) rfl (by decide) kiX9 kw_22_15 <|
  s_irem dX9_findPrime_96 <|
  s_if_eq dX9_findPrime_97 (by decide) (s_X9_findPrime_113 h_X9_common h_X9_isPrime h_X9_round h_X9_power hJ) (s_X9_findPrime_100 h_X9_common h_X9_isPrime h_X9_round h_X9_power hJ)
noncomputable def b_X9_findPrime_68 (F_X9_common F_X9_isPrime F_X9_round F_X9_power : KF) (J : List KC) : KC := o_aload 0 <| o_get 9 16 <| o_aload 0 <| o_get 9 16 <| o_bin n_mul <| o_push 4 <| o_aload 0 <| o_get 9 6 <| o_bin n_mul <| o_c2 s_gt (b_X9_findPrime_86 F_X9_common F_X9_isPrime F_X9_round F_X9_power J) (b_X9_findPrime_100 F_X9_common F_X9_isPrime F_X9_round F_X9_power J)
set_option maxRecDepth 100000 in
theorem s_X9_findPrime_68 {l : Launch} {D : va_G} {cI cS cM : ClassId} {F_X9_common F_X9_isPrime F_X9_round F_X9_power : KF} (h_X9_common : k_snd l D cI cS cM yX9_common cX9_common 5 (some .int) 1 2 F_X9_common) (h_X9_isPrime : k_snd l D cI cS cM yX9_isPrime cX9_isPrime 3 (some .boolean) 1 1 F_X9_isPrime) (h_X9_round : k_snd l D cI cS cM yX9_round cX9_round 4 (some .int) 1 2 F_X9_round) (h_X9_power : k_snd l D cI cS cM yX9_power cX9_power 5 (some .int) 1 3 F_X9_power) {J : List KC} (hJ : ∀ (i pc d : Nat), ([(7, 0), (58, 0), (115, 0)] : List (Nat × Nat))[i]? = some (pc, d) → KS l D cI cS cM yX9_findPrime.cls yX9_findPrime.name cX9_findPrime 3 none (k_rm 2 0 0) false pc d (k_jmp J i)) : KS l D cI cS cM yX9_findPrime.cls yX9_findPrime.name cX9_findPrime 3 none (k_rm 2 0 0) false 68 0 (b_X9_findPrime_68 F_X9_common F_X9_isPrime F_X9_round F_X9_power J) :=
  s_aload_n dX9_findPrime_68 rfl <|
  s_get dX9_findPrime_69 (ci := 9) (sl := 16) (Cn := RX9) (Tf := TX9) (N := 40) rfl (by decide) kiX9 kw_22_16 <|
  s_aload_n dX9_findPrime_72 rfl <|
  s_get dX9_findPrime_73 (ci := 9) (sl := 16) (Cn := RX9) (Tf := TX9) (N := 40) rfl (by decide) kiX9 kw_22_16 <|
  s_imul dX9_findPrime_76 <|
  s_push1 dX9_findPrime_77 (by decide) (by decide) <|
  s_aload_n dX9_findPrime_78 rfl <|
  s_get dX9_findPrime_79 (ci := 9) (sl := 6) (Cn := RX9) (Tf := TX9) (N := 40) rfl (by decide) kiX9 kw_22_13 <|
  s_imul dX9_findPrime_82 <|
  s_icmp_le dX9_findPrime_83 (by decide) (s_X9_findPrime_100 h_X9_common h_X9_isPrime h_X9_round h_X9_power hJ) (s_X9_findPrime_86 h_X9_common h_X9_isPrime h_X9_round h_X9_power hJ)
noncomputable def b_X9_findPrime_58 (F_X9_common F_X9_isPrime F_X9_round F_X9_power : KF) (J : List KC) : KC := o_aload 0 <| o_get 9 16 <| o_cS1 1 F_X9_isPrime <| o_c1 g_eq (b_X9_findPrime_100 F_X9_common F_X9_isPrime F_X9_round F_X9_power J) (b_X9_findPrime_68 F_X9_common F_X9_isPrime F_X9_round F_X9_power J)
set_option maxRecDepth 100000 in
theorem s_X9_findPrime_58 {l : Launch} {D : va_G} {cI cS cM : ClassId} {F_X9_common F_X9_isPrime F_X9_round F_X9_power : KF} (h_X9_common : k_snd l D cI cS cM yX9_common cX9_common 5 (some .int) 1 2 F_X9_common) (h_X9_isPrime : k_snd l D cI cS cM yX9_isPrime cX9_isPrime 3 (some .boolean) 1 1 F_X9_isPrime) (h_X9_round : k_snd l D cI cS cM yX9_round cX9_round 4 (some .int) 1 2 F_X9_round) (h_X9_power : k_snd l D cI cS cM yX9_power cX9_power 5 (some .int) 1 3 F_X9_power) {J : List KC} (hJ : ∀ (i pc d : Nat), ([(7, 0), (58, 0), (115, 0)] : List (Nat × Nat))[i]? = some (pc, d) → KS l D cI cS cM yX9_findPrime.cls yX9_findPrime.name cX9_findPrime 3 none (k_rm 2 0 0) false pc d (k_jmp J i)) : KS l D cI cS cM yX9_findPrime.cls yX9_findPrime.name cX9_findPrime 3 none (k_rm 2 0 0) false 58 0 (b_X9_findPrime_58 F_X9_common F_X9_isPrime F_X9_round F_X9_power J) :=
  s_aload_n dX9_findPrime_58 rfl <|
  s_get dX9_findPrime_59 (ci := 9) (sl := 16) (Cn := RX9) (Tf := TX9) (N := 40) rfl (by decide) kiX9 kw_22_16 <|
  s_callS1 dX9_findPrime_62 kw_24_9 kw_24_10 ok_X9_isPrime (by decide) (by decide) h_X9_isPrime (by decide) <|
  s_if_eq dX9_findPrime_65 (by decide) (s_X9_findPrime_100 h_X9_common h_X9_isPrime h_X9_round h_X9_power hJ) (s_X9_findPrime_68 h_X9_common h_X9_isPrime h_X9_round h_X9_power hJ)
noncomputable def b_X9_findPrime_52 (F_X9_common F_X9_isPrime F_X9_round F_X9_power : KF) (J : List KC) : KC := o_aload 0 <| o_push 8 <| o_puti 9 16 <| b_X9_findPrime_58 F_X9_common F_X9_isPrime F_X9_round F_X9_power J
set_option maxRecDepth 100000 in
theorem s_X9_findPrime_52 {l : Launch} {D : va_G} {cI cS cM : ClassId} {F_X9_common F_X9_isPrime F_X9_round F_X9_power : KF} (h_X9_common : k_snd l D cI cS cM yX9_common cX9_common 5 (some .int) 1 2 F_X9_common) (h_X9_isPrime : k_snd l D cI cS cM yX9_isPrime cX9_isPrime 3 (some .boolean) 1 1 F_X9_isPrime) (h_X9_round : k_snd l D cI cS cM yX9_round cX9_round 4 (some .int) 1 2 F_X9_round) (h_X9_power : k_snd l D cI cS cM yX9_power cX9_power 5 (some .int) 1 3 F_X9_power) {J : List KC} (hJ : ∀ (i pc d : Nat), ([(7, 0), (58, 0), (115, 0)] : List (Nat × Nat))[i]? = some (pc, d) → KS l D cI cS cM yX9_findPrime.cls yX9_findPrime.name cX9_findPrime 3 none (k_rm 2 0 0) false pc d (k_jmp J i)) : KS l D cI cS cM yX9_findPrime.cls yX9_findPrime.name cX9_findPrime 3 none (k_rm 2 0 0) false 52 0 (b_X9_findPrime_52 F_X9_common F_X9_isPrime F_X9_round F_X9_power J) :=
  s_aload_n dX9_findPrime_52 rfl <|
  s_push2 dX9_findPrime_53 (by decide) (by decide) <|
  s_puti dX9_findPrime_55 (ci := 9) (sl := 16) (Cn := RX9) (Tf := TX9) (N := 40) (tyf := tyX9) rfl (by decide) kiX9 tyX9_ok nmX9 kw_22_16 rfl rfl <|
  s_X9_findPrime_58 h_X9_common h_X9_isPrime h_X9_round h_X9_power hJ
noncomputable def b_X9_findPrime_15 (F_X9_common F_X9_isPrime F_X9_round F_X9_power : KF) (J : List KC) : KC := o_aload 0 <| o_get 9 11 <| o_aload 0 <| o_get 9 14 <| o_iload 1 <| o_iald <| o_iald <| o_istore 2 <| o_aload 0 <| o_aload 0 <| o_get 9 15 <| o_aload 0 <| o_get 9 15 <| o_iload 2 <| o_cS1 2 F_X9_common <| o_div n_div <| o_iload 2 <| o_bin n_mul <| o_puti 9 15 <| o_iinc 1 1 <| k_jmp J 0
set_option maxRecDepth 100000 in
theorem s_X9_findPrime_15 {l : Launch} {D : va_G} {cI cS cM : ClassId} {F_X9_common F_X9_isPrime F_X9_round F_X9_power : KF} (h_X9_common : k_snd l D cI cS cM yX9_common cX9_common 5 (some .int) 1 2 F_X9_common) (h_X9_isPrime : k_snd l D cI cS cM yX9_isPrime cX9_isPrime 3 (some .boolean) 1 1 F_X9_isPrime) (h_X9_round : k_snd l D cI cS cM yX9_round cX9_round 4 (some .int) 1 2 F_X9_round) (h_X9_power : k_snd l D cI cS cM yX9_power cX9_power 5 (some .int) 1 3 F_X9_power) {J : List KC} (hJ : ∀ (i pc d : Nat), ([(7, 0), (58, 0), (115, 0)] : List (Nat × Nat))[i]? = some (pc, d) → KS l D cI cS cM yX9_findPrime.cls yX9_findPrime.name cX9_findPrime 3 none (k_rm 2 0 0) false pc d (k_jmp J i)) : KS l D cI cS cM yX9_findPrime.cls yX9_findPrime.name cX9_findPrime 3 none (k_rm 2 0 0) false 15 0 (b_X9_findPrime_15 F_X9_common F_X9_isPrime F_X9_round F_X9_power J) :=
  s_aload_n dX9_findPrime_15 rfl <|
  s_get dX9_findPrime_16 (ci := 9) (sl := 11) (Cn := RX9) (Tf := TX9) (N := 40) rfl (by decide) kiX9 kw_7_0 <|
  s_aload_n dX9_findPrime_19 rfl <|
  s_get dX9_findPrime_20 (ci := 9) (sl := 14) (Cn := RX9) (Tf := TX9) (N := 40) rfl (by decide) kiX9 kw_7_2 <|
  s_iload_n dX9_findPrime_23 rfl <|
  s_iald dX9_findPrime_24 <|
  s_iald dX9_findPrime_25 <|
  s_istore_n dX9_findPrime_26 rfl (by decide) <|
  s_aload_n dX9_findPrime_27 rfl <|
  s_aload_n dX9_findPrime_28 rfl <|
  s_get dX9_findPrime_29 (ci := 9) (sl := 15) (Cn := RX9) (Tf := TX9) (N := 40) rfl (by decide) kiX9 kw_22_15 <|
  s_aload_n dX9_findPrime_32 rfl <|
  s_get dX9_findPrime_33 (ci := 9) (sl := 15) (Cn := RX9) (Tf := TX9) (N := 40) rfl (by decide) kiX9 kw_22_15 <|
  s_iload_n dX9_findPrime_36 rfl <|
  s_callS1 dX9_findPrime_37 kw_24_6 kw_24_7 ok_X9_common (by decide) (by decide) h_X9_common (by decide) <|
  s_idiv dX9_findPrime_40 <|
  s_iload_n dX9_findPrime_41 rfl <|
  s_imul dX9_findPrime_42 <|
  s_puti dX9_findPrime_43 (ci := 9) (sl := 15) (Cn := RX9) (Tf := TX9) (N := 40) (tyf := tyX9) rfl (by decide) kiX9 tyX9_ok nmX9 kw_22_15 rfl rfl <|
  s_iinc dX9_findPrime_46 (by decide) (by decide) <|
  s_goto dX9_findPrime_49 (by decide) (hJ 0 _ _ rfl)
noncomputable def b_X9_findPrime_7 (F_X9_common F_X9_isPrime F_X9_round F_X9_power : KF) (J : List KC) : KC := o_iload 1 <| o_aload 0 <| o_get 9 12 <| o_c2 s_lt (b_X9_findPrime_15 F_X9_common F_X9_isPrime F_X9_round F_X9_power J) (b_X9_findPrime_52 F_X9_common F_X9_isPrime F_X9_round F_X9_power J)
set_option maxRecDepth 100000 in
theorem s_X9_findPrime_7 {l : Launch} {D : va_G} {cI cS cM : ClassId} {F_X9_common F_X9_isPrime F_X9_round F_X9_power : KF} (h_X9_common : k_snd l D cI cS cM yX9_common cX9_common 5 (some .int) 1 2 F_X9_common) (h_X9_isPrime : k_snd l D cI cS cM yX9_isPrime cX9_isPrime 3 (some .boolean) 1 1 F_X9_isPrime) (h_X9_round : k_snd l D cI cS cM yX9_round cX9_round 4 (some .int) 1 2 F_X9_round) (h_X9_power : k_snd l D cI cS cM yX9_power cX9_power 5 (some .int) 1 3 F_X9_power) {J : List KC} (hJ : ∀ (i pc d : Nat), ([(7, 0), (58, 0), (115, 0)] : List (Nat × Nat))[i]? = some (pc, d) → KS l D cI cS cM yX9_findPrime.cls yX9_findPrime.name cX9_findPrime 3 none (k_rm 2 0 0) false pc d (k_jmp J i)) : KS l D cI cS cM yX9_findPrime.cls yX9_findPrime.name cX9_findPrime 3 none (k_rm 2 0 0) false 7 0 (b_X9_findPrime_7 F_X9_common F_X9_isPrime F_X9_round F_X9_power J) :=
  s_iload_n dX9_findPrime_7 rfl <|
  s_aload_n dX9_findPrime_8 rfl <|
  s_get dX9_findPrime_9 (ci := 9) (sl := 12) (Cn := RX9) (Tf := TX9) (N := 40) rfl (by decide) kiX9 kw_22_14 <|
  s_icmp_ge dX9_findPrime_12 (by decide) (s_X9_findPrime_52 h_X9_common h_X9_isPrime h_X9_round h_X9_power hJ) (s_X9_findPrime_15 h_X9_common h_X9_isPrime h_X9_round h_X9_power hJ)
noncomputable def b_X9_findPrime_0 (F_X9_common F_X9_isPrime F_X9_round F_X9_power : KF) (J : List KC) : KC := o_aload 0 <| o_push 1 <| o_puti 9 15 <| o_push 0 <| o_istore 1 <| b_X9_findPrime_7 F_X9_common F_X9_isPrime F_X9_round F_X9_power J
set_option maxRecDepth 100000 in
theorem s_X9_findPrime_0 {l : Launch} {D : va_G} {cI cS cM : ClassId} {F_X9_common F_X9_isPrime F_X9_round F_X9_power : KF} (h_X9_common : k_snd l D cI cS cM yX9_common cX9_common 5 (some .int) 1 2 F_X9_common) (h_X9_isPrime : k_snd l D cI cS cM yX9_isPrime cX9_isPrime 3 (some .boolean) 1 1 F_X9_isPrime) (h_X9_round : k_snd l D cI cS cM yX9_round cX9_round 4 (some .int) 1 2 F_X9_round) (h_X9_power : k_snd l D cI cS cM yX9_power cX9_power 5 (some .int) 1 3 F_X9_power) {J : List KC} (hJ : ∀ (i pc d : Nat), ([(7, 0), (58, 0), (115, 0)] : List (Nat × Nat))[i]? = some (pc, d) → KS l D cI cS cM yX9_findPrime.cls yX9_findPrime.name cX9_findPrime 3 none (k_rm 2 0 0) false pc d (k_jmp J i)) : KS l D cI cS cM yX9_findPrime.cls yX9_findPrime.name cX9_findPrime 3 none (k_rm 2 0 0) false 0 0 (b_X9_findPrime_0 F_X9_common F_X9_isPrime F_X9_round F_X9_power J) :=
  s_aload_n dX9_findPrime_0 rfl <|
  s_push1 dX9_findPrime_1 (by decide) (by decide) <|
  s_puti dX9_findPrime_2 (ci := 9) (sl := 15) (Cn := RX9) (Tf := TX9) (N := 40) (tyf := tyX9) rfl (by decide) kiX9 tyX9_ok nmX9 kw_22_15 rfl rfl <|
  s_push1 dX9_findPrime_5 (by decide) (by decide) <|
  s_istore_n dX9_findPrime_6 rfl (by decide) <|
  s_X9_findPrime_7 h_X9_common h_X9_isPrime h_X9_round h_X9_power hJ
noncomputable def j_X9_findPrime (F_X9_common F_X9_isPrime F_X9_round F_X9_power : KF) (J : List KC) : List KC := [b_X9_findPrime_7 F_X9_common F_X9_isPrime F_X9_round F_X9_power J, b_X9_findPrime_58 F_X9_common F_X9_isPrime F_X9_round F_X9_power J, b_X9_findPrime_115 F_X9_common F_X9_isPrime F_X9_round F_X9_power J]
noncomputable def m_X9_findPrime (F_X9_common F_X9_isPrime F_X9_round F_X9_power : KF) (n : Nat) : KF := k_fun [k_u, k_u] (b_X9_findPrime_0 F_X9_common F_X9_isPrime F_X9_round F_X9_power (k_loop (j_X9_findPrime F_X9_common F_X9_isPrime F_X9_round F_X9_power) n))
theorem r_X9_findPrime {l : Launch} {D : va_G} {cI cS cM : ClassId} {F_X9_common F_X9_isPrime F_X9_round F_X9_power : KF} (h_X9_common : k_snd l D cI cS cM yX9_common cX9_common 5 (some .int) 1 2 F_X9_common) (h_X9_isPrime : k_snd l D cI cS cM yX9_isPrime cX9_isPrime 3 (some .boolean) 1 1 F_X9_isPrime) (h_X9_round : k_snd l D cI cS cM yX9_round cX9_round 4 (some .int) 1 2 F_X9_round) (h_X9_power : k_snd l D cI cS cM yX9_power cX9_power 5 (some .int) 1 3 F_X9_power) (n : Nat) : k_snd l D cI cS cM yX9_findPrime cX9_findPrime 3 none 2 1 (m_X9_findPrime F_X9_common F_X9_isPrime F_X9_round F_X9_power n) :=
  k_method (by decide +kernel) (by simp) rfl (s_X9_findPrime_0 h_X9_common h_X9_isPrime h_X9_round h_X9_power (k_loops (hs := [(7, 0), (58, 0), (115, 0)]) (fun J hJ i pc d h => match i, h with | 0, h => by cases h; exact s_X9_findPrime_7 h_X9_common h_X9_isPrime h_X9_round h_X9_power hJ | 1, h => by cases h; exact s_X9_findPrime_58 h_X9_common h_X9_isPrime h_X9_round h_X9_power hJ | 2, h => by cases h; exact s_X9_findPrime_115 h_X9_common h_X9_isPrime h_X9_round h_X9_power hJ | _ + 3, h => by simp at h) n))
noncomputable def b_X9_findSorts_154 (F_X9_then : KF) (J : List KC) : KC := o_ret
set_option maxRecDepth 100000 in
theorem s_X9_findSorts_154 {l : Launch} {D : va_G} {cI cS cM : ClassId} {F_X9_then : KF} (h_X9_then : k_snd l D cI cS cM yX9_then cX9_then 3 (some .int) 1 3 F_X9_then) {J : List KC} (hJ : ∀ (i pc d : Nat), ([(7, 0), (30, 0), (70, 0)] : List (Nat × Nat))[i]? = some (pc, d) → KS l D cI cS cM yX9_findSorts.cls yX9_findSorts.name cX9_findSorts 4 none (k_rm 2 0 0) false pc d (k_jmp J i)) : KS l D cI cS cM yX9_findSorts.cls yX9_findSorts.name cX9_findSorts 4 none (k_rm 2 0 0) false 154 0 (b_X9_findSorts_154 F_X9_then J) :=
  s_return dX9_findSorts_154 rfl
noncomputable def b_X9_findSorts_148 (F_X9_then : KF) (J : List KC) : KC := o_iinc 1 1 <| k_jmp J 1
set_option maxRecDepth 100000 in
theorem s_X9_findSorts_148 {l : Launch} {D : va_G} {cI cS cM : ClassId} {F_X9_then : KF} (h_X9_then : k_snd l D cI cS cM yX9_then cX9_then 3 (some .int) 1 3 F_X9_then) {J : List KC} (hJ : ∀ (i pc d : Nat), ([(7, 0), (30, 0), (70, 0)] : List (Nat × Nat))[i]? = some (pc, d) → KS l D cI cS cM yX9_findSorts.cls yX9_findSorts.name cX9_findSorts 4 none (k_rm 2 0 0) false pc d (k_jmp J i)) : KS l D cI cS cM yX9_findSorts.cls yX9_findSorts.name cX9_findSorts 4 none (k_rm 2 0 0) false 148 0 (b_X9_findSorts_148 F_X9_then J) :=
  s_iinc dX9_findSorts_148 (by decide) (by decide) <|
  s_goto dX9_findSorts_151 (by decide) (hJ 1 _ _ rfl)
noncomputable def b_X9_findSorts_138 (F_X9_then : KF) (J : List KC) : KC := o_aload 0 <| o_dup <| o_get 9 12 <| o_push 1 <| o_bin n_add <| o_puti 9 12 <| b_X9_findSorts_148 F_X9_then J
set_option maxRecDepth 100000 in
theorem s_X9_findSorts_138 {l : Launch} {D : va_G} {cI cS cM : ClassId} {F_X9_then : KF} (h_X9_then : k_snd l D cI cS cM yX9_then cX9_then 3 (some .int) 1 3 F_X9_then) {J : List KC} (hJ : ∀ (i pc d : Nat), ([(7, 0), (30, 0), (70, 0)] : List (Nat × Nat))[i]? = some (pc, d) → KS l D cI cS cM yX9_findSorts.cls yX9_findSorts.name cX9_findSorts 4 none (k_rm 2 0 0) false pc d (k_jmp J i)) : KS l D cI cS cM yX9_findSorts.cls yX9_findSorts.name cX9_findSorts 4 none (k_rm 2 0 0) false 138 0 (b_X9_findSorts_138 F_X9_then J) :=
  s_aload_n dX9_findSorts_138 rfl <|
  s_dup dX9_findSorts_139 <|
  s_get dX9_findSorts_140 (ci := 9) (sl := 12) (Cn := RX9) (Tf := TX9) (N := 40) rfl (by decide) kiX9 kw_22_14 <|
  s_push1 dX9_findSorts_143 (by decide) (by decide) <|
  s_iadd dX9_findSorts_144 <|
  s_puti dX9_findSorts_145 (ci := 9) (sl := 12) (Cn := RX9) (Tf := TX9) (N := 40) (tyf := tyX9) rfl (by decide) kiX9 tyX9_ok nmX9 kw_22_14 rfl rfl <|
  s_X9_findSorts_148 h_X9_then hJ
noncomputable def b_X9_findSorts_120 (F_X9_then : KF) (J : List KC) : KC := o_bin n_add <| o_iast <| o_aload 0 <| o_get 9 9 <| o_iload 3 <| o_aload 0 <| o_get 9 12 <| o_iast <| o_iinc 2 1 <| k_jmp J 2
set_option maxRecDepth 100000 in
theorem s_X9_findSorts_120 {l : Launch} {D : va_G} {cI cS cM : ClassId} {F_X9_then : KF} (h_X9_then : k_snd l D cI cS cM yX9_then cX9_then 3 (some .int) 1 3 F_X9_then) {J : List KC} (hJ : ∀ (i pc d : Nat), ([(7, 0), (30, 0), (70, 0)] : List (Nat × Nat))[i]? = some (pc, d) → KS l D cI cS cM yX9_findSorts.cls yX9_findSorts.name cX9_findSorts 4 none (k_rm 2 0 0) false pc d (k_jmp J i)) : KS l D cI cS cM yX9_findSorts.cls yX9_findSorts.name cX9_findSorts 4 none (k_rm 2 0 0) false 120 4 (b_X9_findSorts_120 F_X9_then J) :=
  s_iadd dX9_findSorts_120 <|
  s_iast dX9_findSorts_121 <|
  s_aload_n dX9_findSorts_122 rfl <|
  s_get dX9_findSorts_123 (ci := 9) (sl := 9) (Cn := RX9) (Tf := TX9) (N := 40) rfl (by decide) kiX9 kw_6_22 <|
  s_iload_n dX9_findSorts_126 rfl <|
  s_aload_n dX9_findSorts_127 rfl <|
  s_get dX9_findSorts_128 (ci := 9) (sl := 12) (Cn := RX9) (Tf := TX9) (N := 40) rfl (by decide) kiX9 kw_22_14 <|
  s_iast dX9_findSorts_131 <|
  s_iinc dX9_findSorts_132 (by decide) (by decide) <|
  s_goto dX9_findSorts_135 (by decide) (hJ 2 _ _ rfl)
noncomputable def b_X9_findSorts_119 (F_X9_then : KF) (J : List KC) : KC := o_push 0 <| b_X9_findSorts_120 F_X9_then J
set_option maxRecDepth 100000 in
theorem s_X9_findSorts_119 {l : Launch} {D : va_G} {cI cS cM : ClassId} {F_X9_then : KF} (h_X9_then : k_snd l D cI cS cM yX9_then cX9_then 3 (some .int) 1 3 F_X9_then) {J : List KC} (hJ : ∀ (i pc d : Nat), ([(7, 0), (30, 0), (70, 0)] : List (Nat × Nat))[i]? = some (pc, d) → KS l D cI cS cM yX9_findSorts.cls yX9_findSorts.name cX9_findSorts 4 none (k_rm 2 0 0) false pc d (k_jmp J i)) : KS l D cI cS cM yX9_findSorts.cls yX9_findSorts.name cX9_findSorts 4 none (k_rm 2 0 0) false 119 3 (b_X9_findSorts_119 F_X9_then J) :=
  s_push1 dX9_findSorts_119 (by decide) (by decide) <|
  s_X9_findSorts_120 h_X9_then hJ
noncomputable def b_X9_findSorts_115 (F_X9_then : KF) (J : List KC) : KC := o_push 1 <| b_X9_findSorts_120 F_X9_then J
set_option maxRecDepth 100000 in
theorem s_X9_findSorts_115 {l : Launch} {D : va_G} {cI cS cM : ClassId} {F_X9_then : KF} (h_X9_then : k_snd l D cI cS cM yX9_then cX9_then 3 (some .int) 1 3 F_X9_then) {J : List KC} (hJ : ∀ (i pc d : Nat), ([(7, 0), (30, 0), (70, 0)] : List (Nat × Nat))[i]? = some (pc, d) → KS l D cI cS cM yX9_findSorts.cls yX9_findSorts.name cX9_findSorts 4 none (k_rm 2 0 0) false pc d (k_jmp J i)) : KS l D cI cS cM yX9_findSorts.cls yX9_findSorts.name cX9_findSorts 4 none (k_rm 2 0 0) false 115 3 (b_X9_findSorts_115 F_X9_then J) :=
  s_push1 dX9_findSorts_115 (by decide) (by decide) <|
  s_goto dX9_findSorts_116 (by decide) (s_X9_findSorts_120 h_X9_then hJ)
noncomputable def b_X9_findSorts_78 (F_X9_then : KF) (J : List KC) : KC := o_aload 0 <| o_aload 0 <| o_iload 2 <| o_iload 1 <| o_cV1 3 9 F_X9_then <| o_aload 0 <| o_get 9 10 <| o_iload 2 <| o_iald <| o_cV1 3 9 F_X9_then <| o_istore 3 <| o_aload 0 <| o_get 9 13 <| o_aload 0 <| o_get 9 12 <| o_dup2 <| o_iald <| o_aload 0 <| o_get 9 9 <| o_iload 3 <| o_iald <| o_push 4294967295 <| o_c2 Nat.beq (b_X9_findSorts_115 F_X9_then J) (b_X9_findSorts_119 F_X9_then J)
set_option maxRecDepth 100000 in
theorem s_X9_findSorts_78 {l : Launch} {D : va_G} {cI cS cM : ClassId} {F_X9_then : KF} (h_X9_then : k_snd l D cI cS cM yX9_then cX9_then 3 (some .int) 1 3 F_X9_then) {J : List KC} (hJ : ∀ (i pc d : Nat), ([(7, 0), (30, 0), (70, 0)] : List (Nat × Nat))[i]? = some (pc, d) → KS l D cI cS cM yX9_findSorts.cls yX9_findSorts.name cX9_findSorts 4 none (k_rm 2 0 0) false pc d (k_jmp J i)) : KS l D cI cS cM yX9_findSorts.cls yX9_findSorts.name cX9_findSorts 4 none (k_rm 2 0 0) false 78 0 (b_X9_findSorts_78 F_X9_then J) :=
  s_aload_n dX9_findSorts_78 rfl <|
  s_aload_n dX9_findSorts_79 rfl <|
  s_iload_n dX9_findSorts_80 rfl <|
  s_iload_n dX9_findSorts_81 rfl <|
  s_callV1 dX9_findSorts_82 kw_23_18 kw_23_19 kw_23_20 (ci := 9) rfl ok_X9_then (by decide) (by decide) h_X9_then (by decide) <|
  s_aload_n dX9_findSorts_85 rfl <|
  s_get dX9_findSorts_86 (ci := 9) (sl := 10) (Cn := RX9) (Tf := TX9) (N := 40) rfl (by decide) kiX9 kw_6_23 <|
  s_iload_n dX9_findSorts_89 rfl <|
  s_iald dX9_findSorts_90 <|
  s_callV1 dX9_findSorts_91 kw_23_18 kw_23_19 kw_23_20 (ci := 9) rfl ok_X9_then (by decide) (by decide) h_X9_then (by decide) <|
  s_istore_n dX9_findSorts_94 rfl (by decide) <|
  s_aload_n dX9_findSorts_95 rfl <|
  s_get dX9_findSorts_96 (ci := 9) (sl := 13) (Cn := RX9) (Tf := TX9) (N := 40) rfl (by decide) kiX9 kw_7_1 <|
  s_aload_n dX9_findSorts_99 rfl <|
  s_get dX9_findSorts_100 (ci := 9) (sl := 12) (Cn := RX9) (Tf := TX9) (N := 40) rfl (by decide) kiX9 kw_22_14 <|
  s_dup2 dX9_findSorts_103 <|
  s_iald dX9_findSorts_104 <|
  s_aload_n dX9_findSorts_105 rfl <|
  s_get dX9_findSorts_106 (ci := 9) (sl := 9) (Cn := RX9) (Tf := TX9) (N := 40) rfl (by decide) kiX9 kw_6_22 <|
  s_iload_n dX9_findSorts_109 rfl <|
  s_iald dX9_findSorts_110 <|
  s_push1 dX9_findSorts_111 (by decide) (by decide) <|
  s_icmp_ne dX9_findSorts_112 (by decide) (s_X9_findSorts_119 h_X9_then hJ) (s_X9_findSorts_115 h_X9_then hJ)
noncomputable def b_X9_findSorts_70 (F_X9_then : KF) (J : List KC) : KC := o_iload 2 <| o_aload 0 <| o_get 9 6 <| o_c2 s_lt (b_X9_findSorts_78 F_X9_then J) (b_X9_findSorts_138 F_X9_then J)
set_option maxRecDepth 100000 in
theorem s_X9_findSorts_70 {l : Launch} {D : va_G} {cI cS cM : ClassId} {F_X9_then : KF} (h_X9_then : k_snd l D cI cS cM yX9_then cX9_then 3 (some .int) 1 3 F_X9_then) {J : List KC} (hJ : ∀ (i pc d : Nat), ([(7, 0), (30, 0), (70, 0)] : List (Nat × Nat))[i]? = some (pc, d) → KS l D cI cS cM yX9_findSorts.cls yX9_findSorts.name cX9_findSorts 4 none (k_rm 2 0 0) false pc d (k_jmp J i)) : KS l D cI cS cM yX9_findSorts.cls yX9_findSorts.name cX9_findSorts 4 none (k_rm 2 0 0) false 70 0 (b_X9_findSorts_70 F_X9_then J) :=
  s_iload_n dX9_findSorts_70 rfl <|
  s_aload_n dX9_findSorts_71 rfl <|
  s_get dX9_findSorts_72 (ci := 9) (sl := 6) (Cn := RX9) (Tf := TX9) (N := 40) rfl (by decide) kiX9 kw_22_13 <|
  s_icmp_ge dX9_findSorts_75 (by decide) (s_X9_findSorts_138 h_X9_then hJ) (s_X9_findSorts_78 h_X9_then hJ)
noncomputable def b_X9_findSorts_48 (F_X9_then : KF) (J : List KC) : KC := o_aload 0 <| o_get 9 14 <| o_aload 0 <| o_get 9 12 <| o_iload 1 <| o_iast <| o_aload 0 <| o_get 9 13 <| o_aload 0 <| o_get 9 12 <| o_push 0 <| o_iast <| o_push 0 <| o_istore 2 <| b_X9_findSorts_70 F_X9_then J
set_option maxRecDepth 100000 in
theorem s_X9_findSorts_48 {l : Launch} {D : va_G} {cI cS cM : ClassId} {F_X9_then : KF} (h_X9_then : k_snd l D cI cS cM yX9_then cX9_then 3 (some .int) 1 3 F_X9_then) {J : List KC} (hJ : ∀ (i pc d : Nat), ([(7, 0), (30, 0), (70, 0)] : List (Nat × Nat))[i]? = some (pc, d) → KS l D cI cS cM yX9_findSorts.cls yX9_findSorts.name cX9_findSorts 4 none (k_rm 2 0 0) false pc d (k_jmp J i)) : KS l D cI cS cM yX9_findSorts.cls yX9_findSorts.name cX9_findSorts 4 none (k_rm 2 0 0) false 48 0 (b_X9_findSorts_48 F_X9_then J) :=
  s_aload_n dX9_findSorts_48 rfl <|
  s_get dX9_findSorts_49 (ci := 9) (sl := 14) (Cn := RX9) (Tf := TX9) (N := 40) rfl (by decide) kiX9 kw_7_2 <|
  s_aload_n dX9_findSorts_52 rfl <|
  s_get dX9_findSorts_53 (ci := 9) (sl := 12) (Cn := RX9) (Tf := TX9) (N := 40) rfl (by decide) kiX9 kw_22_14 <|
  s_iload_n dX9_findSorts_56 rfl <|
  s_iast dX9_findSorts_57 <|
  s_aload_n dX9_findSorts_58 rfl <|
  s_get dX9_findSorts_59 (ci := 9) (sl := 13) (Cn := RX9) (Tf := TX9) (N := 40) rfl (by decide) kiX9 kw_7_1 <|
  s_aload_n dX9_findSorts_62 rfl <|
  s_get dX9_findSorts_63 (ci := 9) (sl := 12) (Cn := RX9) (Tf := TX9) (N := 40) rfl (by decide) kiX9 kw_22_14 <|
  s_push1 dX9_findSorts_66 (by decide) (by decide) <|
  s_iast dX9_findSorts_67 <|
  s_push1 dX9_findSorts_68 (by decide) (by decide) <|
  s_istore_n dX9_findSorts_69 rfl (by decide) <|
  s_X9_findSorts_70 h_X9_then hJ
noncomputable def b_X9_findSorts_38 (F_X9_then : KF) (J : List KC) : KC := o_aload 0 <| o_get 9 9 <| o_iload 1 <| o_iald <| o_push 4294967295 <| o_c2 Nat.beq (b_X9_findSorts_48 F_X9_then J) (b_X9_findSorts_148 F_X9_then J)
set_option maxRecDepth 100000 in
theorem s_X9_findSorts_38 {l : Launch} {D : va_G} {cI cS cM : ClassId} {F_X9_then : KF} (h_X9_then : k_snd l D cI cS cM yX9_then cX9_then 3 (some .int) 1 3 F_X9_then) {J : List KC} (hJ : ∀ (i pc d : Nat), ([(7, 0), (30, 0), (70, 0)] : List (Nat × Nat))[i]? = some (pc, d) → KS l D cI cS cM yX9_findSorts.cls yX9_findSorts.name cX9_findSorts 4 none (k_rm 2 0 0) false pc d (k_jmp J i)) : KS l D cI cS cM yX9_findSorts.cls yX9_findSorts.name cX9_findSorts 4 none (k_rm 2 0 0) false 38 0 (b_X9_findSorts_38 F_X9_then J) :=
  s_aload_n dX9_findSorts_38 rfl <|
  s_get dX9_findSorts_39 (ci := 9) (sl := 9) (Cn := RX9) (Tf := TX9) (N := 40) rfl (by decide) kiX9 kw_6_22 <|
  s_iload_n dX9_findSorts_42 rfl <|
  s_iald dX9_findSorts_43 <|
  s_push1 dX9_findSorts_44 (by decide) (by decide) <|
  s_icmp_ne dX9_findSorts_45 (by decide) (s_X9_findSorts_148 h_X9_then hJ) (s_X9_findSorts_48 h_X9_then hJ)
noncomputable def b_X9_findSorts_30 (F_X9_then : KF) (J : List KC) : KC := o_iload 1 <| o_aload 0 <| o_get 9 6 <| o_c2 s_lt (b_X9_findSorts_38 F_X9_then J) (b_X9_findSorts_154 F_X9_then J)
set_option maxRecDepth 100000 in
theorem s_X9_findSorts_30 {l : Launch} {D : va_G} {cI cS cM : ClassId} {F_X9_then : KF} (h_X9_then : k_snd l D cI cS cM yX9_then cX9_then 3 (some .int) 1 3 F_X9_then) {J : List KC} (hJ : ∀ (i pc d : Nat), ([(7, 0), (30, 0), (70, 0)] : List (Nat × Nat))[i]? = some (pc, d) → KS l D cI cS cM yX9_findSorts.cls yX9_findSorts.name cX9_findSorts 4 none (k_rm 2 0 0) false pc d (k_jmp J i)) : KS l D cI cS cM yX9_findSorts.cls yX9_findSorts.name cX9_findSorts 4 none (k_rm 2 0 0) false 30 0 (b_X9_findSorts_30 F_X9_then J) :=
  s_iload_n dX9_findSorts_30 rfl <|
  s_aload_n dX9_findSorts_31 rfl <|
  s_get dX9_findSorts_32 (ci := 9) (sl := 6) (Cn := RX9) (Tf := TX9) (N := 40) rfl (by decide) kiX9 kw_22_13 <|
  s_icmp_ge dX9_findSorts_35 (by decide) (s_X9_findSorts_154 h_X9_then hJ) (s_X9_findSorts_38 h_X9_then hJ)
noncomputable def b_X9_findSorts_28 (F_X9_then : KF) (J : List KC) : KC := o_push 0 <| o_istore 1 <| b_X9_findSorts_30 F_X9_then J
set_option maxRecDepth 100000 in
theorem s_X9_findSorts_28 {l : Launch} {D : va_G} {cI cS cM : ClassId} {F_X9_then : KF} (h_X9_then : k_snd l D cI cS cM yX9_then cX9_then 3 (some .int) 1 3 F_X9_then) {J : List KC} (hJ : ∀ (i pc d : Nat), ([(7, 0), (30, 0), (70, 0)] : List (Nat × Nat))[i]? = some (pc, d) → KS l D cI cS cM yX9_findSorts.cls yX9_findSorts.name cX9_findSorts 4 none (k_rm 2 0 0) false pc d (k_jmp J i)) : KS l D cI cS cM yX9_findSorts.cls yX9_findSorts.name cX9_findSorts 4 none (k_rm 2 0 0) false 28 0 (b_X9_findSorts_28 F_X9_then J) :=
  s_push1 dX9_findSorts_28 (by decide) (by decide) <|
  s_istore_n dX9_findSorts_29 rfl (by decide) <|
  s_X9_findSorts_30 h_X9_then hJ
noncomputable def b_X9_findSorts_15 (F_X9_then : KF) (J : List KC) : KC := o_aload 0 <| o_get 9 9 <| o_iload 1 <| o_push 4294967295 <| o_iast <| o_iinc 1 1 <| k_jmp J 0
set_option maxRecDepth 100000 in
theorem s_X9_findSorts_15 {l : Launch} {D : va_G} {cI cS cM : ClassId} {F_X9_then : KF} (h_X9_then : k_snd l D cI cS cM yX9_then cX9_then 3 (some .int) 1 3 F_X9_then) {J : List KC} (hJ : ∀ (i pc d : Nat), ([(7, 0), (30, 0), (70, 0)] : List (Nat × Nat))[i]? = some (pc, d) → KS l D cI cS cM yX9_findSorts.cls yX9_findSorts.name cX9_findSorts 4 none (k_rm 2 0 0) false pc d (k_jmp J i)) : KS l D cI cS cM yX9_findSorts.cls yX9_findSorts.name cX9_findSorts 4 none (k_rm 2 0 0) false 15 0 (b_X9_findSorts_15 F_X9_then J) :=
  s_aload_n dX9_findSorts_15 rfl <|
  s_get dX9_findSorts_16 (ci := 9) (sl := 9) (Cn := RX9) (Tf := TX9) (N := 40) rfl (by decide) kiX9 kw_6_22 <|
  s_iload_n dX9_findSorts_19 rfl <|
  s_push1 dX9_findSorts_20 (by decide) (by decide) <|
  s_iast dX9_findSorts_21 <|
  s_iinc dX9_findSorts_22 (by decide) (by decide) <|
  s_goto dX9_findSorts_25 (by decide) (hJ 0 _ _ rfl)
noncomputable def b_X9_findSorts_7 (F_X9_then : KF) (J : List KC) : KC := o_iload 1 <| o_aload 0 <| o_get 9 6 <| o_c2 s_lt (b_X9_findSorts_15 F_X9_then J) (b_X9_findSorts_28 F_X9_then J)
set_option maxRecDepth 100000 in
theorem s_X9_findSorts_7 {l : Launch} {D : va_G} {cI cS cM : ClassId} {F_X9_then : KF} (h_X9_then : k_snd l D cI cS cM yX9_then cX9_then 3 (some .int) 1 3 F_X9_then) {J : List KC} (hJ : ∀ (i pc d : Nat), ([(7, 0), (30, 0), (70, 0)] : List (Nat × Nat))[i]? = some (pc, d) → KS l D cI cS cM yX9_findSorts.cls yX9_findSorts.name cX9_findSorts 4 none (k_rm 2 0 0) false pc d (k_jmp J i)) : KS l D cI cS cM yX9_findSorts.cls yX9_findSorts.name cX9_findSorts 4 none (k_rm 2 0 0) false 7 0 (b_X9_findSorts_7 F_X9_then J) :=
  s_iload_n dX9_findSorts_7 rfl <|
  s_aload_n dX9_findSorts_8 rfl <|
  s_get dX9_findSorts_9 (ci := 9) (sl := 6) (Cn := RX9) (Tf := TX9) (N := 40) rfl (by decide) kiX9 kw_22_13 <|
  s_icmp_ge dX9_findSorts_12 (by decide) (s_X9_findSorts_28 h_X9_then hJ) (s_X9_findSorts_15 h_X9_then hJ)
noncomputable def b_X9_findSorts_0 (F_X9_then : KF) (J : List KC) : KC := o_aload 0 <| o_push 0 <| o_puti 9 12 <| o_push 0 <| o_istore 1 <| b_X9_findSorts_7 F_X9_then J
set_option maxRecDepth 100000 in
theorem s_X9_findSorts_0 {l : Launch} {D : va_G} {cI cS cM : ClassId} {F_X9_then : KF} (h_X9_then : k_snd l D cI cS cM yX9_then cX9_then 3 (some .int) 1 3 F_X9_then) {J : List KC} (hJ : ∀ (i pc d : Nat), ([(7, 0), (30, 0), (70, 0)] : List (Nat × Nat))[i]? = some (pc, d) → KS l D cI cS cM yX9_findSorts.cls yX9_findSorts.name cX9_findSorts 4 none (k_rm 2 0 0) false pc d (k_jmp J i)) : KS l D cI cS cM yX9_findSorts.cls yX9_findSorts.name cX9_findSorts 4 none (k_rm 2 0 0) false 0 0 (b_X9_findSorts_0 F_X9_then J) :=
  s_aload_n dX9_findSorts_0 rfl <|
  s_push1 dX9_findSorts_1 (by decide) (by decide) <|
  s_puti dX9_findSorts_2 (ci := 9) (sl := 12) (Cn := RX9) (Tf := TX9) (N := 40) (tyf := tyX9) rfl (by decide) kiX9 tyX9_ok nmX9 kw_22_14 rfl rfl <|
  s_push1 dX9_findSorts_5 (by decide) (by decide) <|
  s_istore_n dX9_findSorts_6 rfl (by decide) <|
  s_X9_findSorts_7 h_X9_then hJ
noncomputable def j_X9_findSorts (F_X9_then : KF) (J : List KC) : List KC := [b_X9_findSorts_7 F_X9_then J, b_X9_findSorts_30 F_X9_then J, b_X9_findSorts_70 F_X9_then J]
noncomputable def m_X9_findSorts (F_X9_then : KF) (n : Nat) : KF := k_fun [k_u, k_u, k_u] (b_X9_findSorts_0 F_X9_then (k_loop (j_X9_findSorts F_X9_then) n))
theorem r_X9_findSorts {l : Launch} {D : va_G} {cI cS cM : ClassId} {F_X9_then : KF} (h_X9_then : k_snd l D cI cS cM yX9_then cX9_then 3 (some .int) 1 3 F_X9_then) (n : Nat) : k_snd l D cI cS cM yX9_findSorts cX9_findSorts 4 none 2 1 (m_X9_findSorts F_X9_then n) :=
  k_method (by decide +kernel) (by simp) rfl (s_X9_findSorts_0 h_X9_then (k_loops (hs := [(7, 0), (30, 0), (70, 0)]) (fun J hJ i pc d h => match i, h with | 0, h => by cases h; exact s_X9_findSorts_7 h_X9_then hJ | 1, h => by cases h; exact s_X9_findSorts_30 h_X9_then hJ | 2, h => by cases h; exact s_X9_findSorts_70 h_X9_then hJ | _ + 3, h => by simp at h) n))
