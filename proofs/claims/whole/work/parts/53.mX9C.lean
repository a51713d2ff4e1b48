noncomputable def b_X9_findSpreadsC_211 (F_X9_split : KF) (J : List KC) : KC := o_ret
set_option maxRecDepth 100000 in
theorem s_X9_findSpreadsC_211 {l : Launch} {D : va_G} {cI cS cM : ClassId} {F_X9_split : KF} (h_X9_split : k_snd l D cI cS cM yX9_split cX9_split 10 none 5 4 F_X9_split) {J : List KC} (hJ : ∀ (i pc d : Nat), ([(17, 0), (27, 0), (70, 0), (96, 0), (106, 0), (154, 0), (181, 0)] : List (Nat × Nat))[i]? = some (pc, d) → KS l D cI cS cM yX9_findSpreads.cls yX9_findSpreads.name cX9_findSpreads 4 none (k_rm 6 0 0) false pc d (k_jmp J i)) : KS l D cI cS cM yX9_findSpreads.cls yX9_findSpreads.name cX9_findSpreads 4 none (k_rm 6 0 0) false 211 0 (b_X9_findSpreadsC_211 F_X9_split J) :=
  s_return dX9_findSpreads_211 rfl
noncomputable def b_X9_findSpreadsC_205 (F_X9_split : KF) (J : List KC) : KC := o_iinc 1 1 <| k_jmp J 2
set_option maxRecDepth 100000 in
theorem s_X9_findSpreadsC_205 {l : Launch} {D : va_G} {cI cS cM : ClassId} {F_X9_split : KF} (h_X9_split : k_snd l D cI cS cM yX9_split cX9_split 10 none 5 4 F_X9_split) {J : List KC} (hJ : ∀ (i pc d : Nat), ([(17, 0), (27, 0), (70, 0), (96, 0), (106, 0), (154, 0), (181, 0)] : List (Nat × Nat))[i]? = some (pc, d) → KS l D cI cS cM yX9_findSpreads.cls yX9_findSpreads.name cX9_findSpreads 4 none (k_rm 6 0 0) false pc d (k_jmp J i)) : KS l D cI cS cM yX9_findSpreads.cls yX9_findSpreads.name cX9_findSpreads 4 none (k_rm 6 0 0) false 205 0 (b_X9_findSpreadsC_205 F_X9_split J) :=
  s_iinc dX9_findSpreads_205 (by decide) (by decide) <|
  s_goto dX9_findSpreads_208 (by decide) (hJ 2 _ _ rfl)
noncomputable def b_X9_findSpreadsC_187 (F_X9_split : KF) (J : List KC) : KC := o_aload 0 <| o_get 9 20 <| o_iload 2 <| o_aload 0 <| o_get 9 23 <| o_iload 2 <| o_iaia <| o_iinc 2 1 <| k_jmp J 6
set_option maxRecDepth 100000 in
theorem s_X9_findSpreadsC_187 {l : Launch} {D : va_G} {cI cS cM : ClassId} {F_X9_split : KF} (h_X9_split : k_snd l D cI cS cM yX9_split cX9_split 10 none 5 4 F_X9_split) {J : List KC} (hJ : ∀ (i pc d : Nat), ([(17, 0), (27, 0), (70, 0), (96, 0), (106, 0), (154, 0), (181, 0)] : List (Nat × Nat))[i]? = some (pc, d) → KS l D cI cS cM yX9_findSpreads.cls yX9_findSpreads.name cX9_findSpreads 4 none (k_rm 6 0 0) false pc d (k_jmp J i)) : KS l D cI cS cM yX9_findSpreads.cls yX9_findSpreads.name cX9_findSpreads 4 none (k_rm 6 0 0) false 187 0 (b_X9_findSpreadsC_187 F_X9_split J) :=
  s_aload_n dX9_findSpreads_187 rfl <|
  s_get dX9_findSpreads_188 (ci := 9) (sl := 20) (Cn := RX9) (Tf := TX9) (N := 40) rfl (by decide) kiX9 kw_7_4 <|
  s_iload_n dX9_findSpreads_191 rfl <|
  s_aload_n dX9_findSpreads_192 rfl <|
  s_get dX9_findSpreads_193 (ci := 9) (sl := 23) (Cn := RX9) (Tf := TX9) (N := 40) rfl (by decide) kiX9 kw_7_6 <|
  s_iload_n dX9_findSpreads_196 rfl <|
  s_iaia dX9_findSpreads_197 dX9_findSpreads_198 <|
  s_iinc dX9_findSpreads_199 (by decide) (by decide) <|
  s_goto dX9_findSpreads_202 (by decide) (hJ 6 _ _ rfl)
noncomputable def b_X9_findSpreadsC_181 (F_X9_split : KF) (J : List KC) : KC := o_iload 2 <| o_push 8 <| o_c2 s_lt (b_X9_findSpreadsC_187 F_X9_split J) (b_X9_findSpreadsC_205 F_X9_split J)
set_option maxRecDepth 100000 in
theorem s_X9_findSpreadsC_181 {l : Launch} {D : va_G} {cI cS cM : ClassId} {F_X9_split : KF} (h_X9_split : k_snd l D cI cS cM yX9_split cX9_split 10 none 5 4 F_X9_split) {J : List KC} (hJ : ∀ (i pc d : Nat), ([(17, 0), (27, 0), (70, 0), (96, 0), (106, 0), (154, 0), (181, 0)] : List (Nat × Nat))[i]? = some (pc, d) → KS l D cI cS cM yX9_findSpreads.cls yX9_findSpreads.name cX9_findSpreads 4 none (k_rm 6 0 0) false pc d (k_jmp J i)) : KS l D cI cS cM yX9_findSpreads.cls yX9_findSpreads.name cX9_findSpreads 4 none (k_rm 6 0 0) false 181 0 (b_X9_findSpreadsC_181 F_X9_split J) :=
  s_iload_n dX9_findSpreads_181 rfl <|
  s_push2 dX9_findSpreads_182 (by decide) (by decide) <|
  s_icmp_ge dX9_findSpreads_184 (by decide) (s_X9_findSpreadsC_205 h_X9_split hJ) (s_X9_findSpreadsC_187 h_X9_split hJ)
noncomputable def b_X9_findSpreadsC_179 (F_X9_split : KF) (J : List KC) : KC := o_push 0 <| o_istore 2 <| b_X9_findSpreadsC_181 F_X9_split J
set_option maxRecDepth 100000 in
theorem s_X9_findSpreadsC_179 {l : Launch} {D : va_G} {cI cS cM : ClassId} {F_X9_split : KF} (h_X9_split : k_snd l D cI cS cM yX9_split cX9_split 10 none 5 4 F_X9_split) {J : List KC} (hJ : ∀ (i pc d : Nat), ([(17, 0), (27, 0), (70, 0), (96, 0), (106, 0), (154, 0), (181, 0)] : List (Nat × Nat))[i]? = some (pc, d) → KS l D cI cS cM yX9_findSpreads.cls yX9_findSpreads.name cX9_findSpreads 4 none (k_rm 6 0 0) false pc d (k_jmp J i)) : KS l D cI cS cM yX9_findSpreads.cls yX9_findSpreads.name cX9_findSpreads 4 none (k_rm 6 0 0) false 179 0 (b_X9_findSpreadsC_179 F_X9_split J) :=
  s_push1 dX9_findSpreads_179 (by decide) (by decide) <|
  s_istore_n dX9_findSpreads_180 rfl (by decide) <|
  s_X9_findSpreadsC_181 h_X9_split hJ
noncomputable def b_X9_findSpreadsC_161 (F_X9_split : KF) (J : List KC) : KC := o_aload 0 <| o_get 9 21 <| o_iload 2 <| o_aload 0 <| o_get 9 24 <| o_iload 2 <| o_iaia <| o_iinc 2 1 <| k_jmp J 5
set_option maxRecDepth 100000 in
theorem s_X9_findSpreadsC_161 {l : Launch} {D : va_G} {cI cS cM : ClassId} {F_X9_split : KF} (h_X9_split : k_snd l D cI cS cM yX9_split cX9_split 10 none 5 4 F_X9_split) {J : List KC} (hJ : ∀ (i pc d : Nat), ([(17, 0), (27, 0), (70, 0), (96, 0), (106, 0), (154, 0), (181, 0)] : List (Nat × Nat))[i]? = some (pc, d) → KS l D cI cS cM yX9_findSpreads.cls yX9_findSpreads.name cX9_findSpreads 4 none (k_rm 6 0 0) false pc d (k_jmp J i)) : KS l D cI cS cM yX9_findSpreads.cls yX9_findSpreads.name cX9_findSpreads 4 none (k_rm 6 0 0) false 161 0 (b_X9_findSpreadsC_161 F_X9_split J) :=
  s_aload_n dX9_findSpreads_161 rfl <|
  s_get dX9_findSpreads_162 (ci := 9) (sl := 21) (Cn := RX9) (Tf := TX9) (N := 40) rfl (by decide) kiX9 kw_7_5 <|
  s_iload_n dX9_findSpreads_165 rfl <|
  s_aload_n dX9_findSpreads_166 rfl <|
  s_get dX9_findSpreads_167 (ci := 9) (sl := 24) (Cn := RX9) (Tf := TX9) (N := 40) rfl (by decide) kiX9 kw_7_7 <|
  s_iload_n dX9_findSpreads_170 rfl <|
  s_iaia dX9_findSpreads_171 dX9_findSpreads_172 <|
  s_iinc dX9_findSpreads_173 (by decide) (by decide) <|
  s_goto dX9_findSpreads_176 (by decide) (hJ 5 _ _ rfl)
noncomputable def b_X9_findSpreadsC_154 (F_X9_split : KF) (J : List KC) : KC := o_iload 2 <| o_push 512 <| o_c2 s_lt (b_X9_findSpreadsC_161 F_X9_split J) (b_X9_findSpreadsC_179 F_X9_split J)
set_option maxRecDepth 100000 in
theorem s_X9_findSpreadsC_154 {l : Launch} {D : va_G} {cI cS cM : ClassId} {F_X9_split : KF} (h_X9_split : k_snd l D cI cS cM yX9_split cX9_split 10 none 5 4 F_X9_split) {J : List KC} (hJ : ∀ (i pc d : Nat), ([(17, 0), (27, 0), (70, 0), (96, 0), (106, 0), (154, 0), (181, 0)] : List (Nat × Nat))[i]? = some (pc, d) → KS l D cI cS cM yX9_findSpreads.cls yX9_findSpreads.name cX9_findSpreads 4 none (k_rm 6 0 0) false pc d (k_jmp J i)) : KS l D cI cS cM yX9_findSpreads.cls yX9_findSpreads.name cX9_findSpreads 4 none (k_rm 6 0 0) false 154 0 (b_X9_findSpreadsC_154 F_X9_split J) :=
  s_iload_n dX9_findSpreads_154 rfl <|
  s_push3 dX9_findSpreads_155 (by decide) (by decide) <|
  s_icmp_ge dX9_findSpreads_158 (by decide) (s_X9_findSpreadsC_179 h_X9_split hJ) (s_X9_findSpreadsC_161 h_X9_split hJ)
noncomputable def b_X9_findSpreadsC_144 (F_X9_split : KF) (J : List KC) : KC := o_aload 0 <| o_aload 0 <| o_get 9 22 <| o_puti 9 19 <| o_push 0 <| o_istore 2 <| b_X9_findSpreadsC_154 F_X9_split J
set_option maxRecDepth 100000 in
theorem s_X9_findSpreadsC_144 {l : Launch} {D : va_G} {cI cS cM : ClassId} {F_X9_split : KF} (h_X9_split : k_snd l D cI cS cM yX9_split cX9_split 10 none 5 4 F_X9_split) {J : List KC} (hJ : ∀ (i pc d : Nat), ([(17, 0), (27, 0), (70, 0), (96, 0), (106, 0), (154, 0), (181, 0)] : List (Nat × Nat))[i]? = some (pc, d) → KS l D cI cS cM yX9_findSpreads.cls yX9_findSpreads.name cX9_findSpreads 4 none (k_rm 6 0 0) false pc d (k_jmp J i)) : KS l D cI cS cM yX9_findSpreads.cls yX9_findSpreads.name cX9_findSpreads 4 none (k_rm 6 0 0) false 144 0 (b_X9_findSpreadsC_144 F_X9_split J) :=
  s_aload_n dX9_findSpreads_144 rfl <|
  s_aload_n dX9_findSpreads_145 rfl <|
  s_get dX9_findSpreads_146 (ci := 9) (sl := 22) (Cn := RX9) (Tf := TX9) (N := 40) rfl (by decide) kiX9 kw_25_5 <|
  s_puti dX9_findSpreads_149 (ci := 9) (sl := 19) (Cn := RX9) (Tf := TX9) (N := 40) (tyf := tyX9) rfl (by decide) kiX9 tyX9_ok nmX9 kw_25_4 rfl rfl <|
  s_push1 dX9_findSpreads_152 (by decide) (by decide) <|
  s_istore_n dX9_findSpreads_153 rfl (by decide) <|
  s_X9_findSpreadsC_154 h_X9_split hJ
noncomputable def b_X9_findSpreadsC_138 (F_X9_split : KF) (J : List KC) : KC := o_iinc 2 1 <| k_jmp J 3
set_option maxRecDepth 100000 in
theorem s_X9_findSpreadsC_138 {l : Launch} {D : va_G} {cI cS cM : ClassId} {F_X9_split : KF} (h_X9_split : k_snd l D cI cS cM yX9_split cX9_split 10 none 5 4 F_X9_split) {J : List KC} (hJ : ∀ (i pc d : Nat), ([(17, 0), (27, 0), (70, 0), (96, 0), (106, 0), (154, 0), (181, 0)] : List (Nat × Nat))[i]? = some (pc, d) → KS l D cI cS cM yX9_findSpreads.cls yX9_findSpreads.name cX9_findSpreads 4 none (k_rm 6 0 0) false pc d (k_jmp J i)) : KS l D cI cS cM yX9_findSpreads.cls yX9_findSpreads.name cX9_findSpreads 4 none (k_rm 6 0 0) false 138 0 (b_X9_findSpreadsC_138 F_X9_split J) :=
  s_iinc dX9_findSpreads_138 (by decide) (by decide) <|
  s_goto dX9_findSpreads_141 (by decide) (hJ 3 _ _ rfl)
noncomputable def b_X9_findSpreadsC_125 (F_X9_split : KF) (J : List KC) : KC := o_aload 0 <| o_iload 2 <| o_iload 1 <| o_iload 3 <| o_cV0 4 9 F_X9_split <| o_iinc 3 1 <| k_jmp J 4
set_option maxRecDepth 100000 in
theorem s_X9_findSpreadsC_125 {l : Launch} {D : va_G} {cI cS cM : ClassId} {F_X9_split : KF} (h_X9_split : k_snd l D cI cS cM yX9_split cX9_split 10 none 5 4 F_X9_split) {J : List KC} (hJ : ∀ (i pc d : Nat), ([(17, 0), (27, 0), (70, 0), (96, 0), (106, 0), (154, 0), (181, 0)] : List (Nat × Nat))[i]? = some (pc, d) → KS l D cI cS cM yX9_findSpreads.cls yX9_findSpreads.name cX9_findSpreads 4 none (k_rm 6 0 0) false pc d (k_jmp J i)) : KS l D cI cS cM yX9_findSpreads.cls yX9_findSpreads.name cX9_findSpreads 4 none (k_rm 6 0 0) false 125 0 (b_X9_findSpreadsC_125 F_X9_split J) :=
  s_aload_n dX9_findSpreads_125 rfl <|
  s_iload_n dX9_findSpreads_126 rfl <|
  s_iload_n dX9_findSpreads_127 rfl <|
  s_iload_n dX9_findSpreads_128 rfl <|
  s_callV0 dX9_findSpreads_129 kw_25_6 kw_25_7 kw_25_8 (ci := 9) rfl ok_X9_split (by decide) (by decide) h_X9_split (by decide) <|
  s_iinc dX9_findSpreads_132 (by decide) (by decide) <|
  s_goto dX9_findSpreads_135 (by decide) (hJ 4 _ _ rfl)
noncomputable def b_X9_findSpreadsC_114 (F_X9_split : KF) (J : List KC) : KC := o_aload 0 <| o_get 9 22 <| o_aload 0 <| o_get 9 12 <| o_c2 s_lt (b_X9_findSpreadsC_125 F_X9_split J) (b_X9_findSpreadsC_138 F_X9_split J)
set_option maxRecDepth 100000 in
theorem s_X9_findSpreadsC_114 {l : Launch} {D : va_G} {cI cS cM : ClassId} {F_X9_split : KF} (h_X9_split : k_snd l D cI cS cM yX9_split cX9_split 10 none 5 4 F_X9_split) {J : List KC} (hJ : ∀ (i pc d : Nat), ([(17, 0), (27, 0), (70, 0), (96, 0), (106, 0), (154, 0), (181, 0)] : List (Nat × Nat))[i]? = some (pc, d) → KS l D cI cS cM yX9_findSpreads.cls yX9_findSpreads.name cX9_findSpreads 4 none (k_rm 6 0 0) false pc d (k_jmp J i)) : KS l D cI cS cM yX9_findSpreads.cls yX9_findSpreads.name cX9_findSpreads 4 none (k_rm 6 0 0) false 114 0 (b_X9_findSpreadsC_114 F_X9_split J) :=
  s_aload_n dX9_findSpreads_114 rfl <|
  s_get dX9_findSpreads_115 (ci := 9) (sl := 22) (Cn := RX9) (Tf := TX9) (N := 40) rfl (by decide) kiX9 kw_25_5 <|
  s_aload_n dX9_findSpreads_118 rfl <|
  s_get dX9_findSpreads_119 (ci := 9) (sl := 12) (Cn := RX9) (Tf := TX9) (N := 40) rfl (by decide) kiX9 kw_22_14 <|
  s_icmp_ge dX9_findSpreads_122 (by decide) (s_X9_findSpreadsC_138 h_X9_split hJ) (s_X9_findSpreadsC_125 h_X9_split hJ)
noncomputable def b_X9_findSpreadsC_106 (F_X9_split : KF) (J : List KC) : KC := o_iload 3 <| o_aload 0 <| o_get 9 16 <| o_c2 s_lt (b_X9_findSpreadsC_114 F_X9_split J) (b_X9_findSpreadsC_138 F_X9_split J)
set_option maxRecDepth 100000 in
theorem s_X9_findSpreadsC_106 {l : Launch} {D : va_G} {cI cS cM : ClassId} {F_X9_split : KF} (h_X9_split : k_snd l D cI cS cM yX9_split cX9_split 10 none 5 4 F_X9_split) {J : List KC} (hJ : ∀ (i pc d : Nat), ([(17, 0), (27, 0), (70, 0), (96, 0), (106, 0), (154, 0), (181, 0)] : List (Nat × Nat))[i]? = some (pc, d) → KS l D cI cS cM yX9_findSpreads.cls yX9_findSpreads.name cX9_findSpreads 4 none (k_rm 6 0 0) false pc d (k_jmp J i)) : KS l D cI cS cM yX9_findSpreads.cls yX9_findSpreads.name cX9_findSpreads 4 none (k_rm 6 0 0) false 106 0 (b_X9_findSpreadsC_106 F_X9_split J) :=
  s_iload_n dX9_findSpreads_106 rfl <|
  s_aload_n dX9_findSpreads_107 rfl <|
  s_get dX9_findSpreads_108 (ci := 9) (sl := 16) (Cn := RX9) (Tf := TX9) (N := 40) rfl (by decide) kiX9 kw_22_16 <|
  s_icmp_ge dX9_findSpreads_111 (by decide) (s_X9_findSpreadsC_138 h_X9_split hJ) (s_X9_findSpreadsC_114 h_X9_split hJ)
noncomputable def b_X9_findSpreadsC_104 (F_X9_split : KF) (J : List KC) : KC := o_push 0 <| o_istore 3 <| b_X9_findSpreadsC_106 F_X9_split J
set_option maxRecDepth 100000 in
theorem s_X9_findSpreadsC_104 {l : Launch} {D : va_G} {cI cS cM : ClassId} {F_X9_split : KF} (h_X9_split : k_snd l D cI cS cM yX9_split cX9_split 10 none 5 4 F_X9_split) {J : List KC} (hJ : ∀ (i pc d : Nat), ([(17, 0), (27, 0), (70, 0), (96, 0), (106, 0), (154, 0), (181, 0)] : List (Nat × Nat))[i]? = some (pc, d) → KS l D cI cS cM yX9_findSpreads.cls yX9_findSpreads.name cX9_findSpreads 4 none (k_rm 6 0 0) false pc d (k_jmp J i)) : KS l D cI cS cM yX9_findSpreads.cls yX9_findSpreads.name cX9_findSpreads 4 none (k_rm 6 0 0) false 104 0 (b_X9_findSpreadsC_104 F_X9_split J) :=
  s_push1 dX9_findSpreads_104 (by decide) (by decide) <|
  s_istore_n dX9_findSpreads_105 rfl (by decide) <|
  s_X9_findSpreadsC_106 h_X9_split hJ
noncomputable def b_X9_findSpreadsC_96 (F_X9_split : KF) (J : List KC) : KC := o_iload 2 <| o_aload 0 <| o_get 9 19 <| o_c2 s_lt (b_X9_findSpreadsC_104 F_X9_split J) (b_X9_findSpreadsC_144 F_X9_split J)
set_option maxRecDepth 100000 in
theorem s_X9_findSpreadsC_96 {l : Launch} {D : va_G} {cI cS cM : ClassId} {F_X9_split : KF} (h_X9_split : k_snd l D cI cS cM yX9_split cX9_split 10 none 5 4 F_X9_split) {J : List KC} (hJ : ∀ (i pc d : Nat), ([(17, 0), (27, 0), (70, 0), (96, 0), (106, 0), (154, 0), (181, 0)] : List (Nat × Nat))[i]? = some (pc, d) → KS l D cI cS cM yX9_findSpreads.cls yX9_findSpreads.name cX9_findSpreads 4 none (k_rm 6 0 0) false pc d (k_jmp J i)) : KS l D cI cS cM yX9_findSpreads.cls yX9_findSpreads.name cX9_findSpreads 4 none (k_rm 6 0 0) false 96 0 (b_X9_findSpreadsC_96 F_X9_split J) :=
  s_iload_n dX9_findSpreads_96 rfl <|
  s_aload_n dX9_findSpreads_97 rfl <|
  s_get dX9_findSpreads_98 (ci := 9) (sl := 19) (Cn := RX9) (Tf := TX9) (N := 40) rfl (by decide) kiX9 kw_25_4 <|
  s_icmp_ge dX9_findSpreads_101 (by decide) (s_X9_findSpreadsC_144 h_X9_split hJ) (s_X9_findSpreadsC_104 h_X9_split hJ)
noncomputable def b_X9_findSpreadsC_89 (F_X9_split : KF) (J : List KC) : KC := o_aload 0 <| o_push 0 <| o_puti 9 22 <| o_push 0 <| o_istore 2 <| b_X9_findSpreadsC_96 F_X9_split J
set_option maxRecDepth 100000 in
theorem s_X9_findSpreadsC_89 {l : Launch} {D : va_G} {cI cS cM : ClassId} {F_X9_split : KF} (h_X9_split : k_snd l D cI cS cM yX9_split cX9_split 10 none 5 4 F_X9_split) {J : List KC} (hJ : ∀ (i pc d : Nat), ([(17, 0), (27, 0), (70, 0), (96, 0), (106, 0), (154, 0), (181, 0)] : List (Nat × Nat))[i]? = some (pc, d) → KS l D cI cS cM yX9_findSpreads.cls yX9_findSpreads.name cX9_findSpreads 4 none (k_rm 6 0 0) false pc d (k_jmp J i)) : KS l D cI cS cM yX9_findSpreads.cls yX9_findSpreads.name cX9_findSpreads 4 none (k_rm 6 0 0) false 89 0 (b_X9_findSpreadsC_89 F_X9_split J) :=
  s_aload_n dX9_findSpreads_89 rfl <|
  s_push1 dX9_findSpreads_90 (by decide) (by decide) <|
  s_puti dX9_findSpreads_91 (ci := 9) (sl := 22) (Cn := RX9) (Tf := TX9) (N := 40) (tyf := tyX9) rfl (by decide) kiX9 tyX9_ok nmX9 kw_25_5 rfl rfl <|
  s_push1 dX9_findSpreads_94 (by decide) (by decide) <|
  s_istore_n dX9_findSpreads_95 rfl (by decide) <|
  s_X9_findSpreadsC_96 h_X9_split hJ
noncomputable def b_X9_findSpreadsC_78 (F_X9_split : KF) (J : List KC) : KC := o_aload 0 <| o_get 9 19 <| o_aload 0 <| o_get 9 12 <| o_c2 s_lt (b_X9_findSpreadsC_89 F_X9_split J) (b_X9_findSpreadsC_211 F_X9_split J)
set_option maxRecDepth 100000 in
theorem s_X9_findSpreadsC_78 {l : Launch} {D : va_G} {cI cS cM : ClassId} {F_X9_split : KF} (h_X9_split : k_snd l D cI cS cM yX9_split cX9_split 10 none 5 4 F_X9_split) {J : List KC} (hJ : ∀ (i pc d : Nat), ([(17, 0), (27, 0), (70, 0), (96, 0), (106, 0), (154, 0), (181, 0)] : List (Nat × Nat))[i]? = some (pc, d) → KS l D cI cS cM yX9_findSpreads.cls yX9_findSpreads.name cX9_findSpreads 4 none (k_rm 6 0 0) false pc d (k_jmp J i)) : KS l D cI cS cM yX9_findSpreads.cls yX9_findSpreads.name cX9_findSpreads 4 none (k_rm 6 0 0) false 78 0 (b_X9_findSpreadsC_78 F_X9_split J) :=
  s_aload_n dX9_findSpreads_78 rfl <|
  s_get dX9_findSpreads_79 (ci := 9) (sl := 19) (Cn := RX9) (Tf := TX9) (N := 40) rfl (by decide) kiX9 kw_25_4 <|
  s_aload_n dX9_findSpreads_82 rfl <|
  s_get dX9_findSpreads_83 (ci := 9) (sl := 12) (Cn := RX9) (Tf := TX9) (N := 40) rfl (by decide) kiX9 kw_22_14 <|
  s_icmp_ge dX9_findSpreads_86 (by decide) (s_X9_findSpreadsC_211 h_X9_split hJ) (s_X9_findSpreadsC_89 h_X9_split hJ)
noncomputable def b_X9_findSpreadsC_70 (F_X9_split : KF) (J : List KC) : KC := o_iload 1 <| o_aload 0 <| o_get 9 12 <| o_c2 s_lt (b_X9_findSpreadsC_78 F_X9_split J) (b_X9_findSpreadsC_211 F_X9_split J)
set_option maxRecDepth 100000 in
theorem s_X9_findSpreadsC_70 {l : Launch} {D : va_G} {cI cS cM : ClassId} {F_X9_split : KF} (h_X9_split : k_snd l D cI cS cM yX9_split cX9_split 10 none 5 4 F_X9_split) {J : List KC} (hJ : ∀ (i pc d : Nat), ([(17, 0), (27, 0), (70, 0), (96, 0), (106, 0), (154, 0), (181, 0)] : List (Nat × Nat))[i]? = some (pc, d) → KS l D cI cS cM yX9_findSpreads.cls yX9_findSpreads.name cX9_findSpreads 4 none (k_rm 6 0 0) false pc d (k_jmp J i)) : KS l D cI cS cM yX9_findSpreads.cls yX9_findSpreads.name cX9_findSpreads 4 none (k_rm 6 0 0) false 70 0 (b_X9_findSpreadsC_70 F_X9_split J) :=
  s_iload_n dX9_findSpreads_70 rfl <|
  s_aload_n dX9_findSpreads_71 rfl <|
  s_get dX9_findSpreads_72 (ci := 9) (sl := 12) (Cn := RX9) (Tf := TX9) (N := 40) rfl (by decide) kiX9 kw_22_14 <|
  s_icmp_ge dX9_findSpreads_75 (by decide) (s_X9_findSpreadsC_211 h_X9_split hJ) (s_X9_findSpreadsC_78 h_X9_split hJ)
noncomputable def b_X9_findSpreadsC_68 (F_X9_split : KF) (J : List KC) : KC := o_push 1 <| o_istore 1 <| b_X9_findSpreadsC_70 F_X9_split J
set_option maxRecDepth 100000 in
theorem s_X9_findSpreadsC_68 {l : Launch} {D : va_G} {cI cS cM : ClassId} {F_X9_split : KF} (h_X9_split : k_snd l D cI cS cM yX9_split cX9_split 10 none 5 4 F_X9_split) {J : List KC} (hJ : ∀ (i pc d : Nat), ([(17, 0), (27, 0), (70, 0), (96, 0), (106, 0), (154, 0), (181, 0)] : List (Nat × Nat))[i]? = some (pc, d) → KS l D cI cS cM yX9_findSpreads.cls yX9_findSpreads.name cX9_findSpreads 4 none (k_rm 6 0 0) false pc d (k_jmp J i)) : KS l D cI cS cM yX9_findSpreads.cls yX9_findSpreads.name cX9_findSpreads 4 none (k_rm 6 0 0) false 68 0 (b_X9_findSpreadsC_68 F_X9_split J) :=
  s_push1 dX9_findSpreads_68 (by decide) (by decide) <|
  s_istore_n dX9_findSpreads_69 rfl (by decide) <|
  s_X9_findSpreadsC_70 h_X9_split hJ
noncomputable def b_X9_findSpreadsC_62 (F_X9_split : KF) (J : List KC) : KC := o_iinc 1 1 <| k_jmp J 0
set_option maxRecDepth 100000 in
theorem s_X9_findSpreadsC_62 {l : Launch} {D : va_G} {cI cS cM : ClassId} {F_X9_split : KF} (h_X9_split : k_snd l D cI cS cM yX9_split cX9_split 10 none 5 4 F_X9_split) {J : List KC} (hJ : ∀ (i pc d : Nat), ([(17, 0), (27, 0), (70, 0), (96, 0), (106, 0), (154, 0), (181, 0)] : List (Nat × Nat))[i]? = some (pc, d) → KS l D cI cS cM yX9_findSpreads.cls yX9_findSpreads.name cX9_findSpreads 4 none (k_rm 6 0 0) false pc d (k_jmp J i)) : KS l D cI cS cM yX9_findSpreads.cls yX9_findSpreads.name cX9_findSpreads 4 none (k_rm 6 0 0) false 62 0 (b_X9_findSpreadsC_62 F_X9_split J) :=
  s_iinc dX9_findSpreads_62 (by decide) (by decide) <|
  s_goto dX9_findSpreads_65 (by decide) (hJ 0 _ _ rfl)
noncomputable def b_X9_findSpreadsC_55 (F_X9_split : KF) (J : List KC) : KC := o_iast <| o_iinc 2 1 <| k_jmp J 1
set_option maxRecDepth 100000 in
theorem s_X9_findSpreadsC_55 {l : Launch} {D : va_G} {cI cS cM : ClassId} {F_X9_split : KF} (h_X9_split : k_snd l D cI cS cM yX9_split cX9_split 10 none 5 4 F_X9_split) {J : List KC} (hJ : ∀ (i pc d : Nat), ([(17, 0), (27, 0), (70, 0), (96, 0), (106, 0), (154, 0), (181, 0)] : List (Nat × Nat))[i]? = some (pc, d) → KS l D cI cS cM yX9_findSpreads.cls yX9_findSpreads.name cX9_findSpreads 4 none (k_rm 6 0 0) false pc d (k_jmp J i)) : KS l D cI cS cM yX9_findSpreads.cls yX9_findSpreads.name cX9_findSpreads 4 none (k_rm 6 0 0) false 55 3 (b_X9_findSpreadsC_55 F_X9_split J) :=
  s_iast dX9_findSpreads_55 <|
  s_iinc dX9_findSpreads_56 (by decide) (by decide) <|
  s_goto dX9_findSpreads_59 (by decide) (hJ 1 _ _ rfl)
noncomputable def b_X9_findSpreadsC_54 (F_X9_split : KF) (J : List KC) : KC := o_push 0 <| b_X9_findSpreadsC_55 F_X9_split J
set_option maxRecDepth 100000 in
theorem s_X9_findSpreadsC_54 {l : Launch} {D : va_G} {cI cS cM : ClassId} {F_X9_split : KF} (h_X9_split : k_snd l D cI cS cM yX9_split cX9_split 10 none 5 4 F_X9_split) {J : List KC} (hJ : ∀ (i pc d : Nat), ([(17, 0), (27, 0), (70, 0), (96, 0), (106, 0), (154, 0), (181, 0)] : List (Nat × Nat))[i]? = some (pc, d) → KS l D cI cS cM yX9_findSpreads.cls yX9_findSpreads.name cX9_findSpreads 4 none (k_rm 6 0 0) false pc d (k_jmp J i)) : KS l D cI cS cM yX9_findSpreads.cls yX9_findSpreads.name cX9_findSpreads 4 none (k_rm 6 0 0) false 54 2 (b_X9_findSpreadsC_54 F_X9_split J) :=
  s_push1 dX9_findSpreads_54 (by decide) (by decide) <|
  s_X9_findSpreadsC_55 h_X9_split hJ
noncomputable def b_X9_findSpreadsC_50 (F_X9_split : KF) (J : List KC) : KC := o_push 1 <| b_X9_findSpreadsC_55 F_X9_split J
set_option maxRecDepth 100000 in
theorem s_X9_findSpreadsC_50 {l : Launch} {D : va_G} {cI cS cM : ClassId} {F_X9_split : KF} (h_X9_split : k_snd l D cI cS cM yX9_split cX9_split 10 none 5 4 F_X9_split) {J : List KC} (hJ : ∀ (i pc d : Nat), ([(17, 0), (27, 0), (70, 0), (96, 0), (106, 0), (154, 0), (181, 0)] : List (Nat × Nat))[i]? = some (pc, d) → KS l D cI cS cM yX9_findSpreads.cls yX9_findSpreads.name cX9_findSpreads 4 none (k_rm 6 0 0) false pc d (k_jmp J i)) : KS l D cI cS cM yX9_findSpreads.cls yX9_findSpreads.name cX9_findSpreads 4 none (k_rm 6 0 0) false 50 2 (b_X9_findSpreadsC_50 F_X9_split J) :=
  s_push1 dX9_findSpreads_50 (by decide) (by decide) <|
  s_goto dX9_findSpreads_51 (by decide) (s_X9_findSpreadsC_55 h_X9_split hJ)
noncomputable def b_X9_findSpreadsC_35 (F_X9_split : KF) (J : List KC) : KC := o_aload 0 <| o_get 9 21 <| o_push 8 <| o_iload 1 <| o_bin n_mul <| o_iload 2 <| o_bin n_add <| o_iload 1 <| o_iload 2 <| o_c2 Nat.beq (b_X9_findSpreadsC_50 F_X9_split J) (b_X9_findSpreadsC_54 F_X9_split J)
set_option maxRecDepth 100000 in
theorem s_X9_findSpreadsC_35 {l : Launch} {D : va_G} {cI cS cM : ClassId} {F_X9_split : KF} (h_X9_split : k_snd l D cI cS cM yX9_split cX9_split 10 none 5 4 F_X9_split) {J : List KC} (hJ : ∀ (i pc d : Nat), ([(17, 0), (27, 0), (70, 0), (96, 0), (106, 0), (154, 0), (181, 0)] : List (Nat × Nat))[i]? = some (pc, d) → KS l D cI cS cM yX9_findSpreads.cls yX9_findSpreads.name cX9_findSpreads 4 none (k_rm 6 0 0) false pc d (k_jmp J i)) : KS l D cI cS cM yX9_findSpreads.cls yX9_findSpreads.name cX9_findSpreads 4 none (k_rm 6 0 0) false 35 0 (b_X9_findSpreadsC_35 F_X9_split J) :=
  s_aload_n dX9_findSpreads_35 rfl <|
  s_get dX9_findSpreads_36 (ci := 9) (sl := 21) (Cn := RX9) (Tf := TX9) (N := 40) rfl (by decide) kiX9 kw_7_5 <|
  s_push2 dX9_findSpreads_39 (by decide) (by decide) <|
  s_iload_n dX9_findSpreads_41 rfl <|
  s_imul dX9_findSpreads_42 <|
  s_iload_n dX9_findSpreads_43 rfl <|
  s_iadd dX9_findSpreads_44 <|
  s_iload_n dX9_findSpreads_45 rfl <|
  s_iload_n dX9_findSpreads_46 rfl <|
  s_icmp_ne dX9_findSpreads_47 (by decide) (s_X9_findSpreadsC_54 h_X9_split hJ) (s_X9_findSpreadsC_50 h_X9_split hJ)
noncomputable def b_X9_findSpreadsC_27 (F_X9_split : KF) (J : List KC) : KC := o_iload 2 <| o_aload 0 <| o_get 9 12 <| o_c2 s_lt (b_X9_findSpreadsC_35 F_X9_split J) (b_X9_findSpreadsC_62 F_X9_split J)
set_option maxRecDepth 100000 in
theorem s_X9_findSpreadsC_27 {l : Launch} {D : va_G} {cI cS cM : ClassId} {F_X9_split : KF} (h_X9_split : k_snd l D cI cS cM yX9_split cX9_split 10 none 5 4 F_X9_split) {J : List KC} (hJ : ∀ (i pc d : Nat), ([(17, 0), (27, 0), (70, 0), (96, 0), (106, 0), (154, 0), (181, 0)] : List (Nat × Nat))[i]? = some (pc, d) → KS l D cI cS cM yX9_findSpreads.cls yX9_findSpreads.name cX9_findSpreads 4 none (k_rm 6 0 0) false pc d (k_jmp J i)) : KS l D cI cS cM yX9_findSpreads.cls yX9_findSpreads.name cX9_findSpreads 4 none (k_rm 6 0 0) false 27 0 (b_X9_findSpreadsC_27 F_X9_split J) :=
  s_iload_n dX9_findSpreads_27 rfl <|
  s_aload_n dX9_findSpreads_28 rfl <|
  s_get dX9_findSpreads_29 (ci := 9) (sl := 12) (Cn := RX9) (Tf := TX9) (N := 40) rfl (by decide) kiX9 kw_22_14 <|
  s_icmp_ge dX9_findSpreads_32 (by decide) (s_X9_findSpreadsC_62 h_X9_split hJ) (s_X9_findSpreadsC_35 h_X9_split hJ)
noncomputable def b_X9_findSpreadsC_25 (F_X9_split : KF) (J : List KC) : KC := o_push 0 <| o_istore 2 <| b_X9_findSpreadsC_27 F_X9_split J
set_option maxRecDepth 100000 in
theorem s_X9_findSpreadsC_25 {l : Launch} {D : va_G} {cI cS cM : ClassId} {F_X9_split : KF} (h_X9_split : k_snd l D cI cS cM yX9_split cX9_split 10 none 5 4 F_X9_split) {J : List KC} (hJ : ∀ (i pc d : Nat), ([(17, 0), (27, 0), (70, 0), (96, 0), (106, 0), (154, 0), (181, 0)] : List (Nat × Nat))[i]? = some (pc, d) → KS l D cI cS cM yX9_findSpreads.cls yX9_findSpreads.name cX9_findSpreads 4 none (k_rm 6 0 0) false pc d (k_jmp J i)) : KS l D cI cS cM yX9_findSpreads.cls yX9_findSpreads.name cX9_findSpreads 4 none (k_rm 6 0 0) false 25 0 (b_X9_findSpreadsC_25 F_X9_split J) :=
  s_push1 dX9_findSpreads_25 (by decide) (by decide) <|
  s_istore_n dX9_findSpreads_26 rfl (by decide) <|
  s_X9_findSpreadsC_27 h_X9_split hJ
noncomputable def b_X9_findSpreadsC_17 (F_X9_split : KF) (J : List KC) : KC := o_iload 1 <| o_aload 0 <| o_get 9 12 <| o_c2 s_lt (b_X9_findSpreadsC_25 F_X9_split J) (b_X9_findSpreadsC_68 F_X9_split J)
set_option maxRecDepth 100000 in
theorem s_X9_findSpreadsC_17 {l : Launch} {D : va_G} {cI cS cM : ClassId} {F_X9_split : KF} (h_X9_split : k_snd l D cI cS cM yX9_split cX9_split 10 none 5 4 F_X9_split) {J : List KC} (hJ : ∀ (i pc d : Nat), ([(17, 0), (27, 0), (70, 0), (96, 0), (106, 0), (154, 0), (181, 0)] : List (Nat × Nat))[i]? = some (pc, d) → KS l D cI cS cM yX9_findSpreads.cls yX9_findSpreads.name cX9_findSpreads 4 none (k_rm 6 0 0) false pc d (k_jmp J i)) : KS l D cI cS cM yX9_findSpreads.cls yX9_findSpreads.name cX9_findSpreads 4 none (k_rm 6 0 0) false 17 0 (b_X9_findSpreadsC_17 F_X9_split J) :=
  s_iload_n dX9_findSpreads_17 rfl <|
  s_aload_n dX9_findSpreads_18 rfl <|
  s_get dX9_findSpreads_19 (ci := 9) (sl := 12) (Cn := RX9) (Tf := TX9) (N := 40) rfl (by decide) kiX9 kw_22_14 <|
  s_icmp_ge dX9_findSpreads_22 (by decide) (s_X9_findSpreadsC_68 h_X9_split hJ) (s_X9_findSpreadsC_25 h_X9_split hJ)
noncomputable def b_X9_findSpreadsC_0 (F_X9_split : KF) (J : List KC) : KC := o_aload 0 <| o_push 1 <| o_puti 9 19 <| o_aload 0 <| o_get 9 20 <| o_push 0 <| o_aload 0 <| o_get 9 12 <| o_iast <| o_push 0 <| o_istore 1 <| b_X9_findSpreadsC_17 F_X9_split J
set_option maxRecDepth 100000 in
theorem s_X9_findSpreadsC_0 {l : Launch} {D : va_G} {cI cS cM : ClassId} {F_X9_split : KF} (h_X9_split : k_snd l D cI cS cM yX9_split cX9_split 10 none 5 4 F_X9_split) {J : List KC} (hJ : ∀ (i pc d : Nat), ([(17, 0), (27, 0), (70, 0), (96, 0), (106, 0), (154, 0), (181, 0)] : List (Nat × Nat))[i]? = some (pc, d) → KS l D cI cS cM yX9_findSpreads.cls yX9_findSpreads.name cX9_findSpreads 4 none (k_rm 6 0 0) false pc d (k_jmp J i)) : KS l D cI cS cM yX9_findSpreads.cls yX9_findSpreads.name cX9_findSpreads 4 none (k_rm 6 0 0) false 0 0 (b_X9_findSpreadsC_0 F_X9_split J) :=
  s_aload_n dX9_findSpreads_0 rfl <|
  s_push1 dX9_findSpreads_1 (by decide) (by decide) <|
  s_puti dX9_findSpreads_2 (ci := 9) (sl := 19) (Cn := RX9) (Tf := TX9) (N := 40) (tyf := tyX9) rfl (by decide) kiX9 tyX9_ok nmX9 kw_25_4 rfl rfl <|
  s_aload_n dX9_findSpreads_5 rfl <|
  s_get dX9_findSpreads_6 (ci := 9) (sl := 20) (Cn := RX9) (Tf := TX9) (N := 40) rfl (by decide) kiX9 kw_7_4 <|
  s_push1 dX9_findSpreads_9 (by decide) (by decide) <|
  s_aload_n dX9_findSpreads_10 rfl <|
  s_get dX9_findSpreads_11 (ci := 9) (sl := 12) (Cn := RX9) (Tf := TX9) (N := 40) rfl (by decide) kiX9 kw_22_14 <|
  s_iast dX9_findSpreads_14 <|
  s_push1 dX9_findSpreads_15 (by decide) (by decide) <|
  s_istore_n dX9_findSpreads_16 rfl (by decide) <|
  s_X9_findSpreadsC_17 h_X9_split hJ
noncomputable def j_X9_findSpreadsC (F_X9_split : KF) (J : List KC) : List KC := [b_X9_findSpreadsC_17 F_X9_split J, b_X9_findSpreadsC_27 F_X9_split J, b_X9_findSpreadsC_70 F_X9_split J, b_X9_findSpreadsC_96 F_X9_split J, b_X9_findSpreadsC_106 F_X9_split J, b_X9_findSpreadsC_154 F_X9_split J, b_X9_findSpreadsC_181 F_X9_split J]
noncomputable def m_X9_findSpreadsC (F_X9_split : KF) (n : Nat) : KF := k_fun [k_u, k_u, k_u] (b_X9_findSpreadsC_0 F_X9_split (k_loop (j_X9_findSpreadsC F_X9_split) n))
theorem r_X9_findSpreadsC {l : Launch} {D : va_G} {cI cS cM : ClassId} {F_X9_split : KF} (h_X9_split : k_snd l D cI cS cM yX9_split cX9_split 10 none 5 4 F_X9_split) (n : Nat) : k_snd l D cI cS cM yX9_findSpreads cX9_findSpreads 4 none 6 1 (m_X9_findSpreadsC F_X9_split n) :=
  k_method (by decide +kernel) (by simp) rfl (s_X9_findSpreadsC_0 h_X9_split (k_loops (hs := [(17, 0), (27, 0), (70, 0), (96, 0), (106, 0), (154, 0), (181, 0)]) (fun J hJ i pc d h => match i, h with | 0, h => by cases h; exact s_X9_findSpreadsC_17 h_X9_split hJ | 1, h => by cases h; exact s_X9_findSpreadsC_27 h_X9_split hJ | 2, h => by cases h; exact s_X9_findSpreadsC_70 h_X9_split hJ | 3, h => by cases h; exact s_X9_findSpreadsC_96 h_X9_split hJ | 4, h => by cases h; exact s_X9_findSpreadsC_106 h_X9_split hJ | 5, h => by cases h; exact s_X9_findSpreadsC_154 h_X9_split hJ | 6, h => by cases h; exact s_X9_findSpreadsC_181 h_X9_split hJ | _ + 7, h => by simp at h) n))
