noncomputable def b_J7_fill_53178_20 (J : List KC) : KC := o_ret
set_option maxRecDepth 100000 in
theorem s_J7_fill_53178_20 {l : Launch} {D : va_G} {cI cS cM : ClassId} {J : List KC} (hJ : ∀ (i pc d : Nat), ([(5, 0)] : List (Nat × Nat))[i]? = some (pc, d) → KS l D cI cS cM yJ7_fill_53178.cls yJ7_fill_53178.name cJ7_fill_53178 4 none (k_rm 1 0 0) false pc d (k_jmp J i)) : KS l D cI cS cM yJ7_fill_53178.cls yJ7_fill_53178.name cJ7_fill_53178 4 none (k_rm 1 0 0) false 20 0 (b_J7_fill_53178_20 J) :=
  s_return dJ7_fill_53178_20 rfl
noncomputable def b_J7_fill_53178_10 (J : List KC) : KC := o_aload 0 <| o_iload 2 <| o_iload 1 <| o_iast <| o_iinc 2 1 <| k_jmp J 0
set_option maxRecDepth 100000 in
theorem s_J7_fill_53178_10 {l : Launch} {D : va_G} {cI cS cM : ClassId} {J : List KC} (hJ : ∀ (i pc d : Nat), ([(5, 0)] : List (Nat × Nat))[i]? = some (pc, d) → KS l D cI cS cM yJ7_fill_53178.cls yJ7_fill_53178.name cJ7_fill_53178 4 none (k_rm 1 0 0) false pc d (k_jmp J i)) : KS l D cI cS cM yJ7_fill_53178.cls yJ7_fill_53178.name cJ7_fill_53178 4 none (k_rm 1 0 0) false 10 0 (b_J7_fill_53178_10 J) :=
  s_aload_n dJ7_fill_53178_10 rfl <|
  s_iload_n dJ7_fill_53178_11 rfl <|
  s_iload_n dJ7_fill_53178_12 rfl <|
  s_iast dJ7_fill_53178_13 <|
  s_iinc dJ7_fill_53178_14 (by decide) (by decide) <|
  s_goto dJ7_fill_53178_17 (by decide) (hJ 0 _ _ rfl)
noncomputable def b_J7_fill_53178_5 (J : List KC) : KC := o_iload 2 <| o_iload 3 <| o_c2 s_lt (b_J7_fill_53178_10 J) (b_J7_fill_53178_20 J)
set_option maxRecDepth 100000 in
theorem s_J7_fill_53178_5 {l : Launch} {D : va_G} {cI cS cM : ClassId} {J : List KC} (hJ : ∀ (i pc d : Nat), ([(5, 0)] : List (Nat × Nat))[i]? = some (pc, d) → KS l D cI cS cM yJ7_fill_53178.cls yJ7_fill_53178.name cJ7_fill_53178 4 none (k_rm 1 0 0) false pc d (k_jmp J i)) : KS l D cI cS cM yJ7_fill_53178.cls yJ7_fill_53178.name cJ7_fill_53178 4 none (k_rm 1 0 0) false 5 0 (b_J7_fill_53178_5 J) :=
  s_iload_n dJ7_fill_53178_5 rfl <|
  s_iload_n dJ7_fill_53178_6 rfl <|
  s_icmp_ge dJ7_fill_53178_7 (by decide) (s_J7_fill_53178_20 hJ) (s_J7_fill_53178_10 hJ)
noncomputable def b_J7_fill_53178_0 (J : List KC) : KC := o_push 0 <| o_istore 2 <| o_aload 0 <| o_alen <| o_istore 3 <| b_J7_fill_53178_5 J
set_option maxRecDepth 100000 in
theorem s_J7_fill_53178_0 {l : Launch} {D : va_G} {cI cS cM : ClassId} {J : List KC} (hJ : ∀ (i pc d : Nat), ([(5, 0)] : List (Nat × Nat))[i]? = some (pc, d) → KS l D cI cS cM yJ7_fill_53178.cls yJ7_fill_53178.name cJ7_fill_53178 4 none (k_rm 1 0 0) false pc d (k_jmp J i)) : KS l D cI cS cM yJ7_fill_53178.cls yJ7_fill_53178.name cJ7_fill_53178 4 none (k_rm 1 0 0) false 0 0 (b_J7_fill_53178_0 J) :=
  s_push1 dJ7_fill_53178_0 (by decide) (by decide) <|
  s_istore_n dJ7_fill_53178_1 rfl (by decide) <|
  s_aload_n dJ7_fill_53178_2 rfl <|
  s_alen dJ7_fill_53178_3 <|
  s_istore_n dJ7_fill_53178_4 rfl (by decide) <|
  s_J7_fill_53178_5 hJ
noncomputable def j_J7_fill_53178 (J : List KC) : List KC := [b_J7_fill_53178_5 J]
noncomputable def m_J7_fill_53178 (n : Nat) : KF := k_fun [k_u, k_u] (b_J7_fill_53178_0 (k_loop (j_J7_fill_53178) n))
theorem r_J7_fill_53178 {l : Launch} {D : va_G} {cI cS cM : ClassId} (n : Nat) : k_snd l D cI cS cM yJ7_fill_53178 cJ7_fill_53178 4 none 1 2 (m_J7_fill_53178 n) :=
  k_method (by decide +kernel) (by simp) rfl (s_J7_fill_53178_0 (k_loops (hs := [(5, 0)]) (fun J hJ i pc d h => match i, h with | 0, h => by cases h; exact s_J7_fill_53178_5 hJ | _ + 1, h => by simp at h) n))
noncomputable def b_J9_floorMod_7cf53_18 : KC := o_iload 2 <| o_iret
set_option maxRecDepth 100000 in
theorem s_J9_floorMod_7cf53_18 {l : Launch} {D : va_G} {cI cS cM : ClassId} : KS l D cI cS cM yJ9_floorMod_7cf53.cls yJ9_floorMod_7cf53.name cJ9_floorMod_7cf53 3 (some .int) (k_rm 1 0 0) false 18 0 (b_J9_floorMod_7cf53_18) :=
  s_iload_n dJ9_floorMod_7cf53_18 rfl <|
  s_ireturn dJ9_floorMod_7cf53_19 rfl
noncomputable def b_J9_floorMod_7cf53_14 : KC := o_iload 2 <| o_iload 1 <| o_bin n_add <| o_iret
set_option maxRecDepth 100000 in
theorem s_J9_floorMod_7cf53_14 {l : Launch} {D : va_G} {cI cS cM : ClassId} : KS l D cI cS cM yJ9_floorMod_7cf53.cls yJ9_floorMod_7cf53.name cJ9_floorMod_7cf53 3 (some .int) (k_rm 1 0 0) false 14 0 (b_J9_floorMod_7cf53_14) :=
  s_iload_n dJ9_floorMod_7cf53_14 rfl <|
  s_iload_n dJ9_floorMod_7cf53_15 rfl <|
  s_iadd dJ9_floorMod_7cf53_16 <|
  s_ireturn dJ9_floorMod_7cf53_17 rfl
noncomputable def b_J9_floorMod_7cf53_10 : KC := o_iload 2 <| o_c1 g_eq (b_J9_floorMod_7cf53_18) (b_J9_floorMod_7cf53_14)
set_option maxRecDepth 100000 in
theorem s_J9_floorMod_7cf53_10 {l : Launch} {D : va_G} {cI cS cM : ClassId} : KS l D cI cS cM yJ9_floorMod_7cf53.cls yJ9_floorMod_7cf53.name cJ9_floorMod_7cf53 3 (some .int) (k_rm 1 0 0) false 10 0 (b_J9_floorMod_7cf53_10) :=
  s_iload_n dJ9_floorMod_7cf53_10 rfl <|
  s_if_eq dJ9_floorMod_7cf53_11 (by decide) (s_J9_floorMod_7cf53_18) (s_J9_floorMod_7cf53_14)
noncomputable def b_J9_floorMod_7cf53_0 : KC := o_iload 0 <| o_iload 1 <| o_div n_rem <| o_istore 2 <| o_iload 0 <| o_iload 1 <| o_bin n_xor <| o_c1 g_lt (b_J9_floorMod_7cf53_10) (b_J9_floorMod_7cf53_18)
set_option maxRecDepth 100000 in
theorem s_J9_floorMod_7cf53_0 {l : Launch} {D : va_G} {cI cS cM : ClassId} : KS l D cI cS cM yJ9_floorMod_7cf53.cls yJ9_floorMod_7cf53.name cJ9_floorMod_7cf53 3 (some .int) (k_rm 1 0 0) false 0 0 (b_J9_floorMod_7cf53_0) :=
  s_iload_n dJ9_floorMod_7cf53_0 rfl <|
  s_iload_n dJ9_floorMod_7cf53_1 rfl <|
  s_irem dJ9_floorMod_7cf53_2 <|
  s_istore_n dJ9_floorMod_7cf53_3 rfl (by decide) <|
  s_iload_n dJ9_floorMod_7cf53_4 rfl <|
  s_iload_n dJ9_floorMod_7cf53_5 rfl <|
  s_ixor dJ9_floorMod_7cf53_6 <|
  s_if_ge dJ9_floorMod_7cf53_7 (by decide) (s_J9_floorMod_7cf53_18) (s_J9_floorMod_7cf53_10)
noncomputable def m_J9_floorMod_7cf53 : KF := k_fun [k_u] (b_J9_floorMod_7cf53_0)
theorem r_J9_floorMod_7cf53 {l : Launch} {D : va_G} {cI cS cM : ClassId} : k_snd l D cI cS cM yJ9_floorMod_7cf53 cJ9_floorMod_7cf53 3 (some .int) 1 2 (m_J9_floorMod_7cf53) :=
  k_method (by decide +kernel) (by simp) rfl (s_J9_floorMod_7cf53_0)
