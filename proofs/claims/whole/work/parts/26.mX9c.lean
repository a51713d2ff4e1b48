noncomputable def b_X9_doOrder_58 (F_X9_doPoints F_X9_doMoves F_X9_doDrops : KF) : KC := o_iret
set_option maxRecDepth 100000 in
theorem s_X9_doOrder_58 {l : Launch} {D : va_G} {cI cS cM : ClassId} {F_X9_doPoints F_X9_doMoves F_X9_doDrops : KF} (h_X9_doPoints : k_snd l D cI cS cM yX9_doPoints cX9_doPoints 3 (some .int) 2 2 F_X9_doPoints) (h_X9_doMoves : k_snd l D cI cS cM yX9_doMoves cX9_doMoves 2 (some .int) 3 2 F_X9_doMoves) (h_X9_doDrops : k_snd l D cI cS cM yX9_doDrops cX9_doDrops 3 (some .int) 2 2 F_X9_doDrops) : KS l D cI cS cM yX9_doOrder.cls yX9_doOrder.name cX9_doOrder 2 (some .int) (k_rm 4 0 0) false 58 1 (b_X9_doOrder_58 F_X9_doPoints F_X9_doMoves F_X9_doDrops) :=
  s_ireturn dX9_doOrder_58 rfl
noncomputable def b_X9_doOrder_48 (F_X9_doPoints F_X9_doMoves F_X9_doDrops : KF) : KC := o_aload 0 <| o_aload 0 <| o_get 9 38 <| o_iload 1 <| o_iald <| o_cV1 2 9 F_X9_doDrops <| b_X9_doOrder_58 F_X9_doPoints F_X9_doMoves F_X9_doDrops
set_option maxRecDepth 100000 in
theorem s_X9_doOrder_48 {l : Launch} {D : va_G} {cI cS cM : ClassId} {F_X9_doPoints F_X9_doMoves F_X9_doDrops : KF} (h_X9_doPoints : k_snd l D cI cS cM yX9_doPoints cX9_doPoints 3 (some .int) 2 2 F_X9_doPoints) (h_X9_doMoves : k_snd l D cI cS cM yX9_doMoves cX9_doMoves 2 (some .int) 3 2 F_X9_doMoves) (h_X9_doDrops : k_snd l D cI cS cM yX9_doDrops cX9_doDrops 3 (some .int) 2 2 F_X9_doDrops) : KS l D cI cS cM yX9_doOrder.cls yX9_doOrder.name cX9_doOrder 2 (some .int) (k_rm 4 0 0) false 48 0 (b_X9_doOrder_48 F_X9_doPoints F_X9_doMoves F_X9_doDrops) :=
  s_aload_n dX9_doOrder_48 rfl <|
  s_aload_n dX9_doOrder_49 rfl <|
  s_get dX9_doOrder_50 (ci := 9) (sl := 38) (Cn := RX9) (Tf := TX9) (N := 40) rfl (by decide) kiX9 kw_7_16 <|
  s_iload_n dX9_doOrder_53 rfl <|
  s_iald dX9_doOrder_54 <|
  s_callV1 dX9_doOrder_55 kw_12_2 kw_12_3 kw_12_4 (ci := 9) rfl ok_X9_doDrops (by decide) (by decide) h_X9_doDrops (by decide) <|
  s_X9_doOrder_58 h_X9_doPoints h_X9_doMoves h_X9_doDrops
noncomputable def b_X9_doOrder_35 (F_X9_doPoints F_X9_doMoves F_X9_doDrops : KF) : KC := o_aload 0 <| o_aload 0 <| o_get 9 38 <| o_iload 1 <| o_iald <| o_cV1 2 9 F_X9_doMoves <| b_X9_doOrder_58 F_X9_doPoints F_X9_doMoves F_X9_doDrops
set_option maxRecDepth 100000 in
theorem s_X9_doOrder_35 {l : Launch} {D : va_G} {cI cS cM : ClassId} {F_X9_doPoints F_X9_doMoves F_X9_doDrops : KF} (h_X9_doPoints : k_snd l D cI cS cM yX9_doPoints cX9_doPoints 3 (some .int) 2 2 F_X9_doPoints) (h_X9_doMoves : k_snd l D cI cS cM yX9_doMoves cX9_doMoves 2 (some .int) 3 2 F_X9_doMoves) (h_X9_doDrops : k_snd l D cI cS cM yX9_doDrops cX9_doDrops 3 (some .int) 2 2 F_X9_doDrops) : KS l D cI cS cM yX9_doOrder.cls yX9_doOrder.name cX9_doOrder 2 (some .int) (k_rm 4 0 0) false 35 0 (b_X9_doOrder_35 F_X9_doPoints F_X9_doMoves F_X9_doDrops) :=
  s_aload_n dX9_doOrder_35 rfl <|
  s_aload_n dX9_doOrder_36 rfl <|
  s_get dX9_doOrder_37 (ci := 9) (sl := 38) (Cn := RX9) (Tf := TX9) (N := 40) rfl (by decide) kiX9 kw_7_16 <|
  s_iload_n dX9_doOrder_40 rfl <|
  s_iald dX9_doOrder_41 <|
  s_callV1 dX9_doOrder_42 kw_11_2 kw_11_3 kw_11_4 (ci := 9) rfl ok_X9_doMoves (by decide) (by decide) h_X9_doMoves (by decide) <|
  s_goto dX9_doOrder_45 (by decide) (s_X9_doOrder_58 h_X9_doPoints h_X9_doMoves h_X9_doDrops)
noncomputable def b_X9_doOrder_24 (F_X9_doPoints F_X9_doMoves F_X9_doDrops : KF) : KC := o_aload 0 <| o_get 9 37 <| o_iload 1 <| o_iald <| o_push 109 <| o_c2 Nat.beq (b_X9_doOrder_35 F_X9_doPoints F_X9_doMoves F_X9_doDrops) (b_X9_doOrder_48 F_X9_doPoints F_X9_doMoves F_X9_doDrops)
set_option maxRecDepth 100000 in
theorem s_X9_doOrder_24 {l : Launch} {D : va_G} {cI cS cM : ClassId} {F_X9_doPoints F_X9_doMoves F_X9_doDrops : KF} (h_X9_doPoints : k_snd l D cI cS cM yX9_doPoints cX9_doPoints 3 (some .int) 2 2 F_X9_doPoints) (h_X9_doMoves : k_snd l D cI cS cM yX9_doMoves cX9_doMoves 2 (some .int) 3 2 F_X9_doMoves) (h_X9_doDrops : k_snd l D cI cS cM yX9_doDrops cX9_doDrops 3 (some .int) 2 2 F_X9_doDrops) : KS l D cI cS cM yX9_doOrder.cls yX9_doOrder.name cX9_doOrder 2 (some .int) (k_rm 4 0 0) false 24 0 (b_X9_doOrder_24 F_X9_doPoints F_X9_doMoves F_X9_doDrops) :=
  s_aload_n dX9_doOrder_24 rfl <|
  s_get dX9_doOrder_25 (ci := 9) (sl := 37) (Cn := RX9) (Tf := TX9) (N := 40) rfl (by decide) kiX9 kw_7_15 <|
  s_iload_n dX9_doOrder_28 rfl <|
  s_iald dX9_doOrder_29 <|
  s_push2 dX9_doOrder_30 (by decide) (by decide) <|
  s_icmp_ne dX9_doOrder_32 (by decide) (s_X9_doOrder_48 h_X9_doPoints h_X9_doMoves h_X9_doDrops) (s_X9_doOrder_35 h_X9_doPoints h_X9_doMoves h_X9_doDrops)
noncomputable def b_X9_doOrder_11 (F_X9_doPoints F_X9_doMoves F_X9_doDrops : KF) : KC := o_aload 0 <| o_aload 0 <| o_get 9 38 <| o_iload 1 <| o_iald <| o_cV1 2 9 F_X9_doPoints <| b_X9_doOrder_58 F_X9_doPoints F_X9_doMoves F_X9_doDrops
set_option maxRecDepth 100000 in
theorem s_X9_doOrder_11 {l : Launch} {D : va_G} {cI cS cM : ClassId} {F_X9_doPoints F_X9_doMoves F_X9_doDrops : KF} (h_X9_doPoints : k_snd l D cI cS cM yX9_doPoints cX9_doPoints 3 (some .int) 2 2 F_X9_doPoints) (h_X9_doMoves : k_snd l D cI cS cM yX9_doMoves cX9_doMoves 2 (some .int) 3 2 F_X9_doMoves) (h_X9_doDrops : k_snd l D cI cS cM yX9_doDrops cX9_doDrops 3 (some .int) 2 2 F_X9_doDrops) : KS l D cI cS cM yX9_doOrder.cls yX9_doOrder.name cX9_doOrder 2 (some .int) (k_rm 4 0 0) false 11 0 (b_X9_doOrder_11 F_X9_doPoints F_X9_doMoves F_X9_doDrops) :=
  s_aload_n dX9_doOrder_11 rfl <|
  s_aload_n dX9_doOrder_12 rfl <|
  s_get dX9_doOrder_13 (ci := 9) (sl := 38) (Cn := RX9) (Tf := TX9) (N := 40) rfl (by decide) kiX9 kw_7_16 <|
  s_iload_n dX9_doOrder_16 rfl <|
  s_iald dX9_doOrder_17 <|
  s_callV1 dX9_doOrder_18 kw_9_13 kw_9_14 kw_9_15 (ci := 9) rfl ok_X9_doPoints (by decide) (by decide) h_X9_doPoints (by decide) <|
  s_goto dX9_doOrder_21 (by decide) (s_X9_doOrder_58 h_X9_doPoints h_X9_doMoves h_X9_doDrops)
noncomputable def b_X9_doOrder_0 (F_X9_doPoints F_X9_doMoves F_X9_doDrops : KF) : KC := o_aload 0 <| o_get 9 37 <| o_iload 1 <| o_iald <| o_push 110 <| o_c2 Nat.beq (b_X9_doOrder_11 F_X9_doPoints F_X9_doMoves F_X9_doDrops) (b_X9_doOrder_24 F_X9_doPoints F_X9_doMoves F_X9_doDrops)
set_option maxRecDepth 100000 in
theorem s_X9_doOrder_0 {l : Launch} {D : va_G} {cI cS cM : ClassId} {F_X9_doPoints F_X9_doMoves F_X9_doDrops : KF} (h_X9_doPoints : k_snd l D cI cS cM yX9_doPoints cX9_doPoints 3 (some .int) 2 2 F_X9_doPoints) (h_X9_doMoves : k_snd l D cI cS cM yX9_doMoves cX9_doMoves 2 (some .int) 3 2 F_X9_doMoves) (h_X9_doDrops : k_snd l D cI cS cM yX9_doDrops cX9_doDrops 3 (some .int) 2 2 F_X9_doDrops) : KS l D cI cS cM yX9_doOrder.cls yX9_doOrder.name cX9_doOrder 2 (some .int) (k_rm 4 0 0) false 0 0 (b_X9_doOrder_0 F_X9_doPoints F_X9_doMoves F_X9_doDrops) :=
  s_aload_n dX9_doOrder_0 rfl <|
  s_get dX9_doOrder_1 (ci := 9) (sl := 37) (Cn := RX9) (Tf := TX9) (N := 40) rfl (by decide) kiX9 kw_7_15 <|
  s_iload_n dX9_doOrder_4 rfl <|
  s_iald dX9_doOrder_5 <|
  s_push2 dX9_doOrder_6 (by decide) (by decide) <|
  s_icmp_ne dX9_doOrder_8 (by decide) (s_X9_doOrder_24 h_X9_doPoints h_X9_doMoves h_X9_doDrops) (s_X9_doOrder_11 h_X9_doPoints h_X9_doMoves h_X9_doDrops)
noncomputable def m_X9_doOrder (F_X9_doPoints F_X9_doMoves F_X9_doDrops : KF) : KF := k_fun [] (b_X9_doOrder_0 F_X9_doPoints F_X9_doMoves F_X9_doDrops)
theorem r_X9_doOrder {l : Launch} {D : va_G} {cI cS cM : ClassId} {F_X9_doPoints F_X9_doMoves F_X9_doDrops : KF} (h_X9_doPoints : k_snd l D cI cS cM yX9_doPoints cX9_doPoints 3 (some .int) 2 2 F_X9_doPoints) (h_X9_doMoves : k_snd l D cI cS cM yX9_doMoves cX9_doMoves 2 (some .int) 3 2 F_X9_doMoves) (h_X9_doDrops : k_snd l D cI cS cM yX9_doDrops cX9_doDrops 3 (some .int) 2 2 F_X9_doDrops) : k_snd l D cI cS cM yX9_doOrder cX9_doOrder 2 (some .int) 4 2 (m_X9_doOrder F_X9_doPoints F_X9_doMoves F_X9_doDrops) :=
  k_method (by decide +kernel) (by simp) rfl (s_X9_doOrder_0 h_X9_doPoints h_X9_doMoves h_X9_doDrops)
noncomputable def b_X9_findRows_177 (F_X9_by F_X9_degreeOf F_X9_isAhead F_X9_exchange : KF) (J : List KC) : KC := o_ret
set_option maxRecDepth 100000 in
theorem s_X9_findRows_177 {l : Launch} {D : va_G} {cI cS cM : ClassId} {F_X9_by F_X9_degreeOf F_X9_isAhead F_X9_exchange : KF} (h_X9_by : k_snd l D cI cS cM yX9_by cX9_by 4 (some .int) 2 3 F_X9_by) (h_X9_degreeOf : k_snd l D cI cS cM yX9_degreeOf cX9_degreeOf 4 (some .int) 3 2 F_X9_degreeOf) (h_X9_isAhead : k_snd l D cI cS cM yX9_isAhead cX9_isAhead 4 (some .boolean) 1 3 F_X9_isAhead) (h_X9_exchange : k_snd l D cI cS cM yX9_exchange cX9_exchange 6 none 1 2 F_X9_exchange) {J : List KC} (hJ : ∀ (i pc d : Nat), ([(2, 0), (12, 0), (74, 0), (135, 0), (145, 0)] : List (Nat × Nat))[i]? = some (pc, d) → KS l D cI cS cM yX9_findRows.cls yX9_findRows.name cX9_findRows 3 none (k_rm 4 0 0) false pc d (k_jmp J i)) : KS l D cI cS cM yX9_findRows.cls yX9_findRows.name cX9_findRows 3 none (k_rm 4 0 0) false 177 0 (b_X9_findRows_177 F_X9_by F_X9_degreeOf F_X9_isAhead F_X9_exchange J) :=
  s_return dX9_findRows_177 rfl
noncomputable def b_X9_findRows_171 (F_X9_by F_X9_degreeOf F_X9_isAhead F_X9_exchange : KF) (J : List KC) : KC := o_iinc 1 1 <| k_jmp J 3
set_option maxRecDepth 100000 in
theorem s_X9_findRows_171 {l : Launch} {D : va_G} {cI cS cM : ClassId} {F_X9_by F_X9_degreeOf F_X9_isAhead F_X9_exchange : KF} (h_X9_by : k_snd l D cI cS cM yX9_by cX9_by 4 (some .int) 2 3 F_X9_by) (h_X9_degreeOf : k_snd l D cI cS cM yX9_degreeOf cX9_degreeOf 4 (some .int) 3 2 F_X9_degreeOf) (h_X9_isAhead : k_snd l D cI cS cM yX9_isAhead cX9_isAhead 4 (some .boolean) 1 3 F_X9_isAhead) (h_X9_exchange : k_snd l D cI cS cM yX9_exchange cX9_exchange 6 none 1 2 F_X9_exchange) {J : List KC} (hJ : ∀ (i pc d : Nat), ([(2, 0), (12, 0), (74, 0), (135, 0), (145, 0)] : List (Nat × Nat))[i]? = some (pc, d) → KS l D cI cS cM yX9_findRows.cls yX9_findRows.name cX9_findRows 3 none (k_rm 4 0 0) false pc d (k_jmp J i)) : KS l D cI cS cM yX9_findRows.cls yX9_findRows.name cX9_findRows 3 none (k_rm 4 0 0) false 171 0 (b_X9_findRows_171 F_X9_by F_X9_degreeOf F_X9_isAhead F_X9_exchange J) :=
  s_iinc dX9_findRows_171 (by decide) (by decide) <|
  s_goto dX9_findRows_174 (by decide) (hJ 3 _ _ rfl)
noncomputable def b_X9_findRows_160 (F_X9_by F_X9_degreeOf F_X9_isAhead F_X9_exchange : KF) (J : List KC) : KC := o_aload 0 <| o_iload 2 <| o_cV0 2 9 F_X9_exchange <| o_iinc 2 4294967295 <| k_jmp J 4
set_option maxRecDepth 100000 in
theorem s_X9_findRows_160 {l : Launch} {D : va_G} {cI cS cM : ClassId} {F_X9_by F_X9_degreeOf F_X9_isAhead F_X9_exchange : KF} (h_X9_by : k_snd l D cI cS cM yX9_by cX9_by 4 (some .int) 2 3 F_X9_by) (h_X9_degreeOf : k_snd l D cI cS cM yX9_degreeOf cX9_degreeOf 4 (some .int) 3 2 F_X9_degreeOf) (h_X9_isAhead : k_snd l D cI cS cM yX9_isAhead cX9_isAhead 4 (some .boolean) 1 3 F_X9_isAhead) (h_X9_exchange : k_snd l D cI cS cM yX9_exchange cX9_exchange 6 none 1 2 F_X9_exchange) {J : List KC} (hJ : ∀ (i pc d : Nat), ([(2, 0), (12, 0), (74, 0), (135, 0), (145, 0)] : List (Nat × Nat))[i]? = some (pc, d) → KS l D cI cS cM yX9_findRows.cls yX9_findRows.name cX9_findRows 3 none (k_rm 4 0 0) false pc d (k_jmp J i)) : KS l D cI cS cM yX9_findRows.cls yX9_findRows.name cX9_findRows 3 none (k_rm 4 0 0) false 160 0 (b_X9_findRows_160 F_X9_by F_X9_degreeOf F_X9_isAhead F_X9_exchange J) :=
  s_aload_n dX9_findRows_160 rfl <|
  s_iload_n dX9_findRows_161 rfl <|
  s_callV0 dX9_findRows_162 kw_26_22 kw_26_23 kw_27_0 (ci := 9) rfl ok_X9_exchange (by decide) (by decide) h_X9_exchange (by decide) <|
  s_iinc dX9_findRows_165 (by decide) (by decide) <|
  s_goto dX9_findRows_168 (by decide) (hJ 4 _ _ rfl)
noncomputable def b_X9_findRows_149 (F_X9_by F_X9_degreeOf F_X9_isAhead F_X9_exchange : KF) (J : List KC) : KC := o_aload 0 <| o_iload 2 <| o_iload 2 <| o_push 1 <| o_bin n_sub <| o_cV1 3 9 F_X9_isAhead <| o_c1 g_eq (b_X9_findRows_171 F_X9_by F_X9_degreeOf F_X9_isAhead F_X9_exchange J) (b_X9_findRows_160 F_X9_by F_X9_degreeOf F_X9_isAhead F_X9_exchange J)
set_option maxRecDepth 100000 in
theorem s_X9_findRows_149 {l : Launch} {D : va_G} {cI cS cM : ClassId} {F_X9_by F_X9_degreeOf F_X9_isAhead F_X9_exchange : KF} (h_X9_by : k_snd l D cI cS cM yX9_by cX9_by 4 (some .int) 2 3 F_X9_by) (h_X9_degreeOf : k_snd l D cI cS cM yX9_degreeOf cX9_degreeOf 4 (some .int) 3 2 F_X9_degreeOf) (h_X9_isAhead : k_snd l D cI cS cM yX9_isAhead cX9_isAhead 4 (some .boolean) 1 3 F_X9_isAhead) (h_X9_exchange : k_snd l D cI cS cM yX9_exchange cX9_exchange 6 none 1 2 F_X9_exchange) {J : List KC} (hJ : ∀ (i pc d : Nat), ([(2, 0), (12, 0), (74, 0), (135, 0), (145, 0)] : List (Nat × Nat))[i]? = some (pc, d) → KS l D cI cS cM yX9_findRows.cls yX9_findRows.name cX9_findRows 3 none (k_rm 4 0 0) false pc d (k_jmp J i)) : KS l D cI cS cM yX9_findRows.cls yX9_findRows.name cX9_findRows 3 none (k_rm 4 0 0) false 149 0 (b_X9_findRows_149 F_X9_by F_X9_degreeOf F_X9_isAhead F_X9_exchange J) :=
  s_aload_n dX9_findRows_149 rfl <|
  s_iload_n dX9_findRows_150 rfl <|
  s_iload_n dX9_findRows_151 rfl <|
  s_push1 dX9_findRows_152 (by decide) (by decide) <|
  s_isub dX9_findRows_153 <|
  s_callV1 dX9_findRows_154 kw_26_18 kw_26_19 kw_26_20 (ci := 9) rfl ok_X9_isAhead (by decide) (by decide) h_X9_isAhead (by decide) <|
  s_if_eq dX9_findRows_157 (by decide) (s_X9_findRows_171 h_X9_by h_X9_degreeOf h_X9_isAhead h_X9_exchange hJ) (s_X9_findRows_160 h_X9_by h_X9_degreeOf h_X9_isAhead h_X9_exchange hJ)
noncomputable def b_X9_findRows_145 (F_X9_by F_X9_degreeOf F_X9_isAhead F_X9_exchange : KF) (J : List KC) : KC := o_iload 2 <| o_c1 g_gt (b_X9_findRows_149 F_X9_by F_X9_degreeOf F_X9_isAhead F_X9_exchange J) (b_X9_findRows_171 F_X9_by F_X9_degreeOf F_X9_isAhead F_X9_exchange J)
set_option maxRecDepth 100000 in
theorem s_X9_findRows_145 {l : Launch} {D : va_G} {cI cS cM : ClassId} {F_X9_by F_X9_degreeOf F_X9_isAhead F_X9_exchange : KF} (h_X9_by : k_snd l D cI cS cM yX9_by cX9_by 4 (some .int) 2 3 F_X9_by) (h_X9_degreeOf : k_snd l D cI cS cM yX9_degreeOf cX9_degreeOf 4 (some .int) 3 2 F_X9_degreeOf) (h_X9_isAhead : k_snd l D cI cS cM yX9_isAhead cX9_isAhead 4 (some .boolean) 1 3 F_X9_isAhead) (h_X9_exchange : k_snd l D cI cS cM yX9_exchange cX9_exchange 6 none 1 2 F_X9_exchange) {J : List KC} (hJ : ∀ (i pc d : Nat), ([(2, 0), (12, 0), (74, 0), (135, 0), (145, 0)] : List (Nat × Nat))[i]? = some (pc, d) → KS l D cI cS cM yX9_findRows.cls yX9_findRows.name cX9_findRows 3 none (k_rm 4 0 0) false pc d (k_jmp J i)) : KS l D cI cS cM yX9_findRows.cls yX9_findRows.name cX9_findRows 3 none (k_rm 4 0 0) false 145 0 (b_X9_findRows_145 F_X9_by F_X9_degreeOf F_X9_isAhead F_X9_exchange J) :=
  s_iload_n dX9_findRows_145 rfl <|
  s_if_le dX9_findRows_146 (by decide) (s_X9_findRows_171 h_X9_by h_X9_degreeOf h_X9_isAhead h_X9_exchange hJ) (s_X9_findRows_149 h_X9_by h_X9_degreeOf h_X9_isAhead h_X9_exchange hJ)
noncomputable def b_X9_findRows_143 (F_X9_by F_X9_degreeOf F_X9_isAhead F_X9_exchange : KF) (J : List KC) : KC := o_iload 1 <| o_istore 2 <| b_X9_findRows_145 F_X9_by F_X9_degreeOf F_X9_isAhead F_X9_exchange J
set_option maxRecDepth 100000 in
theorem s_X9_findRows_143 {l : Launch} {D : va_G} {cI cS cM : ClassId} {F_X9_by F_X9_degreeOf F_X9_isAhead F_X9_exchange : KF} (h_X9_by : k_snd l D cI cS cM yX9_by cX9_by 4 (some .int) 2 3 F_X9_by) (h_X9_degreeOf : k_snd l D cI cS cM yX9_degreeOf cX9_degreeOf 4 (some .int) 3 2 F_X9_degreeOf) (h_X9_isAhead : k_snd l D cI cS cM yX9_isAhead cX9_isAhead 4 (some .boolean) 1 3 F_X9_isAhead) (h_X9_exchange : k_snd l D cI cS cM yX9_exchange cX9_exchange 6 none 1 2 F_X9_exchange) {J : List KC} (hJ : ∀ (i pc d : Nat), ([(2, 0), (12, 0), (74, 0), (135, 0), (145, 0)] : List (Nat × Nat))[i]? = some (pc, d) → KS l D cI cS cM yX9_findRows.cls yX9_findRows.name cX9_findRows 3 none (k_rm 4 0 0) false pc d (k_jmp J i)) : KS l D cI cS cM yX9_findRows.cls yX9_findRows.name cX9_findRows 3 none (k_rm 4 0 0) false 143 0 (b_X9_findRows_143 F_X9_by F_X9_degreeOf F_X9_isAhead F_X9_exchange J) :=
  s_iload_n dX9_findRows_143 rfl <|
  s_istore_n dX9_findRows_144 rfl (by decide) <|
  s_X9_findRows_145 h_X9_by h_X9_degreeOf h_X9_isAhead h_X9_exchange hJ
noncomputable def b_X9_findRows_135 (F_X9_by F_X9_degreeOf F_X9_isAhead F_X9_exchange : KF) (J : List KC) : KC := o_iload 1 <| o_aload 0 <| o_get 9 12 <| o_c2 s_lt (b_X9_findRows_143 F_X9_by F_X9_degreeOf F_X9_isAhead F_X9_exchange J) (b_X9_findRows_177 F_X9_by F_X9_degreeOf F_X9_isAhead F_X9_exchange J)
set_option maxRecDepth 100000 in
theorem s_X9_findRows_135 {l : Launch} {D : va_G} {cI cS cM : ClassId} {F_X9_by F_X9_degreeOf F_X9_isAhead F_X9_exchange : KF} (h_X9_by : k_snd l D cI cS cM yX9_by cX9_by 4 (some .int) 2 3 F_X9_by) (h_X9_degreeOf : k_snd l D cI cS cM yX9_degreeOf cX9_degreeOf 4 (some .int) 3 2 F_X9_degreeOf) (h_X9_isAhead : k_snd l D cI cS cM yX9_isAhead cX9_isAhead 4 (some .boolean) 1 3 F_X9_isAhead) (h_X9_exchange : k_snd l D cI cS cM yX9_exchange cX9_exchange 6 none 1 2 F_X9_exchange) {J : List KC} (hJ : ∀ (i pc d : Nat), ([(2, 0), (12, 0), (74, 0), (135, 0), (145, 0)] : List (Nat × Nat))[i]? = some (pc, d) → KS l D cI cS cM yX9_findRows.cls yX9_findRows.name cX9_findRows 3 none (k_rm 4 0 0) false pc d (k_jmp J i)) : KS l D cI cS cM yX9_findRows.cls yX9_findRows.name cX9_findRows 3 none (k_rm 4 0 0) false 135 0 (b_X9_findRows_135 F_X9_by F_X9_degreeOf F_X9_isAhead F_X9_exchange J) :=
  s_iload_n dX9_findRows_135 rfl <|
  s_aload_n dX9_findRows_136 rfl <|
  s_get dX9_findRows_137 (ci := 9) (sl := 12) (Cn := RX9) (Tf := TX9) (N := 40) rfl (by decide) kiX9 kw_22_14 <|
  s_icmp_ge dX9_findRows_140 (by decide) (s_X9_findRows_177 h_X9_by h_X9_degreeOf h_X9_isAhead h_X9_exchange hJ) (s_X9_findRows_143 h_X9_by h_X9_degreeOf h_X9_isAhead h_X9_exchange hJ)
noncomputable def b_X9_findRows_133 (F_X9_by F_X9_degreeOf F_X9_isAhead F_X9_exchange : KF) (J : List KC) : KC := o_push 1 <| o_istore 1 <| b_X9_findRows_135 F_X9_by F_X9_degreeOf F_X9_isAhead F_X9_exchange J
set_option maxRecDepth 100000 in
theorem s_X9_findRows_133 {l : Launch} {D : va_G} {cI cS cM : ClassId} {F_X9_by F_X9_degreeOf F_X9_isAhead F_X9_exchange : KF} (h_X9_by : k_snd l D cI cS cM yX9_by cX9_by 4 (some .int) 2 3 F_X9_by) (h_X9_degreeOf : k_snd l D cI cS cM yX9_degreeOf cX9_degreeOf 4 (some .int) 3 2 F_X9_degreeOf) (h_X9_isAhead : k_snd l D cI cS cM yX9_isAhead cX9_isAhead 4 (some .boolean) 1 3 F_X9_isAhead) (h_X9_exchange : k_snd l D cI cS cM yX9_exchange cX9_exchange 6 none 1 2 F_X9_exchange) {J : List KC} (hJ : ∀ (i pc d : Nat), ([(2, 0), (12, 0), (74, 0), (135, 0), (145, 0)] : List (Nat × Nat))[i]? = some (pc, d) → KS l D cI cS cM yX9_findRows.cls yX9_findRows.name cX9_findRows 3 none (k_rm 4 0 0) false pc d (k_jmp J i)) : KS l D cI cS cM yX9_findRows.cls yX9_findRows.name cX9_findRows 3 none (k_rm 4 0 0) false 133 0 (b_X9_findRows_133 F_X9_by F_X9_degreeOf F_X9_isAhead F_X9_exchange J) :=
  s_push1 dX9_findRows_133 (by decide) (by decide) <|
  s_istore_n dX9_findRows_134 rfl (by decide) <|
  s_X9_findRows_135 h_X9_by h_X9_degreeOf h_X9_isAhead h_X9_exchange hJ
noncomputable def b_X9_findRows_127 (F_X9_by F_X9_degreeOf F_X9_isAhead F_X9_exchange : KF) (J : List KC) : KC := o_iinc 1 1 <| k_jmp J 0
set_option maxRecDepth 100000 in
theorem s_X9_findRows_127 {l : Launch} {D : va_G} {cI cS cM : ClassId} {F_X9_by F_X9_degreeOf F_X9_isAhead F_X9_exchange : KF} (h_X9_by : k_snd l D cI cS cM yX9_by cX9_by 4 (some .int) 2 3 F_X9_by) (h_X9_degreeOf : k_snd l D cI cS cM yX9_degreeOf cX9_degreeOf 4 (some .int) 3 2 F_X9_degreeOf) (h_X9_isAhead : k_snd l D cI cS cM yX9_isAhead cX9_isAhead 4 (some .boolean) 1 3 F_X9_isAhead) (h_X9_exchange : k_snd l D cI cS cM yX9_exchange cX9_exchange 6 none 1 2 F_X9_exchange) {J : List KC} (hJ : ∀ (i pc d : Nat), ([(2, 0), (12, 0), (74, 0), (135, 0), (145, 0)] : List (Nat × Nat))[i]? = some (pc, d) → KS l D cI cS cM yX9_findRows.cls yX9_findRows.name cX9_findRows 3 none (k_rm 4 0 0) false pc d (k_jmp J i)) : KS l D cI cS cM yX9_findRows.cls yX9_findRows.name cX9_findRows 3 none (k_rm 4 0 0) false 127 0 (b_X9_findRows_127 F_X9_by F_X9_degreeOf F_X9_isAhead F_X9_exchange J) :=
  s_iinc dX9_findRows_127 (by decide) (by decide) <|
  s_goto dX9_findRows_130 (by decide) (hJ 0 _ _ rfl)
noncomputable def b_X9_findRows_82 (F_X9_by F_X9_degreeOf F_X9_isAhead F_X9_exchange : KF) (J : List KC) : KC := o_aload 0 <| o_get 9 29 <| o_push 8 <| o_iload 1 <| o_bin n_mul <| o_iload 2 <| o_bin n_add <| o_aload 0 <| o_aload 0 <| o_get 9 28 <| o_iload 1 <| o_iald <| o_aload 0 <| o_get 9 27 <| o_push 8 <| o_iload 1 <| o_bin n_mul <| o_iload 2 <| o_bin n_add <| o_iald <| o_bin n_mul <| o_aload 0 <| o_get 9 13 <| o_iload 2 <| o_iald <| o_cV1 3 9 F_X9_by <| o_iast <| o_iinc 2 1 <| k_jmp J 2
set_option maxRecDepth 100000 in
theorem s_X9_findRows_82 {l : Launch} {D : va_G} {cI cS cM : ClassId} {F_X9_by F_X9_degreeOf F_X9_isAhead F_X9_exchange : KF} (h_X9_by : k_snd l D cI cS cM yX9_by cX9_by 4 (some .int) 2 3 F_X9_by) (h_X9_degreeOf : k_snd l D cI cS cM yX9_degreeOf cX9_degreeOf 4 (some .int) 3 2 F_X9_degreeOf) (h_X9_isAhead : k_snd l D cI cS cM yX9_isAhead cX9_isAhead 4 (some .boolean) 1 3 F_X9_isAhead) (h_X9_exchange : k_snd l D cI cS cM yX9_exchange cX9_exchange 6 none 1 2 F_X9_exchange) {J : List KC} (hJ : ∀ (i pc d : Nat), ([(2, 0), (12, 0), (74, 0), (135, 0), (145, 0)] : List (Nat × Nat))[i]? = some (pc, d) → KS l D cI cS cM yX9_findRows.cls yX9_findRows.name cX9_findRows 3 none (k_rm 4 0 0) false pc d (k_jmp J i)) : KS l D cI cS cM yX9_findRows.cls yX9_findRows.name cX9_findRows 3 none (k_rm 4 0 0) false 82 0 (b_X9_findRows_82 F_X9_by F_X9_degreeOf F_X9_isAhead F_X9_exchange J) :=
  s_aload_n dX9_findRows_82 rfl <|
  s_get dX9_findRows_83 (ci := 9) (sl := 29) (Cn := RX9) (Tf := TX9) (N := 40) rfl (by decide) kiX9 kw_7_12 <|
  s_push2 dX9_findRows_86 (by decide) (by decide) <|
  s_iload_n dX9_findRows_88 rfl <|
  s_imul dX9_findRows_89 <|
  s_iload_n dX9_findRows_90 rfl <|
  s_iadd dX9_findRows_91 <|
  s_aload_n dX9_findRows_92 rfl <|
  s_aload_n dX9_findRows_93 rfl <|
  s_get dX9_findRows_94 (ci := 9) (sl := 28) (Cn := RX9) (Tf := TX9) (N := 40) rfl (by decide) kiX9 kw_7_11 <|
  s_iload_n dX9_findRows_97 rfl <|
  s_iald dX9_findRows_98 <|
  s_aload_n dX9_findRows_99 rfl <|
  s_get dX9_findRows_100 (ci := 9) (sl := 27) (Cn := RX9) (Tf := TX9) (N := 40) rfl (by decide) kiX9 kw_7_10 <|
  s_push2 dX9_findRows_103 (by decide) (by decide) <|
  s_iload_n dX9_findRows_105 rfl <|
  s_imul dX9_findRows_106 <|
  s_iload_n dX9_findRows_107 rfl <|
  s_iadd dX9_findRows_108 <|
  s_iald dX9_findRows_109 <|
  s_imul dX9_findRows_110 <|
  s_aload_n dX9_findRows_111 rfl <|
  s_get dX9_findRows_112 (ci := 9) (sl := 13) (Cn := RX9) (Tf := TX9) (N := 40) rfl (by decide) kiX9 kw_7_1 <|
  s_iload_n dX9_findRows_115 rfl <|
  s_iald dX9_findRows_116 <|
  s_callV1 dX9_findRows_117 kw_26_2 kw_26_3 kw_26_4 (ci := 9) rfl ok_X9_by (by decide) (by decide) h_X9_by (by decide) <|
  s_iast dX9_findRows_120 <|
  s_iinc dX9_findRows_121 (by decide) (by decide) <|
  s_goto dX9_findRows_124 (by decide) (hJ 2 _ _ rfl)
noncomputable def b_X9_findRows_74 (F_X9_by F_X9_degreeOf F_X9_isAhead F_X9_exchange : KF) (J : List KC) : KC := o_iload 2 <| o_aload 0 <| o_get 9 12 <| o_c2 s_lt (b_X9_findRows_82 F_X9_by F_X9_degreeOf F_X9_isAhead F_X9_exchange J) (b_X9_findRows_127 F_X9_by F_X9_degreeOf F_X9_isAhead F_X9_exchange J)
set_option maxRecDepth 100000 in
theorem s_X9_findRows_74 {l : Launch} {D : va_G} {cI cS cM : ClassId} {F_X9_by F_X9_degreeOf F_X9_isAhead F_X9_exchange : KF} (h_X9_by : k_snd l D cI cS cM yX9_by cX9_by 4 (some .int) 2 3 F_X9_by) (h_X9_degreeOf : k_snd l D cI cS cM yX9_degreeOf cX9_degreeOf 4 (some .int) 3 2 F_X9_degreeOf) (h_X9_isAhead : k_snd l D cI cS cM yX9_isAhead cX9_isAhead 4 (some .boolean) 1 3 F_X9_isAhead) (h_X9_exchange : k_snd l D cI cS cM yX9_exchange cX9_exchange 6 none 1 2 F_X9_exchange) {J : List KC} (hJ : ∀ (i pc d : Nat), ([(2, 0), (12, 0), (74, 0), (135, 0), (145, 0)] : List (Nat × Nat))[i]? = some (pc, d) → KS l D cI cS cM yX9_findRows.cls yX9_findRows.name cX9_findRows 3 none (k_rm 4 0 0) false pc d (k_jmp J i)) : KS l D cI cS cM yX9_findRows.cls yX9_findRows.name cX9_findRows 3 none (k_rm 4 0 0) false 74 0 (b_X9_findRows_74 F_X9_by F_X9_degreeOf F_X9_isAhead F_X9_exchange J) :=
  s_iload_n dX9_findRows_74 rfl <|
  s_aload_n dX9_findRows_75 rfl <|
  s_get dX9_findRows_76 (ci := 9) (sl := 12) (Cn := RX9) (Tf := TX9) (N := 40) rfl (by decide) kiX9 kw_22_14 <|
  s_icmp_ge dX9_findRows_79 (by decide) (s_X9_findRows_127 h_X9_by h_X9_degreeOf h_X9_isAhead h_X9_exchange hJ) (s_X9_findRows_82 h_X9_by h_X9_degreeOf h_X9_isAhead h_X9_exchange hJ)
noncomputable def b_X9_findRows_61 (F_X9_by F_X9_degreeOf F_X9_isAhead F_X9_exchange : KF) (J : List KC) : KC := o_aload 0 <| o_get 9 28 <| o_iload 1 <| o_aload 0 <| o_iload 1 <| o_cV1 2 9 F_X9_degreeOf <| o_iast <| o_push 0 <| o_istore 2 <| b_X9_findRows_74 F_X9_by F_X9_degreeOf F_X9_isAhead F_X9_exchange J
set_option maxRecDepth 100000 in
theorem s_X9_findRows_61 {l : Launch} {D : va_G} {cI cS cM : ClassId} {F_X9_by F_X9_degreeOf F_X9_isAhead F_X9_exchange : KF} (h_X9_by : k_snd l D cI cS cM yX9_by cX9_by 4 (some .int) 2 3 F_X9_by) (h_X9_degreeOf : k_snd l D cI cS cM yX9_degreeOf cX9_degreeOf 4 (some .int) 3 2 F_X9_degreeOf) (h_X9_isAhead : k_snd l D cI cS cM yX9_isAhead cX9_isAhead 4 (some .boolean) 1 3 F_X9_isAhead) (h_X9_exchange : k_snd l D cI cS cM yX9_exchange cX9_exchange 6 none 1 2 F_X9_exchange) {J : List KC} (hJ : ∀ (i pc d : Nat), ([(2, 0), (12, 0), (74, 0), (135, 0), (145, 0)] : List (Nat × Nat))[i]? = some (pc, d) → KS l D cI cS cM yX9_findRows.cls yX9_findRows.name cX9_findRows 3 none (k_rm 4 0 0) false pc d (k_jmp J i)) : KS l D cI cS cM yX9_findRows.cls yX9_findRows.name cX9_findRows 3 none (k_rm 4 0 0) false 61 0 (b_X9_findRows_61 F_X9_by F_X9_degreeOf F_X9_isAhead F_X9_exchange J) :=
  s_aload_n dX9_findRows_61 rfl <|
  s_get dX9_findRows_62 (ci := 9) (sl := 28) (Cn := RX9) (Tf := TX9) (N := 40) rfl (by decide) kiX9 kw_7_11 <|
  s_iload_n dX9_findRows_65 rfl <|
  s_aload_n dX9_findRows_66 rfl <|
  s_iload_n dX9_findRows_67 rfl <|
  s_callV1 dX9_findRows_68 kw_26_10 kw_26_11 kw_26_12 (ci := 9) rfl ok_X9_degreeOf (by decide) (by decide) h_X9_degreeOf (by decide) <|
  s_iast dX9_findRows_71 <|
  s_push1 dX9_findRows_72 (by decide) (by decide) <|
  s_istore_n dX9_findRows_73 rfl (by decide) <|
  s_X9_findRows_74 h_X9_by h_X9_degreeOf h_X9_isAhead h_X9_exchange hJ
noncomputable def b_X9_findRows_20 (F_X9_by F_X9_degreeOf F_X9_isAhead F_X9_exchange : KF) (J : List KC) : KC := o_aload 0 <| o_get 9 27 <| o_push 8 <| o_iload 1 <| o_bin n_mul <| o_iload 2 <| o_bin n_add <| o_aload 0 <| o_aload 0 <| o_get 9 21 <| o_push 64 <| o_iload 1 <| o_bin n_mul <| o_iload 2 <| o_bin n_add <| o_iald <| o_aload 0 <| o_get 9 21 <| o_push 64 <| o_iload 1 <| o_bin n_mul <| o_iald <| o_cV1 3 9 F_X9_by <| o_iast <| o_iinc 2 1 <| k_jmp J 1
set_option maxRecDepth 100000 in
theorem s_X9_findRows_20 {l : Launch} {D : va_G} {cI cS cM : ClassId} {F_X9_by F_X9_degreeOf F_X9_isAhead F_X9_exchange : KF} (h_X9_by : k_snd l D cI cS cM yX9_by cX9_by 4 (some .int) 2 3 F_X9_by) (h_X9_degreeOf : k_snd l D cI cS cM yX9_degreeOf cX9_degreeOf 4 (some .int) 3 2 F_X9_degreeOf) (h_X9_isAhead : k_snd l D cI cS cM yX9_isAhead cX9_isAhead 4 (some .boolean) 1 3 F_X9_isAhead) (h_X9_exchange : k_snd l D cI cS cM yX9_exchange cX9_exchange 6 none 1 2 F_X9_exchange) {J : List KC} (hJ : ∀ (i pc d : Nat), ([(2, 0), (12, 0), (74, 0), (135, 0), (145, 0)] : List (Nat × Nat))[i]? = some (pc, d) → KS l D cI cS cM yX9_findRows.cls yX9_findRows.name cX9_findRows 3 none (k_rm 4 0 0) false pc d (k_jmp J i)) : KS l D cI cS cM yX9_findRows.cls yX9_findRows.name cX9_findRows 3 none (k_rm 4 0 0) false 20 0 (b_X9_findRows_20 F_X9_by F_X9_degreeOf F_X9_isAhead F_X9_exchange J) :=
  s_aload_n dX9_findRows_20 rfl <|
  s_get dX9_findRows_21 (ci := 9) (sl := 27) (Cn := RX9) (Tf := TX9) (N := 40) rfl (by decide) kiX9 kw_7_10 <|
  s_push2 dX9_findRows_24 (by decide) (by decide) <|
  s_iload_n dX9_findRows_26 rfl <|
  s_imul dX9_findRows_27 <|
  s_iload_n dX9_findRows_28 rfl <|
  s_iadd dX9_findRows_29 <|
  s_aload_n dX9_findRows_30 rfl <|
  s_aload_n dX9_findRows_31 rfl <|
  s_get dX9_findRows_32 (ci := 9) (sl := 21) (Cn := RX9) (Tf := TX9) (N := 40) rfl (by decide) kiX9 kw_7_5 <|
  s_push2 dX9_findRows_35 (by decide) (by decide) <|
  s_iload_n dX9_findRows_37 rfl <|
  s_imul dX9_findRows_38 <|
  s_iload_n dX9_findRows_39 rfl <|
  s_iadd dX9_findRows_40 <|
  s_iald dX9_findRows_41 <|
  s_aload_n dX9_findRows_42 rfl <|
  s_get dX9_findRows_43 (ci := 9) (sl := 21) (Cn := RX9) (Tf := TX9) (N := 40) rfl (by decide) kiX9 kw_7_5 <|
  s_push2 dX9_findRows_46 (by decide) (by decide) <|
  s_iload_n dX9_findRows_48 rfl <|
  s_imul dX9_findRows_49 <|
  s_iald dX9_findRows_50 <|
  s_callV1 dX9_findRows_51 kw_26_2 kw_26_3 kw_26_4 (ci := 9) rfl ok_X9_by (by decide) (by decide) h_X9_by (by decide) <|
  s_iast dX9_findRows_54 <|
  s_iinc dX9_findRows_55 (by decide) (by decide) <|
  s_goto dX9_findRows_58 (by decide) (hJ 1 _ _ rfl)
noncomputable def b_X9_findRows_12 (F_X9_by F_X9_degreeOf F_X9_isAhead F_X9_exchange : KF) (J : List KC) : KC := o_iload 2 <| o_aload 0 <| o_get 9 12 <| o_c2 s_lt (b_X9_findRows_20 F_X9_by F_X9_degreeOf F_X9_isAhead F_X9_exchange J) (b_X9_findRows_61 F_X9_by F_X9_degreeOf F_X9_isAhead F_X9_exchange J)
set_option maxRecDepth 100000 in
theorem s_X9_findRows_12 {l : Launch} {D : va_G} {cI cS cM : ClassId} {F_X9_by F_X9_degreeOf F_X9_isAhead F_X9_exchange : KF} (h_X9_by : k_snd l D cI cS cM yX9_by cX9_by 4 (some .int) 2 3 F_X9_by) (h_X9_degreeOf : k_snd l D cI cS cM yX9_degreeOf cX9_degreeOf 4 (some .int) 3 2 F_X9_degreeOf) (h_X9_isAhead : k_snd l D cI cS cM yX9_isAhead cX9_isAhead 4 (some .boolean) 1 3 F_X9_isAhead) (h_X9_exchange : k_snd l D cI cS cM yX9_exchange cX9_exchange 6 none 1 2 F_X9_exchange) {J : List KC} (hJ : ∀ (i pc d : Nat), ([(2, 0), (12, 0), (74, 0), (135, 0), (145, 0)] : List (Nat × Nat))[i]? = some (pc, d) → KS l D cI cS cM yX9_findRows.cls yX9_findRows.name cX9_findRows 3 none (k_rm 4 0 0) false pc d (k_jmp J i)) : KS l D cI cS cM yX9_findRows.cls yX9_findRows.name cX9_findRows 3 none (k_rm 4 0 0) false 12 0 (b_X9_findRows_12 F_X9_by F_X9_degreeOf F_X9_isAhead F_X9_exchange J) :=
  s_iload_n dX9_findRows_12 rfl <|
  s_aload_n dX9_findRows_13 rfl <|
  s_get dX9_findRows_14 (ci := 9) (sl := 12) (Cn := RX9) (Tf := TX9) (N := 40) rfl (by decide) kiX9 kw_22_14 <|
  s_icmp_ge dX9_findRows_17 (by decide) (s_X9_findRows_61 h_X9_by h_X9_degreeOf h_X9_isAhead h_X9_exchange hJ) (s_X9_findRows_20 h_X9_by h_X9_degreeOf h_X9_isAhead h_X9_exchange hJ)
noncomputable def b_X9_findRows_10 (F_X9_by F_X9_degreeOf F_X9_isAhead F_X9_exchange : KF) (J : List KC) : KC := o_push 0 <| o_istore 2 <| b_X9_findRows_12 F_X9_by F_X9_degreeOf F_X9_isAhead F_X9_exchange J
set_option maxRecDepth 100000 in
theorem s_X9_findRows_10 {l : Launch} {D : va_G} {cI cS cM : ClassId} {F_X9_by F_X9_degreeOf F_X9_isAhead F_X9_exchange : KF} (h_X9_by : k_snd l D cI cS cM yX9_by cX9_by 4 (some .int) 2 3 F_X9_by) (h_X9_degreeOf : k_snd l D cI cS cM yX9_degreeOf cX9_degreeOf 4 (some .int) 3 2 F_X9_degreeOf) (h_X9_isAhead : k_snd l D cI cS cM yX9_isAhead cX9_isAhead 4 (some .boolean) 1 3 F_X9_isAhead) (h_X9_exchange : k_snd l D cI cS cM yX9_exchange cX9_exchange 6 none 1 2 F_X9_exchange) {J : List KC} (hJ : ∀ (i pc d : Nat), ([(2, 0), (12, 0), (74, 0), (135, 0), (145, 0)] : List (Nat × Nat))[i]? = some (pc, d) → KS l D cI cS cM yX9_findRows.cls yX9_findRows.name cX9_findRows 3 none (k_rm 4 0 0) false pc d (k_jmp J i)) : KS l D cI cS cM yX9_findRows.cls yX9_findRows.name cX9_findRows 3 none (k_rm 4 0 0) false 10 0 (b_X9_findRows_10 F_X9_by F_X9_degreeOf F_X9_isAhead F_X9_exchange J) :=
  s_push1 dX9_findRows_10 (by decide) (by decide) <|
  s_istore_n dX9_findRows_11 rfl (by decide) <|
  s_X9_findRows_12 h_X9_by h_X9_degreeOf h_X9_isAhead h_X9_exchange hJ
noncomputable def b_X9_findRows_2 (F_X9_by F_X9_degreeOf F_X9_isAhead F_X9_exchange : KF) (J : List KC) : KC := o_iload 1 <| o_aload 0 <| o_get 9 12 <| o_c2 s_lt (b_X9_findRows_10 F_X9_by F_X9_degreeOf F_X9_isAhead F_X9_exchange J) (b_X9_findRows_133 F_X9_by F_X9_degreeOf F_X9_isAhead F_X9_exchange J)
set_option maxRecDepth 100000 in
theorem s_X9_findRows_2 {l : Launch} {D : va_G} {cI cS cM : ClassId} {F_X9_by F_X9_degreeOf F_X9_isAhead F_X9_exchange : KF} (h_X9_by : k_snd l D cI cS cM yX9_by cX9_by 4 (some .int) 2 3 F_X9_by) (h_X9_degreeOf : k_snd l D cI cS cM yX9_degreeOf cX9_degreeOf 4 (some .int) 3 2 F_X9_degreeOf) (h_X9_isAhead : k_snd l D cI cS cM yX9_isAhead cX9_isAhead 4 (some .boolean) 1 3 F_X9_isAhead) (h_X9_exchange : k_snd l D cI cS cM yX9_exchange cX9_exchange 6 none 1 2 F_X9_exchange) {J : List KC} (hJ : ∀ (i pc d : Nat), ([(2, 0), (12, 0), (74, 0), (135, 0), (145, 0)] : List (Nat × Nat))[i]? = some (pc, d) → KS l D cI cS cM yX9_findRows.cls yX9_findRows.name cX9_findRows 3 none (k_rm 4 0 0) false pc d (k_jmp J i)) : KS l D cI cS cM yX9_findRows.cls yX9_findRows.name cX9_findRows 3 none (k_rm 4 0 0) false 2 0 (b_X9_findRows_2 F_X9_by F_X9_degreeOf F_X9_isAhead F_X9_exchange J) :=
  s_iload_n dX9_findRows_2 rfl <|
  s_aload_n dX9_findRows_3 rfl <|
  s_get dX9_findRows_4 (ci := 9) (sl := 12) (Cn := RX9) (Tf := TX9) (N := 40) rfl (by decide) kiX9 kw_22_14 <|
  s_icmp_ge dX9_findRows_7 (by decide) (s_X9_findRows_133 h_X9_by h_X9_degreeOf h_X9_isAhead h_X9_exchange hJ) (s_X9_findRows_10 h_X9_by h_X9_degreeOf h_X9_isAhead h_X9_exchange hJ)
noncomputable def b_X9_findRows_0 (F_X9_by F_X9_degreeOf F_X9_isAhead F_X9_exchange : KF) (J : List KC) : KC := o_push 0 <| o_istore 1 <| b_X9_findRows_2 F_X9_by F_X9_degreeOf F_X9_isAhead F_X9_exchange J
set_option maxRecDepth 100000 in
theorem s_X9_findRows_0 {l : Launch} {D : va_G} {cI cS cM : ClassId} {F_X9_by F_X9_degreeOf F_X9_isAhead F_X9_exchange : KF} (h_X9_by : k_snd l D cI cS cM yX9_by cX9_by 4 (some .int) 2 3 F_X9_by) (h_X9_degreeOf : k_snd l D cI cS cM yX9_degreeOf cX9_degreeOf 4 (some .int) 3 2 F_X9_degreeOf) (h_X9_isAhead : k_snd l D cI cS cM yX9_isAhead cX9_isAhead 4 (some .boolean) 1 3 F_X9_isAhead) (h_X9_exchange : k_snd l D cI cS cM yX9_exchange cX9_exchange 6 none 1 2 F_X9_exchange) {J : List KC} (hJ : ∀ (i pc d : Nat), ([(2, 0), (12, 0), (74, 0), (135, 0), (145, 0)] : List (Nat × Nat))[i]? = some (pc, d) → KS l D cI cS cM yX9_findRows.cls yX9_findRows.name cX9_findRows 3 none (k_rm 4 0 0) false pc d (k_jmp J i)) : KS l D cI cS cM yX9_findRows.cls yX9_findRows.name cX9_findRows 3 none (k_rm 4 0 0) false 0 0 (b_X9_findRows_0 F_X9_by F_X9_degreeOf F_X9_isAhead F_X9_exchange J) :=
  s_push1 dX9_findRows_0 (by decide) (by decide) <|
  s_istore_n dX9_findRows_1 rfl (by decide) <|
  s_X9_findRows_2 h_X9_by h_X9_degreeOf h_X9_isAhead h_X9_exchange hJ
noncomputable def j_X9_findRows (F_X9_by F_X9_degreeOf F_X9_isAhead F_X9_exchange : KF) (J : List KC) : List KC := [b_X9_findRows_2 F_X9_by F_X9_degreeOf F_X9_isAhead F_X9_exchange J, b_X9_findRows_12 F_X9_by F_X9_degreeOf F_X9_isAhead F_X9_exchange J, b_X9_findRows_74 F_X9_by F_X9_degreeOf F_X9_isAhead F_X9_exchange J, b_X9_findRows_135 F_X9_by F_X9_degreeOf F_X9_isAhead F_X9_exchange J, b_X9_findRows_145 F_X9_by F_X9_degreeOf F_X9_isAhead F_X9_exchange J]
noncomputable def m_X9_findRows (F_X9_by F_X9_degreeOf F_X9_isAhead F_X9_exchange : KF) (n : Nat) : KF := k_fun [k_u, k_u] (b_X9_findRows_0 F_X9_by F_X9_degreeOf F_X9_isAhead F_X9_exchange (k_loop (j_X9_findRows F_X9_by F_X9_degreeOf F_X9_isAhead F_X9_exchange) n))
theorem r_X9_findRows {l : Launch} {D : va_G} {cI cS cM : ClassId} {F_X9_by F_X9_degreeOf F_X9_isAhead F_X9_exchange : KF} (h_X9_by : k_snd l D cI cS cM yX9_by cX9_by 4 (some .int) 2 3 F_X9_by) (h_X9_degreeOf : k_snd l D cI cS cM yX9_degreeOf cX9_degreeOf 4 (some .int) 3 2 F_X9_degreeOf) (h_X9_isAhead : k_snd l D cI cS cM yX9_isAhead cX9_isAhead 4 (some .boolean) 1 3 F_X9_isAhead) (h_X9_exchange : k_snd l D cI cS cM yX9_exchange cX9_exchange 6 none 1 2 F_X9_exchange) (n : Nat) : k_snd l D cI cS cM yX9_findRows cX9_findRows 3 none 4 1 (m_X9_findRows F_X9_by F_X9_degreeOf F_X9_isAhead F_X9_exchange n) :=
  k_method (by decide +kernel) (by simp) rfl (s_X9_findRows_0 h_X9_by h_X9_degreeOf h_X9_isAhead h_X9_exchange (k_loops (hs := [(2, 0), (12, 0), (74, 0), (135, 0), (145, 0)]) (fun J hJ i pc d h => match i, h with | 0, h => by cases h; exact s_X9_findRows_2 h_X9_by h_X9_degreeOf h_X9_isAhead h_X9_exchange hJ | 1, h => by cases h; exact s_X9_findRows_12 h_X9_by h_X9_degreeOf h_X9_isAhead h_X9_exchange hJ | 2, h => by cases h; exact s_X9_findRows_74 h_X9_by h_X9_degreeOf h_X9_isAhead h_X9_exchange hJ | 3, h => by cases h; exact s_X9_findRows_135 h_X9_by h_X9_degreeOf h_X9_isAhead h_X9_exchange hJ | 4, h => by cases h; exact s_X9_findRows_145 h_X9_by h_X9_degreeOf h_X9_isAhead h_X9_exchange hJ | _ + 5, h => by simp at h) n))
noncomputable def b_X9_mirrorOf_73 (F_X9_ofSort F_X9_over F_X9_by : KF) (J : List KC) : KC := o_iret
set_option maxRecDepth 100000 in
theorem s_X9_mirrorOf_73 {l : Launch} {D : va_G} {cI cS cM : ClassId} {F_X9_ofSort F_X9_over F_X9_by : KF} (h_X9_ofSort : k_snd l D cI cS cM yX9_ofSort cX9_ofSort 3 (some .int) 3 3 F_X9_ofSort) (h_X9_over : k_snd l D cI cS cM yX9_over cX9_over 3 (some .int) 1 2 F_X9_over) (h_X9_by : k_snd l D cI cS cM yX9_by cX9_by 4 (some .int) 2 3 F_X9_by) {J : List KC} (hJ : ∀ (i pc d : Nat), ([(4, 0)] : List (Nat × Nat))[i]? = some (pc, d) → KS l D cI cS cM yX9_mirrorOf.cls yX9_mirrorOf.name cX9_mirrorOf 4 (some .int) (k_rm 4 0 0) false pc d (k_jmp J i)) : KS l D cI cS cM yX9_mirrorOf.cls yX9_mirrorOf.name cX9_mirrorOf 4 (some .int) (k_rm 4 0 0) false 73 1 (b_X9_mirrorOf_73 F_X9_ofSort F_X9_over F_X9_by J) :=
  s_ireturn dX9_mirrorOf_73 rfl
noncomputable def b_X9_mirrorOf_72 (F_X9_ofSort F_X9_over F_X9_by : KF) (J : List KC) : KC := o_iload 3 <| b_X9_mirrorOf_73 F_X9_ofSort F_X9_over F_X9_by J
set_option maxRecDepth 100000 in
theorem s_X9_mirrorOf_72 {l : Launch} {D : va_G} {cI cS cM : ClassId} {F_X9_ofSort F_X9_over F_X9_by : KF} (h_X9_ofSort : k_snd l D cI cS cM yX9_ofSort cX9_ofSort 3 (some .int) 3 3 F_X9_ofSort) (h_X9_over : k_snd l D cI cS cM yX9_over cX9_over 3 (some .int) 1 2 F_X9_over) (h_X9_by : k_snd l D cI cS cM yX9_by cX9_by 4 (some .int) 2 3 F_X9_by) {J : List KC} (hJ : ∀ (i pc d : Nat), ([(4, 0)] : List (Nat × Nat))[i]? = some (pc, d) → KS l D cI cS cM yX9_mirrorOf.cls yX9_mirrorOf.name cX9_mirrorOf 4 (some .int) (k_rm 4 0 0) false pc d (k_jmp J i)) : KS l D cI cS cM yX9_mirrorOf.cls yX9_mirrorOf.name cX9_mirrorOf 4 (some .int) (k_rm 4 0 0) false 72 0 (b_X9_mirrorOf_72 F_X9_ofSort F_X9_over F_X9_by J) :=
  s_iload_n dX9_mirrorOf_72 rfl <|
  s_X9_mirrorOf_73 h_X9_ofSort h_X9_over h_X9_by hJ
noncomputable def b_X9_mirrorOf_68 (F_X9_ofSort F_X9_over F_X9_by : KF) (J : List KC) : KC := o_push 4294967295 <| b_X9_mirrorOf_73 F_X9_ofSort F_X9_over F_X9_by J
set_option maxRecDepth 100000 in
theorem s_X9_mirrorOf_68 {l : Launch} {D : va_G} {cI cS cM : ClassId} {F_X9_ofSort F_X9_over F_X9_by : KF} (h_X9_ofSort : k_snd l D cI cS cM yX9_ofSort cX9_ofSort 3 (some .int) 3 3 F_X9_ofSort) (h_X9_over : k_snd l D cI cS cM yX9_over cX9_over 3 (some .int) 1 2 F_X9_over) (h_X9_by : k_snd l D cI cS cM yX9_by cX9_by 4 (some .int) 2 3 F_X9_by) {J : List KC} (hJ : ∀ (i pc d : Nat), ([(4, 0)] : List (Nat × Nat))[i]? = some (pc, d) → KS l D cI cS cM yX9_mirrorOf.cls yX9_mirrorOf.name cX9_mirrorOf 4 (some .int) (k_rm 4 0 0) false pc d (k_jmp J i)) : KS l D cI cS cM yX9_mirrorOf.cls yX9_mirrorOf.name cX9_mirrorOf 4 (some .int) (k_rm 4 0 0) false 68 0 (b_X9_mirrorOf_68 F_X9_ofSort F_X9_over F_X9_by J) :=
  s_push1 dX9_mirrorOf_68 (by decide) (by decide) <|
  s_goto dX9_mirrorOf_69 (by decide) (s_X9_mirrorOf_73 h_X9_ofSort h_X9_over h_X9_by hJ)
noncomputable def b_X9_mirrorOf_48 (F_X9_ofSort F_X9_over F_X9_by : KF) (J : List KC) : KC := o_aload 0 <| o_iload 2 <| o_aload 0 <| o_get 9 6 <| o_cV1 3 9 F_X9_by <| o_istore 3 <| o_iload 3 <| o_aload 0 <| o_get 9 16 <| o_push 1 <| o_bin n_sub <| o_c2 Nat.beq (b_X9_mirrorOf_68 F_X9_ofSort F_X9_over F_X9_by J) (b_X9_mirrorOf_72 F_X9_ofSort F_X9_over F_X9_by J)
set_option maxRecDepth 100000 in
theorem s_X9_mirrorOf_48 {l : Launch} {D : va_G} {cI cS cM : ClassId} {F_X9_ofSort F_X9_over F_X9_by : KF} (h_X9_ofSort : k_snd l D cI cS cM yX9_ofSort cX9_ofSort 3 (some .int) 3 3 F_X9_ofSort) (h_X9_over : k_snd l D cI cS cM yX9_over cX9_over 3 (some .int) 1 2 F_X9_over) (h_X9_by : k_snd l D cI cS cM yX9_by cX9_by 4 (some .int) 2 3 F_X9_by) {J : List KC} (hJ : ∀ (i pc d : Nat), ([(4, 0)] : List (Nat × Nat))[i]? = some (pc, d) → KS l D cI cS cM yX9_mirrorOf.cls yX9_mirrorOf.name cX9_mirrorOf 4 (some .int) (k_rm 4 0 0) false pc d (k_jmp J i)) : KS l D cI cS cM yX9_mirrorOf.cls yX9_mirrorOf.name cX9_mirrorOf 4 (some .int) (k_rm 4 0 0) false 48 0 (b_X9_mirrorOf_48 F_X9_ofSort F_X9_over F_X9_by J) :=
  s_aload_n dX9_mirrorOf_48 rfl <|
  s_iload_n dX9_mirrorOf_49 rfl <|
  s_aload_n dX9_mirrorOf_50 rfl <|
  s_get dX9_mirrorOf_51 (ci := 9) (sl := 6) (Cn := RX9) (Tf := TX9) (N := 40) rfl (by decide) kiX9 kw_22_13 <|
  s_callV1 dX9_mirrorOf_54 kw_26_2 kw_26_3 kw_26_4 (ci := 9) rfl ok_X9_by (by decide) (by decide) h_X9_by (by decide) <|
  s_istore_n dX9_mirrorOf_57 rfl (by decide) <|
  s_iload_n dX9_mirrorOf_58 rfl <|
  s_aload_n dX9_mirrorOf_59 rfl <|
  s_get dX9_mirrorOf_60 (ci := 9) (sl := 16) (Cn := RX9) (Tf := TX9) (N := 40) rfl (by decide) kiX9 kw_22_16 <|
  s_push1 dX9_mirrorOf_63 (by decide) (by decide) <|
  s_isub dX9_mirrorOf_64 <|
  s_icmp_ne dX9_mirrorOf_65 (by decide) (s_X9_mirrorOf_72 h_X9_ofSort h_X9_over h_X9_by hJ) (s_X9_mirrorOf_68 h_X9_ofSort h_X9_over h_X9_by hJ)
noncomputable def b_X9_mirrorOf_12 (F_X9_ofSort F_X9_over F_X9_by : KF) (J : List KC) : KC := o_aload 0 <| o_iload 2 <| o_aload 0 <| o_get 9 13 <| o_iload 3 <| o_iald <| o_aload 0 <| o_get 9 29 <| o_push 8 <| o_iload 1 <| o_bin n_mul <| o_aload 0 <| o_iload 3 <| o_push 4 <| o_cW1 3 9 F_X9_ofSort <| o_bin n_add <| o_iald <| o_bin n_mul <| o_bin n_add <| o_cV1 2 9 F_X9_over <| o_istore 2 <| o_iinc 3 1 <| k_jmp J 0
set_option maxRecDepth 100000 in
theorem s_X9_mirrorOf_12 {l : Launch} {D : va_G} {cI cS cM : ClassId} {F_X9_ofSort F_X9_over F_X9_by : KF} (h_X9_ofSort : k_snd l D cI cS cM yX9_ofSort cX9_ofSort 3 (some .int) 3 3 F_X9_ofSort) (h_X9_over : k_snd l D cI cS cM yX9_over cX9_over 3 (some .int) 1 2 F_X9_over) (h_X9_by : k_snd l D cI cS cM yX9_by cX9_by 4 (some .int) 2 3 F_X9_by) {J : List KC} (hJ : ∀ (i pc d : Nat), ([(4, 0)] : List (Nat × Nat))[i]? = some (pc, d) → KS l D cI cS cM yX9_mirrorOf.cls yX9_mirrorOf.name cX9_mirrorOf 4 (some .int) (k_rm 4 0 0) false pc d (k_jmp J i)) : KS l D cI cS cM yX9_mirrorOf.cls yX9_mirrorOf.name cX9_mirrorOf 4 (some .int) (k_rm 4 0 0) false 12 0 (b_X9_mirrorOf_12 F_X9_ofSort F_X9_over F_X9_by J) :=
  s_aload_n dX9_mirrorOf_12 rfl <|
  s_iload_n dX9_mirrorOf_13 rfl <|
  s_aload_n dX9_mirrorOf_14 rfl <|
  s_get dX9_mirrorOf_15 (ci := 9) (sl := 13) (Cn := RX9) (Tf := TX9) (N := 40) rfl (by decide) kiX9 kw_7_1 <|
  s_iload_n dX9_mirrorOf_18 rfl <|
  s_iald dX9_mirrorOf_19 <|
  s_aload_n dX9_mirrorOf_20 rfl <|
  s_get dX9_mirrorOf_21 (ci := 9) (sl := 29) (Cn := RX9) (Tf := TX9) (N := 40) rfl (by decide) kiX9 kw_7_12 <|
  s_push2 dX9_mirrorOf_24 (by decide) (by decide) <|
  s_iload_n dX9_mirrorOf_26 rfl <|
  s_imul dX9_mirrorOf_27 <|
  s_aload_n dX9_mirrorOf_28 rfl <|
  s_iload_n dX9_mirrorOf_29 rfl <|
  s_push1 dX9_mirrorOf_30 (by decide) (by decide) <|
  s_callW1 dX9_mirrorOf_31 kw_29_3 kw_29_4 kw_29_5 (ci := 9) rfl ok_X9_ofSort (by decide) (by decide) h_X9_ofSort (by decide) <|
  s_iadd dX9_mirrorOf_34 <|
  s_iald dX9_mirrorOf_35 <|
  s_imul dX9_mirrorOf_36 <|
  s_iadd dX9_mirrorOf_37 <|
  s_callV1 dX9_mirrorOf_38 kw_25_14 kw_25_15 kw_25_16 (ci := 9) rfl ok_X9_over (by decide) (by decide) h_X9_over (by decide) <|
  s_istore_n dX9_mirrorOf_41 rfl (by decide) <|
  s_iinc dX9_mirrorOf_42 (by decide) (by decide) <|
  s_goto dX9_mirrorOf_45 (by decide) (hJ 0 _ _ rfl)
noncomputable def b_X9_mirrorOf_4 (F_X9_ofSort F_X9_over F_X9_by : KF) (J : List KC) : KC := o_iload 3 <| o_aload 0 <| o_get 9 12 <| o_c2 s_lt (b_X9_mirrorOf_12 F_X9_ofSort F_X9_over F_X9_by J) (b_X9_mirrorOf_48 F_X9_ofSort F_X9_over F_X9_by J)
set_option maxRecDepth 100000 in
theorem s_X9_mirrorOf_4 {l : Launch} {D : va_G} {cI cS cM : ClassId} {F_X9_ofSort F_X9_over F_X9_by : KF} (h_X9_ofSort : k_snd l D cI cS cM yX9_ofSort cX9_ofSort 3 (some .int) 3 3 F_X9_ofSort) (h_X9_over : k_snd l D cI cS cM yX9_over cX9_over 3 (some .int) 1 2 F_X9_over) (h_X9_by : k_snd l D cI cS cM yX9_by cX9_by 4 (some .int) 2 3 F_X9_by) {J : List KC} (hJ : ∀ (i pc d : Nat), ([(4, 0)] : List (Nat × Nat))[i]? = some (pc, d) → KS l D cI cS cM yX9_mirrorOf.cls yX9_mirrorOf.name cX9_mirrorOf 4 (some .int) (k_rm 4 0 0) false pc d (k_jmp J i)) : KS l D cI cS cM yX9_mirrorOf.cls yX9_mirrorOf.name cX9_mirrorOf 4 (some .int) (k_rm 4 0 0) false 4 0 (b_X9_mirrorOf_4 F_X9_ofSort F_X9_over F_X9_by J) :=
  s_iload_n dX9_mirrorOf_4 rfl <|
  s_aload_n dX9_mirrorOf_5 rfl <|
  s_get dX9_mirrorOf_6 (ci := 9) (sl := 12) (Cn := RX9) (Tf := TX9) (N := 40) rfl (by decide) kiX9 kw_22_14 <|
  s_icmp_ge dX9_mirrorOf_9 (by decide) (s_X9_mirrorOf_48 h_X9_ofSort h_X9_over h_X9_by hJ) (s_X9_mirrorOf_12 h_X9_ofSort h_X9_over h_X9_by hJ)
noncomputable def b_X9_mirrorOf_0 (F_X9_ofSort F_X9_over F_X9_by : KF) (J : List KC) : KC := o_push 0 <| o_istore 2 <| o_push 0 <| o_istore 3 <| b_X9_mirrorOf_4 F_X9_ofSort F_X9_over F_X9_by J
set_option maxRecDepth 100000 in
theorem s_X9_mirrorOf_0 {l : Launch} {D : va_G} {cI cS cM : ClassId} {F_X9_ofSort F_X9_over F_X9_by : KF} (h_X9_ofSort : k_snd l D cI cS cM yX9_ofSort cX9_ofSort 3 (some .int) 3 3 F_X9_ofSort) (h_X9_over : k_snd l D cI cS cM yX9_over cX9_over 3 (some .int) 1 2 F_X9_over) (h_X9_by : k_snd l D cI cS cM yX9_by cX9_by 4 (some .int) 2 3 F_X9_by) {J : List KC} (hJ : ∀ (i pc d : Nat), ([(4, 0)] : List (Nat × Nat))[i]? = some (pc, d) → KS l D cI cS cM yX9_mirrorOf.cls yX9_mirrorOf.name cX9_mirrorOf 4 (some .int) (k_rm 4 0 0) false pc d (k_jmp J i)) : KS l D cI cS cM yX9_mirrorOf.cls yX9_mirrorOf.name cX9_mirrorOf 4 (some .int) (k_rm 4 0 0) false 0 0 (b_X9_mirrorOf_0 F_X9_ofSort F_X9_over F_X9_by J) :=
  s_push1 dX9_mirrorOf_0 (by decide) (by decide) <|
  s_istore_n dX9_mirrorOf_1 rfl (by decide) <|
  s_push1 dX9_mirrorOf_2 (by decide) (by decide) <|
  s_istore_n dX9_mirrorOf_3 rfl (by decide) <|
  s_X9_mirrorOf_4 h_X9_ofSort h_X9_over h_X9_by hJ
noncomputable def j_X9_mirrorOf (F_X9_ofSort F_X9_over F_X9_by : KF) (J : List KC) : List KC := [b_X9_mirrorOf_4 F_X9_ofSort F_X9_over F_X9_by J]
noncomputable def m_X9_mirrorOf (F_X9_ofSort F_X9_over F_X9_by : KF) (n : Nat) : KF := k_fun [k_u, k_u] (b_X9_mirrorOf_0 F_X9_ofSort F_X9_over F_X9_by (k_loop (j_X9_mirrorOf F_X9_ofSort F_X9_over F_X9_by) n))
theorem r_X9_mirrorOf {l : Launch} {D : va_G} {cI cS cM : ClassId} {F_X9_ofSort F_X9_over F_X9_by : KF} (h_X9_ofSort : k_snd l D cI cS cM yX9_ofSort cX9_ofSort 3 (some .int) 3 3 F_X9_ofSort) (h_X9_over : k_snd l D cI cS cM yX9_over cX9_over 3 (some .int) 1 2 F_X9_over) (h_X9_by : k_snd l D cI cS cM yX9_by cX9_by 4 (some .int) 2 3 F_X9_by) (n : Nat) : k_snd l D cI cS cM yX9_mirrorOf cX9_mirrorOf 4 (some .int) 4 2 (m_X9_mirrorOf F_X9_ofSort F_X9_over F_X9_by n) :=
  k_method (by decide +kernel) (by simp) rfl (s_X9_mirrorOf_0 h_X9_ofSort h_X9_over h_X9_by (k_loops (hs := [(4, 0)]) (fun J hJ i pc d h => match i, h with | 0, h => by cases h; exact s_X9_mirrorOf_4 h_X9_ofSort h_X9_over h_X9_by hJ | _ + 1, h => by simp at h) n))
noncomputable def b_X9_moves_0 (F_X9_hold F_X9_doMoves F_X9_ends : KF) : KC := o_aload 0 <| o_cV0 1 9 F_X9_hold <| o_aload 0 <| o_aload 0 <| o_iload 1 <| o_cV1 2 9 F_X9_doMoves <| o_cV1 2 9 F_X9_ends <| o_iret
set_option maxRecDepth 100000 in
theorem s_X9_moves_0 {l : Launch} {D : va_G} {cI cS cM : ClassId} {F_X9_hold F_X9_doMoves F_X9_ends : KF} (h_X9_hold : k_snd l D cI cS cM yX9_hold cX9_hold 2 none 1 1 F_X9_hold) (h_X9_doMoves : k_snd l D cI cS cM yX9_doMoves cX9_doMoves 2 (some .int) 3 2 F_X9_doMoves) (h_X9_ends : k_snd l D cI cS cM yX9_ends cX9_ends 2 (some .int) 2 2 F_X9_ends) : KS l D cI cS cM yX9_moves.cls yX9_moves.name cX9_moves 2 (some .int) (k_rm 4 0 0) false 0 0 (b_X9_moves_0 F_X9_hold F_X9_doMoves F_X9_ends) :=
  s_aload_n dX9_moves_0 rfl <|
  s_callV0 dX9_moves_1 kw_9_9 kw_9_10 kw_9_11 (ci := 9) rfl ok_X9_hold (by decide) (by decide) h_X9_hold (by decide) <|
  s_aload_n dX9_moves_4 rfl <|
  s_aload_n dX9_moves_5 rfl <|
  s_iload_n dX9_moves_6 rfl <|
  s_callV1 dX9_moves_7 kw_11_2 kw_11_3 kw_11_4 (ci := 9) rfl ok_X9_doMoves (by decide) (by decide) h_X9_doMoves (by decide) <|
  s_callV1 dX9_moves_10 kw_9_21 kw_9_22 kw_9_23 (ci := 9) rfl ok_X9_ends (by decide) (by decide) h_X9_ends (by decide) <|
  s_ireturn dX9_moves_13 rfl
noncomputable def m_X9_moves (F_X9_hold F_X9_doMoves F_X9_ends : KF) : KF := k_fun [] (b_X9_moves_0 F_X9_hold F_X9_doMoves F_X9_ends)
theorem r_X9_moves {l : Launch} {D : va_G} {cI cS cM : ClassId} {F_X9_hold F_X9_doMoves F_X9_ends : KF} (h_X9_hold : k_snd l D cI cS cM yX9_hold cX9_hold 2 none 1 1 F_X9_hold) (h_X9_doMoves : k_snd l D cI cS cM yX9_doMoves cX9_doMoves 2 (some .int) 3 2 F_X9_doMoves) (h_X9_ends : k_snd l D cI cS cM yX9_ends cX9_ends 2 (some .int) 2 2 F_X9_ends) : k_snd l D cI cS cM yX9_moves cX9_moves 2 (some .int) 4 2 (m_X9_moves F_X9_hold F_X9_doMoves F_X9_ends) :=
  k_method (by decide +kernel) (by simp) rfl (s_X9_moves_0 h_X9_hold h_X9_doMoves h_X9_ends)
noncomputable def b_X9_plain_89 (F_X9_leadBy : KF) (J : List KC) : KC := o_ret
set_option maxRecDepth 100000 in
theorem s_X9_plain_89 {l : Launch} {D : va_G} {cI cS cM : ClassId} {F_X9_leadBy : KF} (h_X9_leadBy : k_snd l D cI cS cM yX9_leadBy cX9_leadBy 9 none 3 5 F_X9_leadBy) {J : List KC} (hJ : ∀ (i pc d : Nat), ([(4, 0), (12, 0)] : List (Nat × Nat))[i]? = some (pc, d) → KS l D cI cS cM yX9_plain.cls yX9_plain.name cX9_plain 5 none (k_rm 4 0 0) false pc d (k_jmp J i)) : KS l D cI cS cM yX9_plain.cls yX9_plain.name cX9_plain 5 none (k_rm 4 0 0) false 89 0 (b_X9_plain_89 F_X9_leadBy J) :=
  s_return dX9_plain_89 rfl
noncomputable def b_X9_plain_83 (F_X9_leadBy : KF) (J : List KC) : KC := o_iinc 3 1 <| k_jmp J 0
set_option maxRecDepth 100000 in
theorem s_X9_plain_83 {l : Launch} {D : va_G} {cI cS cM : ClassId} {F_X9_leadBy : KF} (h_X9_leadBy : k_snd l D cI cS cM yX9_leadBy cX9_leadBy 9 none 3 5 F_X9_leadBy) {J : List KC} (hJ : ∀ (i pc d : Nat), ([(4, 0), (12, 0)] : List (Nat × Nat))[i]? = some (pc, d) → KS l D cI cS cM yX9_plain.cls yX9_plain.name cX9_plain 5 none (k_rm 4 0 0) false pc d (k_jmp J i)) : KS l D cI cS cM yX9_plain.cls yX9_plain.name cX9_plain 5 none (k_rm 4 0 0) false 83 0 (b_X9_plain_83 F_X9_leadBy J) :=
  s_iinc dX9_plain_83 (by decide) (by decide) <|
  s_goto dX9_plain_86 (by decide) (hJ 0 _ _ rfl)
noncomputable def b_X9_plain_71 (F_X9_leadBy : KF) (J : List KC) : KC := o_aload 0 <| o_iload 4 <| o_iload 2 <| o_iload 3 <| o_iload 1 <| o_cV0 5 9 F_X9_leadBy <| o_iinc 2 1 <| b_X9_plain_83 F_X9_leadBy J
set_option maxRecDepth 100000 in
theorem s_X9_plain_71 {l : Launch} {D : va_G} {cI cS cM : ClassId} {F_X9_leadBy : KF} (h_X9_leadBy : k_snd l D cI cS cM yX9_leadBy cX9_leadBy 9 none 3 5 F_X9_leadBy) {J : List KC} (hJ : ∀ (i pc d : Nat), ([(4, 0), (12, 0)] : List (Nat × Nat))[i]? = some (pc, d) → KS l D cI cS cM yX9_plain.cls yX9_plain.name cX9_plain 5 none (k_rm 4 0 0) false pc d (k_jmp J i)) : KS l D cI cS cM yX9_plain.cls yX9_plain.name cX9_plain 5 none (k_rm 4 0 0) false 71 0 (b_X9_plain_71 F_X9_leadBy J) :=
  s_aload_n dX9_plain_71 rfl <|
  s_iload dX9_plain_72 <|
  s_iload_n dX9_plain_74 rfl <|
  s_iload_n dX9_plain_75 rfl <|
  s_iload_n dX9_plain_76 rfl <|
  s_callV0 dX9_plain_77 kw_25_22 kw_25_23 kw_26_0 (ci := 9) rfl ok_X9_leadBy (by decide) (by decide) h_X9_leadBy (by decide) <|
  s_iinc dX9_plain_80 (by decide) (by decide) <|
  s_X9_plain_83 h_X9_leadBy hJ
noncomputable def b_X9_plain_61 (F_X9_leadBy : KF) (J : List KC) : KC := o_iast <| o_iload 4 <| o_aload 0 <| o_get 9 12 <| o_c2 s_lt (b_X9_plain_71 F_X9_leadBy J) (b_X9_plain_83 F_X9_leadBy J)
set_option maxRecDepth 100000 in
theorem s_X9_plain_61 {l : Launch} {D : va_G} {cI cS cM : ClassId} {F_X9_leadBy : KF} (h_X9_leadBy : k_snd l D cI cS cM yX9_leadBy cX9_leadBy 9 none 3 5 F_X9_leadBy) {J : List KC} (hJ : ∀ (i pc d : Nat), ([(4, 0), (12, 0)] : List (Nat × Nat))[i]? = some (pc, d) → KS l D cI cS cM yX9_plain.cls yX9_plain.name cX9_plain 5 none (k_rm 4 0 0) false pc d (k_jmp J i)) : KS l D cI cS cM yX9_plain.cls yX9_plain.name cX9_plain 5 none (k_rm 4 0 0) false 61 3 (b_X9_plain_61 F_X9_leadBy J) :=
  s_iast dX9_plain_61 <|
  s_iload dX9_plain_62 <|
  s_aload_n dX9_plain_64 rfl <|
  s_get dX9_plain_65 (ci := 9) (sl := 12) (Cn := RX9) (Tf := TX9) (N := 40) rfl (by decide) kiX9 kw_22_14 <|
  s_icmp_ge dX9_plain_68 (by decide) (s_X9_plain_83 h_X9_leadBy hJ) (s_X9_plain_71 h_X9_leadBy hJ)
noncomputable def b_X9_plain_60 (F_X9_leadBy : KF) (J : List KC) : KC := o_push 4294967295 <| b_X9_plain_61 F_X9_leadBy J
set_option maxRecDepth 100000 in
theorem s_X9_plain_60 {l : Launch} {D : va_G} {cI cS cM : ClassId} {F_X9_leadBy : KF} (h_X9_leadBy : k_snd l D cI cS cM yX9_leadBy cX9_leadBy 9 none 3 5 F_X9_leadBy) {J : List KC} (hJ : ∀ (i pc d : Nat), ([(4, 0), (12, 0)] : List (Nat × Nat))[i]? = some (pc, d) → KS l D cI cS cM yX9_plain.cls yX9_plain.name cX9_plain 5 none (k_rm 4 0 0) false pc d (k_jmp J i)) : KS l D cI cS cM yX9_plain.cls yX9_plain.name cX9_plain 5 none (k_rm 4 0 0) false 60 2 (b_X9_plain_60 F_X9_leadBy J) :=
  s_push1 dX9_plain_60 (by decide) (by decide) <|
  s_X9_plain_61 h_X9_leadBy hJ
noncomputable def b_X9_plain_56 (F_X9_leadBy : KF) (J : List KC) : KC := o_iload 2 <| b_X9_plain_61 F_X9_leadBy J
set_option maxRecDepth 100000 in
theorem s_X9_plain_56 {l : Launch} {D : va_G} {cI cS cM : ClassId} {F_X9_leadBy : KF} (h_X9_leadBy : k_snd l D cI cS cM yX9_leadBy cX9_leadBy 9 none 3 5 F_X9_leadBy) {J : List KC} (hJ : ∀ (i pc d : Nat), ([(4, 0), (12, 0)] : List (Nat × Nat))[i]? = some (pc, d) → KS l D cI cS cM yX9_plain.cls yX9_plain.name cX9_plain 5 none (k_rm 4 0 0) false pc d (k_jmp J i)) : KS l D cI cS cM yX9_plain.cls yX9_plain.name cX9_plain 5 none (k_rm 4 0 0) false 56 2 (b_X9_plain_56 F_X9_leadBy J) :=
  s_iload_n dX9_plain_56 rfl <|
  s_goto dX9_plain_57 (by decide) (s_X9_plain_61 h_X9_leadBy hJ)
noncomputable def b_X9_plain_42 (F_X9_leadBy : KF) (J : List KC) : KC := o_aload 0 <| o_get 9 26 <| o_iload 3 <| o_iload 4 <| o_aload 0 <| o_get 9 12 <| o_c2 s_lt (b_X9_plain_56 F_X9_leadBy J) (b_X9_plain_60 F_X9_leadBy J)
set_option maxRecDepth 100000 in
theorem s_X9_plain_42 {l : Launch} {D : va_G} {cI cS cM : ClassId} {F_X9_leadBy : KF} (h_X9_leadBy : k_snd l D cI cS cM yX9_leadBy cX9_leadBy 9 none 3 5 F_X9_leadBy) {J : List KC} (hJ : ∀ (i pc d : Nat), ([(4, 0), (12, 0)] : List (Nat × Nat))[i]? = some (pc, d) → KS l D cI cS cM yX9_plain.cls yX9_plain.name cX9_plain 5 none (k_rm 4 0 0) false pc d (k_jmp J i)) : KS l D cI cS cM yX9_plain.cls yX9_plain.name cX9_plain 5 none (k_rm 4 0 0) false 42 0 (b_X9_plain_42 F_X9_leadBy J) :=
  s_aload_n dX9_plain_42 rfl <|
  s_get dX9_plain_43 (ci := 9) (sl := 26) (Cn := RX9) (Tf := TX9) (N := 40) rfl (by decide) kiX9 kw_7_9 <|
  s_iload_n dX9_plain_46 rfl <|
  s_iload dX9_plain_47 <|
  s_aload_n dX9_plain_49 rfl <|
  s_get dX9_plain_50 (ci := 9) (sl := 12) (Cn := RX9) (Tf := TX9) (N := 40) rfl (by decide) kiX9 kw_22_14 <|
  s_icmp_ge dX9_plain_53 (by decide) (s_X9_plain_60 h_X9_leadBy hJ) (s_X9_plain_56 h_X9_leadBy hJ)
noncomputable def b_X9_plain_36 (F_X9_leadBy : KF) (J : List KC) : KC := o_iinc 4 1 <| k_jmp J 1
set_option maxRecDepth 100000 in
theorem s_X9_plain_36 {l : Launch} {D : va_G} {cI cS cM : ClassId} {F_X9_leadBy : KF} (h_X9_leadBy : k_snd l D cI cS cM yX9_leadBy cX9_leadBy 9 none 3 5 F_X9_leadBy) {J : List KC} (hJ : ∀ (i pc d : Nat), ([(4, 0), (12, 0)] : List (Nat × Nat))[i]? = some (pc, d) → KS l D cI cS cM yX9_plain.cls yX9_plain.name cX9_plain 5 none (k_rm 4 0 0) false pc d (k_jmp J i)) : KS l D cI cS cM yX9_plain.cls yX9_plain.name cX9_plain 5 none (k_rm 4 0 0) false 36 0 (b_X9_plain_36 F_X9_leadBy J) :=
  s_iinc dX9_plain_36 (by decide) (by decide) <|
  s_goto dX9_plain_39 (by decide) (hJ 1 _ _ rfl)
noncomputable def b_X9_plain_21 (F_X9_leadBy : KF) (J : List KC) : KC := o_aload 0 <| o_get 9 25 <| o_push 8 <| o_iload 4 <| o_bin n_mul <| o_iload 3 <| o_bin n_add <| o_iald <| o_c1 g_eq (b_X9_plain_36 F_X9_leadBy J) (b_X9_plain_42 F_X9_leadBy J)
set_option maxRecDepth 100000 in
theorem s_X9_plain_21 {l : Launch} {D : va_G} {cI cS cM : ClassId} {F_X9_leadBy : KF} (h_X9_leadBy : k_snd l D cI cS cM yX9_leadBy cX9_leadBy 9 none 3 5 F_X9_leadBy) {J : List KC} (hJ : ∀ (i pc d : Nat), ([(4, 0), (12, 0)] : List (Nat × Nat))[i]? = some (pc, d) → KS l D cI cS cM yX9_plain.cls yX9_plain.name cX9_plain 5 none (k_rm 4 0 0) false pc d (k_jmp J i)) : KS l D cI cS cM yX9_plain.cls yX9_plain.name cX9_plain 5 none (k_rm 4 0 0) false 21 0 (b_X9_plain_21 F_X9_leadBy J) :=
  s_aload_n dX9_plain_21 rfl <|
  s_get dX9_plain_22 (ci := 9) (sl := 25) (Cn := RX9) (Tf := TX9) (N := 40) rfl (by decide) kiX9 kw_7_8 <|
  s_push2 dX9_plain_25 (by decide) (by decide) <|
  s_iload dX9_plain_27 <|
  s_imul dX9_plain_29 <|
  s_iload_n dX9_plain_30 rfl <|
  s_iadd dX9_plain_31 <|
  s_iald dX9_plain_32 <|
  s_if_ne dX9_plain_33 (by decide) (s_X9_plain_42 h_X9_leadBy hJ) (s_X9_plain_36 h_X9_leadBy hJ)
noncomputable def b_X9_plain_12 (F_X9_leadBy : KF) (J : List KC) : KC := o_iload 4 <| o_aload 0 <| o_get 9 12 <| o_c2 s_lt (b_X9_plain_21 F_X9_leadBy J) (b_X9_plain_42 F_X9_leadBy J)
set_option maxRecDepth 100000 in
theorem s_X9_plain_12 {l : Launch} {D : va_G} {cI cS cM : ClassId} {F_X9_leadBy : KF} (h_X9_leadBy : k_snd l D cI cS cM yX9_leadBy cX9_leadBy 9 none 3 5 F_X9_leadBy) {J : List KC} (hJ : ∀ (i pc d : Nat), ([(4, 0), (12, 0)] : List (Nat × Nat))[i]? = some (pc, d) → KS l D cI cS cM yX9_plain.cls yX9_plain.name cX9_plain 5 none (k_rm 4 0 0) false pc d (k_jmp J i)) : KS l D cI cS cM yX9_plain.cls yX9_plain.name cX9_plain 5 none (k_rm 4 0 0) false 12 0 (b_X9_plain_12 F_X9_leadBy J) :=
  s_iload dX9_plain_12 <|
  s_aload_n dX9_plain_14 rfl <|
  s_get dX9_plain_15 (ci := 9) (sl := 12) (Cn := RX9) (Tf := TX9) (N := 40) rfl (by decide) kiX9 kw_22_14 <|
  s_icmp_ge dX9_plain_18 (by decide) (s_X9_plain_42 h_X9_leadBy hJ) (s_X9_plain_21 h_X9_leadBy hJ)
noncomputable def b_X9_plain_9 (F_X9_leadBy : KF) (J : List KC) : KC := o_iload 2 <| o_istore 4 <| b_X9_plain_12 F_X9_leadBy J
set_option maxRecDepth 100000 in
theorem s_X9_plain_9 {l : Launch} {D : va_G} {cI cS cM : ClassId} {F_X9_leadBy : KF} (h_X9_leadBy : k_snd l D cI cS cM yX9_leadBy cX9_leadBy 9 none 3 5 F_X9_leadBy) {J : List KC} (hJ : ∀ (i pc d : Nat), ([(4, 0), (12, 0)] : List (Nat × Nat))[i]? = some (pc, d) → KS l D cI cS cM yX9_plain.cls yX9_plain.name cX9_plain 5 none (k_rm 4 0 0) false pc d (k_jmp J i)) : KS l D cI cS cM yX9_plain.cls yX9_plain.name cX9_plain 5 none (k_rm 4 0 0) false 9 0 (b_X9_plain_9 F_X9_leadBy J) :=
  s_iload_n dX9_plain_9 rfl <|
  s_istore dX9_plain_10 (by decide) <|
  s_X9_plain_12 h_X9_leadBy hJ
noncomputable def b_X9_plain_4 (F_X9_leadBy : KF) (J : List KC) : KC := o_iload 3 <| o_iload 1 <| o_c2 s_lt (b_X9_plain_9 F_X9_leadBy J) (b_X9_plain_89 F_X9_leadBy J)
set_option maxRecDepth 100000 in
theorem s_X9_plain_4 {l : Launch} {D : va_G} {cI cS cM : ClassId} {F_X9_leadBy : KF} (h_X9_leadBy : k_snd l D cI cS cM yX9_leadBy cX9_leadBy 9 none 3 5 F_X9_leadBy) {J : List KC} (hJ : ∀ (i pc d : Nat), ([(4, 0), (12, 0)] : List (Nat × Nat))[i]? = some (pc, d) → KS l D cI cS cM yX9_plain.cls yX9_plain.name cX9_plain 5 none (k_rm 4 0 0) false pc d (k_jmp J i)) : KS l D cI cS cM yX9_plain.cls yX9_plain.name cX9_plain 5 none (k_rm 4 0 0) false 4 0 (b_X9_plain_4 F_X9_leadBy J) :=
  s_iload_n dX9_plain_4 rfl <|
  s_iload_n dX9_plain_5 rfl <|
  s_icmp_ge dX9_plain_6 (by decide) (s_X9_plain_89 h_X9_leadBy hJ) (s_X9_plain_9 h_X9_leadBy hJ)
noncomputable def b_X9_plain_0 (F_X9_leadBy : KF) (J : List KC) : KC := o_push 0 <| o_istore 2 <| o_push 0 <| o_istore 3 <| b_X9_plain_4 F_X9_leadBy J
set_option maxRecDepth 100000 in
theorem s_X9_plain_0 {l : Launch} {D : va_G} {cI cS cM : ClassId} {F_X9_leadBy : KF} (h_X9_leadBy : k_snd l D cI cS cM yX9_leadBy cX9_leadBy 9 none 3 5 F_X9_leadBy) {J : List KC} (hJ : ∀ (i pc d : Nat), ([(4, 0), (12, 0)] : List (Nat × Nat))[i]? = some (pc, d) → KS l D cI cS cM yX9_plain.cls yX9_plain.name cX9_plain 5 none (k_rm 4 0 0) false pc d (k_jmp J i)) : KS l D cI cS cM yX9_plain.cls yX9_plain.name cX9_plain 5 none (k_rm 4 0 0) false 0 0 (b_X9_plain_0 F_X9_leadBy J) :=
  s_push1 dX9_plain_0 (by decide) (by decide) <|
  s_istore_n dX9_plain_1 rfl (by decide) <|
  s_push1 dX9_plain_2 (by decide) (by decide) <|
  s_istore_n dX9_plain_3 rfl (by decide) <|
  s_X9_plain_4 h_X9_leadBy hJ
noncomputable def j_X9_plain (F_X9_leadBy : KF) (J : List KC) : List KC := [b_X9_plain_4 F_X9_leadBy J, b_X9_plain_12 F_X9_leadBy J]
noncomputable def m_X9_plain (F_X9_leadBy : KF) (n : Nat) : KF := k_fun [k_u, k_u, k_u] (b_X9_plain_0 F_X9_leadBy (k_loop (j_X9_plain F_X9_leadBy) n))
theorem r_X9_plain {l : Launch} {D : va_G} {cI cS cM : ClassId} {F_X9_leadBy : KF} (h_X9_leadBy : k_snd l D cI cS cM yX9_leadBy cX9_leadBy 9 none 3 5 F_X9_leadBy) (n : Nat) : k_snd l D cI cS cM yX9_plain cX9_plain 5 none 4 2 (m_X9_plain F_X9_leadBy n) :=
  k_method (by decide +kernel) (by simp) rfl (s_X9_plain_0 h_X9_leadBy (k_loops (hs := [(4, 0), (12, 0)]) (fun J hJ i pc d h => match i, h with | 0, h => by cases h; exact s_X9_plain_4 h_X9_leadBy hJ | 1, h => by cases h; exact s_X9_plain_12 h_X9_leadBy hJ | _ + 2, h => by simp at h) n))
noncomputable def b_X9_reads_144 (F_X9_here F_X9_readOrder F_X9_hold F_X9_doOrder F_X9_push : KF) (J : List KC) : KC := o_aload 0 <| o_cV0 1 9 F_X9_push <| o_aload 0 <| o_get 9 35 <| o_iret
set_option maxRecDepth 100000 in
theorem s_X9_reads_144 {l : Launch} {D : va_G} {cI cS cM : ClassId} {F_X9_here F_X9_readOrder F_X9_hold F_X9_doOrder F_X9_push : KF} (h_X9_here : k_snd l D cI cS cM yX9_here cX9_here 1 (some .int) 1 1 F_X9_here) (h_X9_readOrder : k_snd l D cI cS cM yX9_readOrder cX9_readOrder 2 none 3 1 F_X9_readOrder) (h_X9_hold : k_snd l D cI cS cM yX9_hold cX9_hold 2 none 1 1 F_X9_hold) (h_X9_doOrder : k_snd l D cI cS cM yX9_doOrder cX9_doOrder 2 (some .int) 4 2 F_X9_doOrder) (h_X9_push : k_snd l D cI cS cM yX9_push cX9_push 2 none 1 1 F_X9_push) {J : List KC} (hJ : ∀ (i pc d : Nat), ([(41, 0), (86, 0), (104, 0)] : List (Nat × Nat))[i]? = some (pc, d) → KS l D cI cS cM yX9_reads.cls yX9_reads.name cX9_reads 3 (some .int) (k_rm 5 0 0) false pc d (k_jmp J i)) : KS l D cI cS cM yX9_reads.cls yX9_reads.name cX9_reads 3 (some .int) (k_rm 5 0 0) false 144 0 (b_X9_reads_144 F_X9_here F_X9_readOrder F_X9_hold F_X9_doOrder F_X9_push J) :=
  s_aload_n dX9_reads_144 rfl <|
  s_callV0 dX9_reads_145 kw_10_5 kw_10_6 kw_10_7 (ci := 9) rfl ok_X9_push (by decide) (by decide) h_X9_push (by decide) <|
  s_aload_n dX9_reads_148 rfl <|
  s_get dX9_reads_149 (ci := 9) (sl := 35) (Cn := RX9) (Tf := TX9) (N := 40) rfl (by decide) kiX9 kw_37_17 <|
  s_ireturn dX9_reads_152 rfl
noncomputable def b_X9_reads_138 (F_X9_here F_X9_readOrder F_X9_hold F_X9_doOrder F_X9_push : KF) (J : List KC) : KC := o_iinc 1 1 <| k_jmp J 1
set_option maxRecDepth 100000 in
theorem s_X9_reads_138 {l : Launch} {D : va_G} {cI cS cM : ClassId} {F_X9_here F_X9_readOrder F_X9_hold F_X9_doOrder F_X9_push : KF} (h_X9_here : k_snd l D cI cS cM yX9_here cX9_here 1 (some .int) 1 1 F_X9_here) (h_X9_readOrder : k_snd l D cI cS cM yX9_readOrder cX9_readOrder 2 none 3 1 F_X9_readOrder) (h_X9_hold : k_snd l D cI cS cM yX9_hold cX9_hold 2 none 1 1 F_X9_hold) (h_X9_doOrder : k_snd l D cI cS cM yX9_doOrder cX9_doOrder 2 (some .int) 4 2 F_X9_doOrder) (h_X9_push : k_snd l D cI cS cM yX9_push cX9_push 2 none 1 1 F_X9_push) {J : List KC} (hJ : ∀ (i pc d : Nat), ([(41, 0), (86, 0), (104, 0)] : List (Nat × Nat))[i]? = some (pc, d) → KS l D cI cS cM yX9_reads.cls yX9_reads.name cX9_reads 3 (some .int) (k_rm 5 0 0) false pc d (k_jmp J i)) : KS l D cI cS cM yX9_reads.cls yX9_reads.name cX9_reads 3 (some .int) (k_rm 5 0 0) false 138 0 (b_X9_reads_138 F_X9_here F_X9_readOrder F_X9_hold F_X9_doOrder F_X9_push J) :=
  s_iinc dX9_reads_138 (by decide) (by decide) <|
  s_goto dX9_reads_141 (by decide) (hJ 1 _ _ rfl)
noncomputable def b_X9_reads_127 (F_X9_here F_X9_readOrder F_X9_hold F_X9_doOrder F_X9_push : KF) (J : List KC) : KC := o_aload 0 <| o_push 0 <| o_putz 9 5 <| o_push 4294966296 <| o_iload 1 <| o_bin n_sub <| o_iret
set_option maxRecDepth 100000 in
theorem s_X9_reads_127 {l : Launch} {D : va_G} {cI cS cM : ClassId} {F_X9_here F_X9_readOrder F_X9_hold F_X9_doOrder F_X9_push : KF} (h_X9_here : k_snd l D cI cS cM yX9_here cX9_here 1 (some .int) 1 1 F_X9_here) (h_X9_readOrder : k_snd l D cI cS cM yX9_readOrder cX9_readOrder 2 none 3 1 F_X9_readOrder) (h_X9_hold : k_snd l D cI cS cM yX9_hold cX9_hold 2 none 1 1 F_X9_hold) (h_X9_doOrder : k_snd l D cI cS cM yX9_doOrder cX9_doOrder 2 (some .int) 4 2 F_X9_doOrder) (h_X9_push : k_snd l D cI cS cM yX9_push cX9_push 2 none 1 1 F_X9_push) {J : List KC} (hJ : ∀ (i pc d : Nat), ([(41, 0), (86, 0), (104, 0)] : List (Nat × Nat))[i]? = some (pc, d) → KS l D cI cS cM yX9_reads.cls yX9_reads.name cX9_reads 3 (some .int) (k_rm 5 0 0) false pc d (k_jmp J i)) : KS l D cI cS cM yX9_reads.cls yX9_reads.name cX9_reads 3 (some .int) (k_rm 5 0 0) false 127 0 (b_X9_reads_127 F_X9_here F_X9_readOrder F_X9_hold F_X9_doOrder F_X9_push J) :=
  s_aload_n dX9_reads_127 rfl <|
  s_push1 dX9_reads_128 (by decide) (by decide) <|
  s_putz dX9_reads_129 (ci := 9) (sl := 5) (Cn := RX9) (Tf := TX9) (N := 40) (tyf := tyX9) rfl (by decide) kiX9 tyX9_ok nmX9 kw_9_17 rfl rfl <|
  s_push3 dX9_reads_132 (by decide) (by decide) <|
  s_iload_n dX9_reads_135 rfl <|
  s_isub dX9_reads_136 <|
  s_ireturn dX9_reads_137 rfl
noncomputable def b_X9_reads_109 (F_X9_here F_X9_readOrder F_X9_hold F_X9_doOrder F_X9_push : KF) (J : List KC) : KC := o_aload 0 <| o_get 9 0 <| o_iload 2 <| o_aload 0 <| o_get 9 1 <| o_iload 2 <| o_iald <| o_iast <| o_iinc 2 1 <| k_jmp J 2
set_option maxRecDepth 100000 in
theorem s_X9_reads_109 {l : Launch} {D : va_G} {cI cS cM : ClassId} {F_X9_here F_X9_readOrder F_X9_hold F_X9_doOrder F_X9_push : KF} (h_X9_here : k_snd l D cI cS cM yX9_here cX9_here 1 (some .int) 1 1 F_X9_here) (h_X9_readOrder : k_snd l D cI cS cM yX9_readOrder cX9_readOrder 2 none 3 1 F_X9_readOrder) (h_X9_hold : k_snd l D cI cS cM yX9_hold cX9_hold 2 none 1 1 F_X9_hold) (h_X9_doOrder : k_snd l D cI cS cM yX9_doOrder cX9_doOrder 2 (some .int) 4 2 F_X9_doOrder) (h_X9_push : k_snd l D cI cS cM yX9_push cX9_push 2 none 1 1 F_X9_push) {J : List KC} (hJ : ∀ (i pc d : Nat), ([(41, 0), (86, 0), (104, 0)] : List (Nat × Nat))[i]? = some (pc, d) → KS l D cI cS cM yX9_reads.cls yX9_reads.name cX9_reads 3 (some .int) (k_rm 5 0 0) false pc d (k_jmp J i)) : KS l D cI cS cM yX9_reads.cls yX9_reads.name cX9_reads 3 (some .int) (k_rm 5 0 0) false 109 0 (b_X9_reads_109 F_X9_here F_X9_readOrder F_X9_hold F_X9_doOrder F_X9_push J) :=
  s_aload_n dX9_reads_109 rfl <|
  s_get dX9_reads_110 (ci := 9) (sl := 0) (Cn := RX9) (Tf := TX9) (N := 40) rfl (by decide) kiX9 kw_6_16 <|
  s_iload_n dX9_reads_113 rfl <|
  s_aload_n dX9_reads_114 rfl <|
  s_get dX9_reads_115 (ci := 9) (sl := 1) (Cn := RX9) (Tf := TX9) (N := 40) rfl (by decide) kiX9 kw_6_17 <|
  s_iload_n dX9_reads_118 rfl <|
  s_iald dX9_reads_119 <|
  s_iast dX9_reads_120 <|
  s_iinc dX9_reads_121 (by decide) (by decide) <|
  s_goto dX9_reads_124 (by decide) (hJ 2 _ _ rfl)
noncomputable def b_X9_reads_104 (F_X9_here F_X9_readOrder F_X9_hold F_X9_doOrder F_X9_push : KF) (J : List KC) : KC := o_iload 2 <| o_push 5 <| o_c2 s_lt (b_X9_reads_109 F_X9_here F_X9_readOrder F_X9_hold F_X9_doOrder F_X9_push J) (b_X9_reads_127 F_X9_here F_X9_readOrder F_X9_hold F_X9_doOrder F_X9_push J)
set_option maxRecDepth 100000 in
theorem s_X9_reads_104 {l : Launch} {D : va_G} {cI cS cM : ClassId} {F_X9_here F_X9_readOrder F_X9_hold F_X9_doOrder F_X9_push : KF} (h_X9_here : k_snd l D cI cS cM yX9_here cX9_here 1 (some .int) 1 1 F_X9_here) (h_X9_readOrder : k_snd l D cI cS cM yX9_readOrder cX9_readOrder 2 none 3 1 F_X9_readOrder) (h_X9_hold : k_snd l D cI cS cM yX9_hold cX9_hold 2 none 1 1 F_X9_hold) (h_X9_doOrder : k_snd l D cI cS cM yX9_doOrder cX9_doOrder 2 (some .int) 4 2 F_X9_doOrder) (h_X9_push : k_snd l D cI cS cM yX9_push cX9_push 2 none 1 1 F_X9_push) {J : List KC} (hJ : ∀ (i pc d : Nat), ([(41, 0), (86, 0), (104, 0)] : List (Nat × Nat))[i]? = some (pc, d) → KS l D cI cS cM yX9_reads.cls yX9_reads.name cX9_reads 3 (some .int) (k_rm 5 0 0) false pc d (k_jmp J i)) : KS l D cI cS cM yX9_reads.cls yX9_reads.name cX9_reads 3 (some .int) (k_rm 5 0 0) false 104 0 (b_X9_reads_104 F_X9_here F_X9_readOrder F_X9_hold F_X9_doOrder F_X9_push J) :=
  s_iload_n dX9_reads_104 rfl <|
  s_push1 dX9_reads_105 (by decide) (by decide) <|
  s_icmp_ge dX9_reads_106 (by decide) (s_X9_reads_127 h_X9_here h_X9_readOrder h_X9_hold h_X9_doOrder h_X9_push hJ) (s_X9_reads_109 h_X9_here h_X9_readOrder h_X9_hold h_X9_doOrder h_X9_push hJ)
noncomputable def b_X9_reads_102 (F_X9_here F_X9_readOrder F_X9_hold F_X9_doOrder F_X9_push : KF) (J : List KC) : KC := o_push 0 <| o_istore 2 <| b_X9_reads_104 F_X9_here F_X9_readOrder F_X9_hold F_X9_doOrder F_X9_push J
set_option maxRecDepth 100000 in
theorem s_X9_reads_102 {l : Launch} {D : va_G} {cI cS cM : ClassId} {F_X9_here F_X9_readOrder F_X9_hold F_X9_doOrder F_X9_push : KF} (h_X9_here : k_snd l D cI cS cM yX9_here cX9_here 1 (some .int) 1 1 F_X9_here) (h_X9_readOrder : k_snd l D cI cS cM yX9_readOrder cX9_readOrder 2 none 3 1 F_X9_readOrder) (h_X9_hold : k_snd l D cI cS cM yX9_hold cX9_hold 2 none 1 1 F_X9_hold) (h_X9_doOrder : k_snd l D cI cS cM yX9_doOrder cX9_doOrder 2 (some .int) 4 2 F_X9_doOrder) (h_X9_push : k_snd l D cI cS cM yX9_push cX9_push 2 none 1 1 F_X9_push) {J : List KC} (hJ : ∀ (i pc d : Nat), ([(41, 0), (86, 0), (104, 0)] : List (Nat × Nat))[i]? = some (pc, d) → KS l D cI cS cM yX9_reads.cls yX9_reads.name cX9_reads 3 (some .int) (k_rm 5 0 0) false pc d (k_jmp J i)) : KS l D cI cS cM yX9_reads.cls yX9_reads.name cX9_reads 3 (some .int) (k_rm 5 0 0) false 102 0 (b_X9_reads_102 F_X9_here F_X9_readOrder F_X9_hold F_X9_doOrder F_X9_push J) :=
  s_push1 dX9_reads_102 (by decide) (by decide) <|
  s_istore_n dX9_reads_103 rfl (by decide) <|
  s_X9_reads_104 h_X9_here h_X9_readOrder h_X9_hold h_X9_doOrder h_X9_push hJ
noncomputable def b_X9_reads_94 (F_X9_here F_X9_readOrder F_X9_hold F_X9_doOrder F_X9_push : KF) (J : List KC) : KC := o_aload 0 <| o_iload 1 <| o_cV1 2 9 F_X9_doOrder <| o_c1 g_lt (b_X9_reads_102 F_X9_here F_X9_readOrder F_X9_hold F_X9_doOrder F_X9_push J) (b_X9_reads_138 F_X9_here F_X9_readOrder F_X9_hold F_X9_doOrder F_X9_push J)
set_option maxRecDepth 100000 in
theorem s_X9_reads_94 {l : Launch} {D : va_G} {cI cS cM : ClassId} {F_X9_here F_X9_readOrder F_X9_hold F_X9_doOrder F_X9_push : KF} (h_X9_here : k_snd l D cI cS cM yX9_here cX9_here 1 (some .int) 1 1 F_X9_here) (h_X9_readOrder : k_snd l D cI cS cM yX9_readOrder cX9_readOrder 2 none 3 1 F_X9_readOrder) (h_X9_hold : k_snd l D cI cS cM yX9_hold cX9_hold 2 none 1 1 F_X9_hold) (h_X9_doOrder : k_snd l D cI cS cM yX9_doOrder cX9_doOrder 2 (some .int) 4 2 F_X9_doOrder) (h_X9_push : k_snd l D cI cS cM yX9_push cX9_push 2 none 1 1 F_X9_push) {J : List KC} (hJ : ∀ (i pc d : Nat), ([(41, 0), (86, 0), (104, 0)] : List (Nat × Nat))[i]? = some (pc, d) → KS l D cI cS cM yX9_reads.cls yX9_reads.name cX9_reads 3 (some .int) (k_rm 5 0 0) false pc d (k_jmp J i)) : KS l D cI cS cM yX9_reads.cls yX9_reads.name cX9_reads 3 (some .int) (k_rm 5 0 0) false 94 0 (b_X9_reads_94 F_X9_here F_X9_readOrder F_X9_hold F_X9_doOrder F_X9_push J) :=
  s_aload_n dX9_reads_94 rfl <|
  s_iload_n dX9_reads_95 rfl <|
  s_callV1 dX9_reads_96 kw_38_18 kw_38_19 kw_38_20 (ci := 9) rfl ok_X9_doOrder (by decide) (by decide) h_X9_doOrder (by decide) <|
  s_if_ge dX9_reads_99 (by decide) (s_X9_reads_138 h_X9_here h_X9_readOrder h_X9_hold h_X9_doOrder h_X9_push hJ) (s_X9_reads_102 h_X9_here h_X9_readOrder h_X9_hold h_X9_doOrder h_X9_push hJ)
noncomputable def b_X9_reads_86 (F_X9_here F_X9_readOrder F_X9_hold F_X9_doOrder F_X9_push : KF) (J : List KC) : KC := o_iload 1 <| o_aload 0 <| o_get 9 35 <| o_c2 s_lt (b_X9_reads_94 F_X9_here F_X9_readOrder F_X9_hold F_X9_doOrder F_X9_push J) (b_X9_reads_144 F_X9_here F_X9_readOrder F_X9_hold F_X9_doOrder F_X9_push J)
set_option maxRecDepth 100000 in
theorem s_X9_reads_86 {l : Launch} {D : va_G} {cI cS cM : ClassId} {F_X9_here F_X9_readOrder F_X9_hold F_X9_doOrder F_X9_push : KF} (h_X9_here : k_snd l D cI cS cM yX9_here cX9_here 1 (some .int) 1 1 F_X9_here) (h_X9_readOrder : k_snd l D cI cS cM yX9_readOrder cX9_readOrder 2 none 3 1 F_X9_readOrder) (h_X9_hold : k_snd l D cI cS cM yX9_hold cX9_hold 2 none 1 1 F_X9_hold) (h_X9_doOrder : k_snd l D cI cS cM yX9_doOrder cX9_doOrder 2 (some .int) 4 2 F_X9_doOrder) (h_X9_push : k_snd l D cI cS cM yX9_push cX9_push 2 none 1 1 F_X9_push) {J : List KC} (hJ : ∀ (i pc d : Nat), ([(41, 0), (86, 0), (104, 0)] : List (Nat × Nat))[i]? = some (pc, d) → KS l D cI cS cM yX9_reads.cls yX9_reads.name cX9_reads 3 (some .int) (k_rm 5 0 0) false pc d (k_jmp J i)) : KS l D cI cS cM yX9_reads.cls yX9_reads.name cX9_reads 3 (some .int) (k_rm 5 0 0) false 86 0 (b_X9_reads_86 F_X9_here F_X9_readOrder F_X9_hold F_X9_doOrder F_X9_push J) :=
  s_iload_n dX9_reads_86 rfl <|
  s_aload_n dX9_reads_87 rfl <|
  s_get dX9_reads_88 (ci := 9) (sl := 35) (Cn := RX9) (Tf := TX9) (N := 40) rfl (by decide) kiX9 kw_37_17 <|
  s_icmp_ge dX9_reads_91 (by decide) (s_X9_reads_144 h_X9_here h_X9_readOrder h_X9_hold h_X9_doOrder h_X9_push hJ) (s_X9_reads_94 h_X9_here h_X9_readOrder h_X9_hold h_X9_doOrder h_X9_push hJ)
noncomputable def b_X9_reads_80 (F_X9_here F_X9_readOrder F_X9_hold F_X9_doOrder F_X9_push : KF) (J : List KC) : KC := o_aload 0 <| o_cV0 1 9 F_X9_hold <| o_push 0 <| o_istore 1 <| b_X9_reads_86 F_X9_here F_X9_readOrder F_X9_hold F_X9_doOrder F_X9_push J
set_option maxRecDepth 100000 in
theorem s_X9_reads_80 {l : Launch} {D : va_G} {cI cS cM : ClassId} {F_X9_here F_X9_readOrder F_X9_hold F_X9_doOrder F_X9_push : KF} (h_X9_here : k_snd l D cI cS cM yX9_here cX9_here 1 (some .int) 1 1 F_X9_here) (h_X9_readOrder : k_snd l D cI cS cM yX9_readOrder cX9_readOrder 2 none 3 1 F_X9_readOrder) (h_X9_hold : k_snd l D cI cS cM yX9_hold cX9_hold 2 none 1 1 F_X9_hold) (h_X9_doOrder : k_snd l D cI cS cM yX9_doOrder cX9_doOrder 2 (some .int) 4 2 F_X9_doOrder) (h_X9_push : k_snd l D cI cS cM yX9_push cX9_push 2 none 1 1 F_X9_push) {J : List KC} (hJ : ∀ (i pc d : Nat), ([(41, 0), (86, 0), (104, 0)] : List (Nat × Nat))[i]? = some (pc, d) → KS l D cI cS cM yX9_reads.cls yX9_reads.name cX9_reads 3 (some .int) (k_rm 5 0 0) false pc d (k_jmp J i)) : KS l D cI cS cM yX9_reads.cls yX9_reads.name cX9_reads 3 (some .int) (k_rm 5 0 0) false 80 0 (b_X9_reads_80 F_X9_here F_X9_readOrder F_X9_hold F_X9_doOrder F_X9_push J) :=
  s_aload_n dX9_reads_80 rfl <|
  s_callV0 dX9_reads_81 kw_9_9 kw_9_10 kw_9_11 (ci := 9) rfl ok_X9_hold (by decide) (by decide) h_X9_hold (by decide) <|
  s_push1 dX9_reads_84 (by decide) (by decide) <|
  s_istore_n dX9_reads_85 rfl (by decide) <|
  s_X9_reads_86 h_X9_here h_X9_readOrder h_X9_hold h_X9_doOrder h_X9_push hJ
noncomputable def b_X9_reads_72 (F_X9_here F_X9_readOrder F_X9_hold F_X9_doOrder F_X9_push : KF) (J : List KC) : KC := o_push 4294967286 <| o_aload 0 <| o_get 9 34 <| o_bin n_sub <| o_iret
set_option maxRecDepth 100000 in
theorem s_X9_reads_72 {l : Launch} {D : va_G} {cI cS cM : ClassId} {F_X9_here F_X9_readOrder F_X9_hold F_X9_doOrder F_X9_push : KF} (h_X9_here : k_snd l D cI cS cM yX9_here cX9_here 1 (some .int) 1 1 F_X9_here) (h_X9_readOrder : k_snd l D cI cS cM yX9_readOrder cX9_readOrder 2 none 3 1 F_X9_readOrder) (h_X9_hold : k_snd l D cI cS cM yX9_hold cX9_hold 2 none 1 1 F_X9_hold) (h_X9_doOrder : k_snd l D cI cS cM yX9_doOrder cX9_doOrder 2 (some .int) 4 2 F_X9_doOrder) (h_X9_push : k_snd l D cI cS cM yX9_push cX9_push 2 none 1 1 F_X9_push) {J : List KC} (hJ : ∀ (i pc d : Nat), ([(41, 0), (86, 0), (104, 0)] : List (Nat × Nat))[i]? = some (pc, d) → KS l D cI cS cM yX9_reads.cls yX9_reads.name cX9_reads 3 (some .int) (k_rm 5 0 0) false pc d (k_jmp J i)) : KS l D cI cS cM yX9_reads.cls yX9_reads.name cX9_reads 3 (some .int) (k_rm 5 0 0) false 72 0 (b_X9_reads_72 F_X9_here F_X9_readOrder F_X9_hold F_X9_doOrder F_X9_push J) :=
  s_push2 dX9_reads_72 (by decide) (by decide) <|
  s_aload_n dX9_reads_74 rfl <|
  s_get dX9_reads_75 (ci := 9) (sl := 34) (Cn := RX9) (Tf := TX9) (N := 40) rfl (by decide) kiX9 kw_37_16 <|
  s_isub dX9_reads_78 <|
  s_ireturn dX9_reads_79 rfl
noncomputable def b_X9_reads_64 (F_X9_here F_X9_readOrder F_X9_hold F_X9_doOrder F_X9_push : KF) (J : List KC) : KC := o_aload 0 <| o_get 9 34 <| o_push 4294967295 <| o_c2 Nat.beq (b_X9_reads_80 F_X9_here F_X9_readOrder F_X9_hold F_X9_doOrder F_X9_push J) (b_X9_reads_72 F_X9_here F_X9_readOrder F_X9_hold F_X9_doOrder F_X9_push J)
set_option maxRecDepth 100000 in
theorem s_X9_reads_64 {l : Launch} {D : va_G} {cI cS cM : ClassId} {F_X9_here F_X9_readOrder F_X9_hold F_X9_doOrder F_X9_push : KF} (h_X9_here : k_snd l D cI cS cM yX9_here cX9_here 1 (some .int) 1 1 F_X9_here) (h_X9_readOrder : k_snd l D cI cS cM yX9_readOrder cX9_readOrder 2 none 3 1 F_X9_readOrder) (h_X9_hold : k_snd l D cI cS cM yX9_hold cX9_hold 2 none 1 1 F_X9_hold) (h_X9_doOrder : k_snd l D cI cS cM yX9_doOrder cX9_doOrder 2 (some .int) 4 2 F_X9_doOrder) (h_X9_push : k_snd l D cI cS cM yX9_push cX9_push 2 none 1 1 F_X9_push) {J : List KC} (hJ : ∀ (i pc d : Nat), ([(41, 0), (86, 0), (104, 0)] : List (Nat × Nat))[i]? = some (pc, d) → KS l D cI cS cM yX9_reads.cls yX9_reads.name cX9_reads 3 (some .int) (k_rm 5 0 0) false pc d (k_jmp J i)) : KS l D cI cS cM yX9_reads.cls yX9_reads.name cX9_reads 3 (some .int) (k_rm 5 0 0) false 64 0 (b_X9_reads_64 F_X9_here F_X9_readOrder F_X9_hold F_X9_doOrder F_X9_push J) :=
  s_aload_n dX9_reads_64 rfl <|
  s_get dX9_reads_65 (ci := 9) (sl := 34) (Cn := RX9) (Tf := TX9) (N := 40) rfl (by decide) kiX9 kw_37_16 <|
  s_push1 dX9_reads_68 (by decide) (by decide) <|
  s_icmp_eq dX9_reads_69 (by decide) (s_X9_reads_80 h_X9_here h_X9_readOrder h_X9_hold h_X9_doOrder h_X9_push hJ) (s_X9_reads_72 h_X9_here h_X9_readOrder h_X9_hold h_X9_doOrder h_X9_push hJ)
noncomputable def b_X9_reads_57 (F_X9_here F_X9_readOrder F_X9_hold F_X9_doOrder F_X9_push : KF) (J : List KC) : KC := o_aload 0 <| o_cV0 1 9 F_X9_readOrder <| k_jmp J 0
set_option maxRecDepth 100000 in
theorem s_X9_reads_57 {l : Launch} {D : va_G} {cI cS cM : ClassId} {F_X9_here F_X9_readOrder F_X9_hold F_X9_doOrder F_X9_push : KF} (h_X9_here : k_snd l D cI cS cM yX9_here cX9_here 1 (some .int) 1 1 F_X9_here) (h_X9_readOrder : k_snd l D cI cS cM yX9_readOrder cX9_readOrder 2 none 3 1 F_X9_readOrder) (h_X9_hold : k_snd l D cI cS cM yX9_hold cX9_hold 2 none 1 1 F_X9_hold) (h_X9_doOrder : k_snd l D cI cS cM yX9_doOrder cX9_doOrder 2 (some .int) 4 2 F_X9_doOrder) (h_X9_push : k_snd l D cI cS cM yX9_push cX9_push 2 none 1 1 F_X9_push) {J : List KC} (hJ : ∀ (i pc d : Nat), ([(41, 0), (86, 0), (104, 0)] : List (Nat × Nat))[i]? = some (pc, d) → KS l D cI cS cM yX9_reads.cls yX9_reads.name cX9_reads 3 (some .int) (k_rm 5 0 0) false pc d (k_jmp J i)) : KS l D cI cS cM yX9_reads.cls yX9_reads.name cX9_reads 3 (some .int) (k_rm 5 0 0) false 57 0 (b_X9_reads_57 F_X9_here F_X9_readOrder F_X9_hold F_X9_doOrder F_X9_push J) :=
  s_aload_n dX9_reads_57 rfl <|
  s_callV0 dX9_reads_58 kw_37_23 kw_38_0 kw_38_1 (ci := 9) rfl ok_X9_readOrder (by decide) (by decide) h_X9_readOrder (by decide) <|
  s_goto dX9_reads_61 (by decide) (hJ 0 _ _ rfl)
noncomputable def b_X9_reads_49 (F_X9_here F_X9_readOrder F_X9_hold F_X9_doOrder F_X9_push : KF) (J : List KC) : KC := o_aload 0 <| o_cV1 1 9 F_X9_here <| o_push 4294967295 <| o_c2 Nat.beq (b_X9_reads_64 F_X9_here F_X9_readOrder F_X9_hold F_X9_doOrder F_X9_push J) (b_X9_reads_57 F_X9_here F_X9_readOrder F_X9_hold F_X9_doOrder F_X9_push J)
set_option maxRecDepth 100000 in
theorem s_X9_reads_49 {l : Launch} {D : va_G} {cI cS cM : ClassId} {F_X9_here F_X9_readOrder F_X9_hold F_X9_doOrder F_X9_push : KF} (h_X9_here : k_snd l D cI cS cM yX9_here cX9_here 1 (some .int) 1 1 F_X9_here) (h_X9_readOrder : k_snd l D cI cS cM yX9_readOrder cX9_readOrder 2 none 3 1 F_X9_readOrder) (h_X9_hold : k_snd l D cI cS cM yX9_hold cX9_hold 2 none 1 1 F_X9_hold) (h_X9_doOrder : k_snd l D cI cS cM yX9_doOrder cX9_doOrder 2 (some .int) 4 2 F_X9_doOrder) (h_X9_push : k_snd l D cI cS cM yX9_push cX9_push 2 none 1 1 F_X9_push) {J : List KC} (hJ : ∀ (i pc d : Nat), ([(41, 0), (86, 0), (104, 0)] : List (Nat × Nat))[i]? = some (pc, d) → KS l D cI cS cM yX9_reads.cls yX9_reads.name cX9_reads 3 (some .int) (k_rm 5 0 0) false pc d (k_jmp J i)) : KS l D cI cS cM yX9_reads.cls yX9_reads.name cX9_reads 3 (some .int) (k_rm 5 0 0) false 49 0 (b_X9_reads_49 F_X9_here F_X9_readOrder F_X9_hold F_X9_doOrder F_X9_push J) :=
  s_aload_n dX9_reads_49 rfl <|
  s_callV1 dX9_reads_50 kw_37_19 kw_37_20 kw_37_21 (ci := 9) rfl ok_X9_here (by decide) (by decide) h_X9_here (by decide) <|
  s_push1 dX9_reads_53 (by decide) (by decide) <|
  s_icmp_eq dX9_reads_54 (by decide) (s_X9_reads_64 h_X9_here h_X9_readOrder h_X9_hold h_X9_doOrder h_X9_push hJ) (s_X9_reads_57 h_X9_here h_X9_readOrder h_X9_hold h_X9_doOrder h_X9_push hJ)
noncomputable def b_X9_reads_41 (F_X9_here F_X9_readOrder F_X9_hold F_X9_doOrder F_X9_push : KF) (J : List KC) : KC := o_aload 0 <| o_get 9 34 <| o_push 4294967295 <| o_c2 Nat.beq (b_X9_reads_49 F_X9_here F_X9_readOrder F_X9_hold F_X9_doOrder F_X9_push J) (b_X9_reads_64 F_X9_here F_X9_readOrder F_X9_hold F_X9_doOrder F_X9_push J)
set_option maxRecDepth 100000 in
theorem s_X9_reads_41 {l : Launch} {D : va_G} {cI cS cM : ClassId} {F_X9_here F_X9_readOrder F_X9_hold F_X9_doOrder F_X9_push : KF} (h_X9_here : k_snd l D cI cS cM yX9_here cX9_here 1 (some .int) 1 1 F_X9_here) (h_X9_readOrder : k_snd l D cI cS cM yX9_readOrder cX9_readOrder 2 none 3 1 F_X9_readOrder) (h_X9_hold : k_snd l D cI cS cM yX9_hold cX9_hold 2 none 1 1 F_X9_hold) (h_X9_doOrder : k_snd l D cI cS cM yX9_doOrder cX9_doOrder 2 (some .int) 4 2 F_X9_doOrder) (h_X9_push : k_snd l D cI cS cM yX9_push cX9_push 2 none 1 1 F_X9_push) {J : List KC} (hJ : ∀ (i pc d : Nat), ([(41, 0), (86, 0), (104, 0)] : List (Nat × Nat))[i]? = some (pc, d) → KS l D cI cS cM yX9_reads.cls yX9_reads.name cX9_reads 3 (some .int) (k_rm 5 0 0) false pc d (k_jmp J i)) : KS l D cI cS cM yX9_reads.cls yX9_reads.name cX9_reads 3 (some .int) (k_rm 5 0 0) false 41 0 (b_X9_reads_41 F_X9_here F_X9_readOrder F_X9_hold F_X9_doOrder F_X9_push J) :=
  s_aload_n dX9_reads_41 rfl <|
  s_get dX9_reads_42 (ci := 9) (sl := 34) (Cn := RX9) (Tf := TX9) (N := 40) rfl (by decide) kiX9 kw_37_16 <|
  s_push1 dX9_reads_45 (by decide) (by decide) <|
  s_icmp_ne dX9_reads_46 (by decide) (s_X9_reads_64 h_X9_here h_X9_readOrder h_X9_hold h_X9_doOrder h_X9_push hJ) (s_X9_reads_49 h_X9_here h_X9_readOrder h_X9_hold h_X9_doOrder h_X9_push hJ)
noncomputable def b_X9_reads_33 (F_X9_here F_X9_readOrder F_X9_hold F_X9_doOrder F_X9_push : KF) (J : List KC) : KC := o_push 4294967286 <| o_aload 0 <| o_get 9 32 <| o_bin n_sub <| o_iret
set_option maxRecDepth 100000 in
theorem s_X9_reads_33 {l : Launch} {D : va_G} {cI cS cM : ClassId} {F_X9_here F_X9_readOrder F_X9_hold F_X9_doOrder F_X9_push : KF} (h_X9_here : k_snd l D cI cS cM yX9_here cX9_here 1 (some .int) 1 1 F_X9_here) (h_X9_readOrder : k_snd l D cI cS cM yX9_readOrder cX9_readOrder 2 none 3 1 F_X9_readOrder) (h_X9_hold : k_snd l D cI cS cM yX9_hold cX9_hold 2 none 1 1 F_X9_hold) (h_X9_doOrder : k_snd l D cI cS cM yX9_doOrder cX9_doOrder 2 (some .int) 4 2 F_X9_doOrder) (h_X9_push : k_snd l D cI cS cM yX9_push cX9_push 2 none 1 1 F_X9_push) {J : List KC} (hJ : ∀ (i pc d : Nat), ([(41, 0), (86, 0), (104, 0)] : List (Nat × Nat))[i]? = some (pc, d) → KS l D cI cS cM yX9_reads.cls yX9_reads.name cX9_reads 3 (some .int) (k_rm 5 0 0) false pc d (k_jmp J i)) : KS l D cI cS cM yX9_reads.cls yX9_reads.name cX9_reads 3 (some .int) (k_rm 5 0 0) false 33 0 (b_X9_reads_33 F_X9_here F_X9_readOrder F_X9_hold F_X9_doOrder F_X9_push J) :=
  s_push2 dX9_reads_33 (by decide) (by decide) <|
  s_aload_n dX9_reads_35 rfl <|
  s_get dX9_reads_36 (ci := 9) (sl := 32) (Cn := RX9) (Tf := TX9) (N := 40) rfl (by decide) kiX9 kw_35_11 <|
  s_isub dX9_reads_39 <|
  s_ireturn dX9_reads_40 rfl
noncomputable def b_X9_reads_0 (F_X9_here F_X9_readOrder F_X9_hold F_X9_doOrder F_X9_push : KF) (J : List KC) : KC := o_aload 0 <| o_push 0 <| o_puti 9 33 <| o_aload 0 <| o_push 4294967295 <| o_puti 9 34 <| o_aload 0 <| o_push 0 <| o_puti 9 35 <| o_aload 0 <| o_aload 0 <| o_get 9 0 <| o_push 0 <| o_iald <| o_puti 9 36 <| o_aload 0 <| o_cV1 1 9 F_X9_here <| o_push 4294967295 <| o_c2 Nat.beq (b_X9_reads_33 F_X9_here F_X9_readOrder F_X9_hold F_X9_doOrder F_X9_push J) (b_X9_reads_41 F_X9_here F_X9_readOrder F_X9_hold F_X9_doOrder F_X9_push J)
set_option maxRecDepth 100000 in
theorem s_X9_reads_0 {l : Launch} {D : va_G} {cI cS cM : ClassId} {F_X9_here F_X9_readOrder F_X9_hold F_X9_doOrder F_X9_push : KF} (h_X9_here : k_snd l D cI cS cM yX9_here cX9_here 1 (some .int) 1 1 F_X9_here) (h_X9_readOrder : k_snd l D cI cS cM yX9_readOrder cX9_readOrder 2 none 3 1 F_X9_readOrder) (h_X9_hold : k_snd l D cI cS cM yX9_hold cX9_hold 2 none 1 1 F_X9_hold) (h_X9_doOrder : k_snd l D cI cS cM yX9_doOrder cX9_doOrder 2 (some .int) 4 2 F_X9_doOrder) (h_X9_push : k_snd l D cI cS cM yX9_push cX9_push 2 none 1 1 F_X9_push) {J : List KC} (hJ : ∀ (i pc d : Nat), ([(41, 0), (86, 0), (104, 0)] : List (Nat × Nat))[i]? = some (pc, d) → KS l D cI cS cM yX9_reads.cls yX9_reads.name cX9_reads 3 (some .int) (k_rm 5 0 0) false pc d (k_jmp J i)) : KS l D cI cS cM yX9_reads.cls yX9_reads.name cX9_reads 3 (some .int) (k_rm 5 0 0) false 0 0 (b_X9_reads_0 F_X9_here F_X9_readOrder F_X9_hold F_X9_doOrder F_X9_push J) :=
  s_aload_n dX9_reads_0 rfl <|
  s_push1 dX9_reads_1 (by decide) (by decide) <|
  s_puti dX9_reads_2 (ci := 9) (sl := 33) (Cn := RX9) (Tf := TX9) (N := 40) (tyf := tyX9) rfl (by decide) kiX9 tyX9_ok nmX9 kw_37_15 rfl rfl <|
  s_aload_n dX9_reads_5 rfl <|
  s_push1 dX9_reads_6 (by decide) (by decide) <|
  s_puti dX9_reads_7 (ci := 9) (sl := 34) (Cn := RX9) (Tf := TX9) (N := 40) (tyf := tyX9) rfl (by decide) kiX9 tyX9_ok nmX9 kw_37_16 rfl rfl <|
  s_aload_n dX9_reads_10 rfl <|
  s_push1 dX9_reads_11 (by decide) (by decide) <|
  s_puti dX9_reads_12 (ci := 9) (sl := 35) (Cn := RX9) (Tf := TX9) (N := 40) (tyf := tyX9) rfl (by decide) kiX9 tyX9_ok nmX9 kw_37_17 rfl rfl <|
  s_aload_n dX9_reads_15 rfl <|
  s_aload_n dX9_reads_16 rfl <|
  s_get dX9_reads_17 (ci := 9) (sl := 0) (Cn := RX9) (Tf := TX9) (N := 40) rfl (by decide) kiX9 kw_6_16 <|
  s_push1 dX9_reads_20 (by decide) (by decide) <|
  s_iald dX9_reads_21 <|
  s_puti dX9_reads_22 (ci := 9) (sl := 36) (Cn := RX9) (Tf := TX9) (N := 40) (tyf := tyX9) rfl (by decide) kiX9 tyX9_ok nmX9 kw_37_18 rfl rfl <|
  s_aload_n dX9_reads_25 rfl <|
  s_callV1 dX9_reads_26 kw_37_19 kw_37_20 kw_37_21 (ci := 9) rfl ok_X9_here (by decide) (by decide) h_X9_here (by decide) <|
  s_push1 dX9_reads_29 (by decide) (by decide) <|
  s_icmp_ne dX9_reads_30 (by decide) (s_X9_reads_41 h_X9_here h_X9_readOrder h_X9_hold h_X9_doOrder h_X9_push hJ) (s_X9_reads_33 h_X9_here h_X9_readOrder h_X9_hold h_X9_doOrder h_X9_push hJ)
noncomputable def j_X9_reads (F_X9_here F_X9_readOrder F_X9_hold F_X9_doOrder F_X9_push : KF) (J : List KC) : List KC := [b_X9_reads_41 F_X9_here F_X9_readOrder F_X9_hold F_X9_doOrder F_X9_push J, b_X9_reads_86 F_X9_here F_X9_readOrder F_X9_hold F_X9_doOrder F_X9_push J, b_X9_reads_104 F_X9_here F_X9_readOrder F_X9_hold F_X9_doOrder F_X9_push J]
noncomputable def m_X9_reads (F_X9_here F_X9_readOrder F_X9_hold F_X9_doOrder F_X9_push : KF) (n : Nat) : KF := k_fun [k_u, k_u] (b_X9_reads_0 F_X9_here F_X9_readOrder F_X9_hold F_X9_doOrder F_X9_push (k_loop (j_X9_reads F_X9_here F_X9_readOrder F_X9_hold F_X9_doOrder F_X9_push) n))
theorem r_X9_reads {l : Launch} {D : va_G} {cI cS cM : ClassId} {F_X9_here F_X9_readOrder F_X9_hold F_X9_doOrder F_X9_push : KF} (h_X9_here : k_snd l D cI cS cM yX9_here cX9_here 1 (some .int) 1 1 F_X9_here) (h_X9_readOrder : k_snd l D cI cS cM yX9_readOrder cX9_readOrder 2 none 3 1 F_X9_readOrder) (h_X9_hold : k_snd l D cI cS cM yX9_hold cX9_hold 2 none 1 1 F_X9_hold) (h_X9_doOrder : k_snd l D cI cS cM yX9_doOrder cX9_doOrder 2 (some .int) 4 2 F_X9_doOrder) (h_X9_push : k_snd l D cI cS cM yX9_push cX9_push 2 none 1 1 F_X9_push) (n : Nat) : k_snd l D cI cS cM yX9_reads cX9_reads 3 (some .int) 5 1 (m_X9_reads F_X9_here F_X9_readOrder F_X9_hold F_X9_doOrder F_X9_push n) :=
  k_method (by decide +kernel) (by simp) rfl (s_X9_reads_0 h_X9_here h_X9_readOrder h_X9_hold h_X9_doOrder h_X9_push (k_loops (hs := [(41, 0), (86, 0), (104, 0)]) (fun J hJ i pc d h => match i, h with | 0, h => by cases h; exact s_X9_reads_41 h_X9_here h_X9_readOrder h_X9_hold h_X9_doOrder h_X9_push hJ | 1, h => by cases h; exact s_X9_reads_86 h_X9_here h_X9_readOrder h_X9_hold h_X9_doOrder h_X9_push hJ | 2, h => by cases h; exact s_X9_reads_104 h_X9_here h_X9_readOrder h_X9_hold h_X9_doOrder h_X9_push hJ | _ + 3, h => by simp at h) n))
noncomputable def b_X9_split_218 (F_X9_layGrid F_X9_plain F_X9_over : KF) (J : List KC) : KC := o_ret
set_option maxRecDepth 100000 in
theorem s_X9_split_218 {l : Launch} {D : va_G} {cI cS cM : ClassId} {F_X9_layGrid F_X9_plain F_X9_over : KF} (h_X9_layGrid : k_snd l D cI cS cM yX9_layGrid cX9_layGrid 9 none 2 4 F_X9_layGrid) (h_X9_plain : k_snd l D cI cS cM yX9_plain cX9_plain 5 none 4 2 F_X9_plain) (h_X9_over : k_snd l D cI cS cM yX9_over cX9_over 3 (some .int) 1 2 F_X9_over) {J : List KC} (hJ : ∀ (i pc d : Nat), ([(27, 0), (48, 0), (80, 0)] : List (Nat × Nat))[i]? = some (pc, d) → KS l D cI cS cM yX9_split.cls yX9_split.name cX9_split 10 none (k_rm 5 0 0) false pc d (k_jmp J i)) : KS l D cI cS cM yX9_split.cls yX9_split.name cX9_split 10 none (k_rm 5 0 0) false 218 0 (b_X9_split_218 F_X9_layGrid F_X9_plain F_X9_over J) :=
  s_return dX9_split_218 rfl
noncomputable def b_X9_split_197 (F_X9_layGrid F_X9_plain F_X9_over : KF) (J : List KC) : KC := o_aload 0 <| o_get 9 23 <| o_aload 0 <| o_get 9 22 <| o_iload 5 <| o_iast <| o_aload 0 <| o_dup <| o_get 9 22 <| o_push 1 <| o_bin n_add <| o_puti 9 22 <| b_X9_split_218 F_X9_layGrid F_X9_plain F_X9_over J
set_option maxRecDepth 100000 in
theorem s_X9_split_197 {l : Launch} {D : va_G} {cI cS cM : ClassId} {F_X9_layGrid F_X9_plain F_X9_over : KF} (h_X9_layGrid : k_snd l D cI cS cM yX9_layGrid cX9_layGrid 9 none 2 4 F_X9_layGrid) (h_X9_plain : k_snd l D cI cS cM yX9_plain cX9_plain 5 none 4 2 F_X9_plain) (h_X9_over : k_snd l D cI cS cM yX9_over cX9_over 3 (some .int) 1 2 F_X9_over) {J : List KC} (hJ : ∀ (i pc d : Nat), ([(27, 0), (48, 0), (80, 0)] : List (Nat × Nat))[i]? = some (pc, d) → KS l D cI cS cM yX9_split.cls yX9_split.name cX9_split 10 none (k_rm 5 0 0) false pc d (k_jmp J i)) : KS l D cI cS cM yX9_split.cls yX9_split.name cX9_split 10 none (k_rm 5 0 0) false 197 0 (b_X9_split_197 F_X9_layGrid F_X9_plain F_X9_over J) :=
  s_aload_n dX9_split_197 rfl <|
  s_get dX9_split_198 (ci := 9) (sl := 23) (Cn := RX9) (Tf := TX9) (N := 40) rfl (by decide) kiX9 kw_7_6 <|
  s_aload_n dX9_split_201 rfl <|
  s_get dX9_split_202 (ci := 9) (sl := 22) (Cn := RX9) (Tf := TX9) (N := 40) rfl (by decide) kiX9 kw_25_5 <|
  s_iload dX9_split_205 <|
  s_iast dX9_split_207 <|
  s_aload_n dX9_split_208 rfl <|
  s_dup dX9_split_209 <|
  s_get dX9_split_210 (ci := 9) (sl := 22) (Cn := RX9) (Tf := TX9) (N := 40) rfl (by decide) kiX9 kw_25_5 <|
  s_push1 dX9_split_213 (by decide) (by decide) <|
  s_iadd dX9_split_214 <|
  s_puti dX9_split_215 (ci := 9) (sl := 22) (Cn := RX9) (Tf := TX9) (N := 40) (tyf := tyX9) rfl (by decide) kiX9 tyX9_ok nmX9 kw_25_5 rfl rfl <|
  s_X9_split_218 h_X9_layGrid h_X9_plain h_X9_over hJ
noncomputable def b_X9_split_192 (F_X9_layGrid F_X9_plain F_X9_over : KF) (J : List KC) : KC := o_iload 5 <| o_c1 g_gt (b_X9_split_197 F_X9_layGrid F_X9_plain F_X9_over J) (b_X9_split_218 F_X9_layGrid F_X9_plain F_X9_over J)
set_option maxRecDepth 100000 in
theorem s_X9_split_192 {l : Launch} {D : va_G} {cI cS cM : ClassId} {F_X9_layGrid F_X9_plain F_X9_over : KF} (h_X9_layGrid : k_snd l D cI cS cM yX9_layGrid cX9_layGrid 9 none 2 4 F_X9_layGrid) (h_X9_plain : k_snd l D cI cS cM yX9_plain cX9_plain 5 none 4 2 F_X9_plain) (h_X9_over : k_snd l D cI cS cM yX9_over cX9_over 3 (some .int) 1 2 F_X9_over) {J : List KC} (hJ : ∀ (i pc d : Nat), ([(27, 0), (48, 0), (80, 0)] : List (Nat × Nat))[i]? = some (pc, d) → KS l D cI cS cM yX9_split.cls yX9_split.name cX9_split 10 none (k_rm 5 0 0) false pc d (k_jmp J i)) : KS l D cI cS cM yX9_split.cls yX9_split.name cX9_split 10 none (k_rm 5 0 0) false 192 0 (b_X9_split_192 F_X9_layGrid F_X9_plain F_X9_over J) :=
  s_iload dX9_split_192 <|
  s_if_le dX9_split_194 (by decide) (s_X9_split_218 h_X9_layGrid h_X9_plain h_X9_over hJ) (s_X9_split_197 h_X9_layGrid h_X9_plain h_X9_over hJ)
noncomputable def b_X9_split_186 (F_X9_layGrid F_X9_plain F_X9_over : KF) (J : List KC) : KC := o_iinc 6 1 <| k_jmp J 0
set_option maxRecDepth 100000 in
theorem s_X9_split_186 {l : Launch} {D : va_G} {cI cS cM : ClassId} {F_X9_layGrid F_X9_plain F_X9_over : KF} (h_X9_layGrid : k_snd l D cI cS cM yX9_layGrid cX9_layGrid 9 none 2 4 F_X9_layGrid) (h_X9_plain : k_snd l D cI cS cM yX9_plain cX9_plain 5 none 4 2 F_X9_plain) (h_X9_over : k_snd l D cI cS cM yX9_over cX9_over 3 (some .int) 1 2 F_X9_over) {J : List KC} (hJ : ∀ (i pc d : Nat), ([(27, 0), (48, 0), (80, 0)] : List (Nat × Nat))[i]? = some (pc, d) → KS l D cI cS cM yX9_split.cls yX9_split.name cX9_split 10 none (k_rm 5 0 0) false pc d (k_jmp J i)) : KS l D cI cS cM yX9_split.cls yX9_split.name cX9_split 10 none (k_rm 5 0 0) false 186 0 (b_X9_split_186 F_X9_layGrid F_X9_plain F_X9_over J) :=
  s_iinc dX9_split_186 (by decide) (by decide) <|
  s_goto dX9_split_189 (by decide) (hJ 0 _ _ rfl)
noncomputable def b_X9_split_183 (F_X9_layGrid F_X9_plain F_X9_over : KF) (J : List KC) : KC := o_iinc 5 1 <| b_X9_split_186 F_X9_layGrid F_X9_plain F_X9_over J
set_option maxRecDepth 100000 in
theorem s_X9_split_183 {l : Launch} {D : va_G} {cI cS cM : ClassId} {F_X9_layGrid F_X9_plain F_X9_over : KF} (h_X9_layGrid : k_snd l D cI cS cM yX9_layGrid cX9_layGrid 9 none 2 4 F_X9_layGrid) (h_X9_plain : k_snd l D cI cS cM yX9_plain cX9_plain 5 none 4 2 F_X9_plain) (h_X9_over : k_snd l D cI cS cM yX9_over cX9_over 3 (some .int) 1 2 F_X9_over) {J : List KC} (hJ : ∀ (i pc d : Nat), ([(27, 0), (48, 0), (80, 0)] : List (Nat × Nat))[i]? = some (pc, d) → KS l D cI cS cM yX9_split.cls yX9_split.name cX9_split 10 none (k_rm 5 0 0) false pc d (k_jmp J i)) : KS l D cI cS cM yX9_split.cls yX9_split.name cX9_split 10 none (k_rm 5 0 0) false 183 0 (b_X9_split_183 F_X9_layGrid F_X9_plain F_X9_over J) :=
  s_iinc dX9_split_183 (by decide) (by decide) <|
  s_X9_split_186 h_X9_layGrid h_X9_plain h_X9_over hJ
noncomputable def b_X9_split_150 (F_X9_layGrid F_X9_plain F_X9_over : KF) (J : List KC) : KC := o_aload 0 <| o_get 9 24 <| o_push 64 <| o_aload 0 <| o_get 9 22 <| o_bin n_mul <| o_push 8 <| o_iload 5 <| o_bin n_mul <| o_bin n_add <| o_iload 7 <| o_bin n_add <| o_aload 0 <| o_iload 8 <| o_cV1 2 9 F_X9_over <| o_iast <| o_iinc 7 1 <| k_jmp J 1
set_option maxRecDepth 100000 in
theorem s_X9_split_150 {l : Launch} {D : va_G} {cI cS cM : ClassId} {F_X9_layGrid F_X9_plain F_X9_over : KF} (h_X9_layGrid : k_snd l D cI cS cM yX9_layGrid cX9_layGrid 9 none 2 4 F_X9_layGrid) (h_X9_plain : k_snd l D cI cS cM yX9_plain cX9_plain 5 none 4 2 F_X9_plain) (h_X9_over : k_snd l D cI cS cM yX9_over cX9_over 3 (some .int) 1 2 F_X9_over) {J : List KC} (hJ : ∀ (i pc d : Nat), ([(27, 0), (48, 0), (80, 0)] : List (Nat × Nat))[i]? = some (pc, d) → KS l D cI cS cM yX9_split.cls yX9_split.name cX9_split 10 none (k_rm 5 0 0) false pc d (k_jmp J i)) : KS l D cI cS cM yX9_split.cls yX9_split.name cX9_split 10 none (k_rm 5 0 0) false 150 0 (b_X9_split_150 F_X9_layGrid F_X9_plain F_X9_over J) :=
  s_aload_n dX9_split_150 rfl <|
  s_get dX9_split_151 (ci := 9) (sl := 24) (Cn := RX9) (Tf := TX9) (N := 40) rfl (by decide) kiX9 kw_7_7 <|
  s_push2 dX9_split_154 (by decide) (by decide) <|
  s_aload_n dX9_split_156 rfl <|
  s_get dX9_split_157 (ci := 9) (sl := 22) (Cn := RX9) (Tf := TX9) (N := 40) rfl (by decide) kiX9 kw_25_5 <|
  s_imul dX9_split_160 <|
  s_push2 dX9_split_161 (by decide) (by decide) <|
  s_iload dX9_split_163 <|
  s_imul dX9_split_165 <|
  s_iadd dX9_split_166 <|
  s_iload dX9_split_167 <|
  s_iadd dX9_split_169 <|
  s_aload_n dX9_split_170 rfl <|
  s_iload dX9_split_171 <|
  s_callV1 dX9_split_173 kw_25_14 kw_25_15 kw_25_16 (ci := 9) rfl ok_X9_over (by decide) (by decide) h_X9_over (by decide) <|
  s_iast dX9_split_176 <|
  s_iinc dX9_split_177 (by decide) (by decide) <|
  s_goto dX9_split_180 (by decide) (hJ 1 _ _ rfl)
noncomputable def b_X9_split_141 (F_X9_layGrid F_X9_plain F_X9_over : KF) (J : List KC) : KC := o_bin n_sub <| o_istore 8 <| o_iinc 9 1 <| k_jmp J 2
set_option maxRecDepth 100000 in
theorem s_X9_split_141 {l : Launch} {D : va_G} {cI cS cM : ClassId} {F_X9_layGrid F_X9_plain F_X9_over : KF} (h_X9_layGrid : k_snd l D cI cS cM yX9_layGrid cX9_layGrid 9 none 2 4 F_X9_layGrid) (h_X9_plain : k_snd l D cI cS cM yX9_plain cX9_plain 5 none 4 2 F_X9_plain) (h_X9_over : k_snd l D cI cS cM yX9_over cX9_over 3 (some .int) 1 2 F_X9_over) {J : List KC} (hJ : ∀ (i pc d : Nat), ([(27, 0), (48, 0), (80, 0)] : List (Nat × Nat))[i]? = some (pc, d) → KS l D cI cS cM yX9_split.cls yX9_split.name cX9_split 10 none (k_rm 5 0 0) false pc d (k_jmp J i)) : KS l D cI cS cM yX9_split.cls yX9_split.name cX9_split 10 none (k_rm 5 0 0) false 141 2 (b_X9_split_141 F_X9_layGrid F_X9_plain F_X9_over J) :=
  s_isub dX9_split_141 <|
  s_istore dX9_split_142 (by decide) <|
  s_iinc dX9_split_144 (by decide) (by decide) <|
  s_goto dX9_split_147 (by decide) (hJ 2 _ _ rfl)
noncomputable def b_X9_split_104 (F_X9_layGrid F_X9_plain F_X9_over : KF) (J : List KC) : KC := o_aload 0 <| o_get 9 25 <| o_push 8 <| o_aload 0 <| o_get 9 26 <| o_iload 9 <| o_iald <| o_bin n_mul <| o_iload 6 <| o_bin n_add <| o_iald <| o_aload 0 <| o_get 9 21 <| o_push 64 <| o_iload 1 <| o_bin n_mul <| o_push 8 <| o_iload 9 <| o_bin n_mul <| o_bin n_add <| o_iload 7 <| o_bin n_add <| o_iald <| o_bin n_mul <| b_X9_split_141 F_X9_layGrid F_X9_plain F_X9_over J
set_option maxRecDepth 100000 in
theorem s_X9_split_104 {l : Launch} {D : va_G} {cI cS cM : ClassId} {F_X9_layGrid F_X9_plain F_X9_over : KF} (h_X9_layGrid : k_snd l D cI cS cM yX9_layGrid cX9_layGrid 9 none 2 4 F_X9_layGrid) (h_X9_plain : k_snd l D cI cS cM yX9_plain cX9_plain 5 none 4 2 F_X9_plain) (h_X9_over : k_snd l D cI cS cM yX9_over cX9_over 3 (some .int) 1 2 F_X9_over) {J : List KC} (hJ : ∀ (i pc d : Nat), ([(27, 0), (48, 0), (80, 0)] : List (Nat × Nat))[i]? = some (pc, d) → KS l D cI cS cM yX9_split.cls yX9_split.name cX9_split 10 none (k_rm 5 0 0) false pc d (k_jmp J i)) : KS l D cI cS cM yX9_split.cls yX9_split.name cX9_split 10 none (k_rm 5 0 0) false 104 1 (b_X9_split_104 F_X9_layGrid F_X9_plain F_X9_over J) :=
  s_aload_n dX9_split_104 rfl <|
  s_get dX9_split_105 (ci := 9) (sl := 25) (Cn := RX9) (Tf := TX9) (N := 40) rfl (by decide) kiX9 kw_7_8 <|
  s_push2 dX9_split_108 (by decide) (by decide) <|
  s_aload_n dX9_split_110 rfl <|
  s_get dX9_split_111 (ci := 9) (sl := 26) (Cn := RX9) (Tf := TX9) (N := 40) rfl (by decide) kiX9 kw_7_9 <|
  s_iload dX9_split_114 <|
  s_iald dX9_split_116 <|
  s_imul dX9_split_117 <|
  s_iload dX9_split_118 <|
  s_iadd dX9_split_120 <|
  s_iald dX9_split_121 <|
  s_aload_n dX9_split_122 rfl <|
  s_get dX9_split_123 (ci := 9) (sl := 21) (Cn := RX9) (Tf := TX9) (N := 40) rfl (by decide) kiX9 kw_7_5 <|
  s_push2 dX9_split_126 (by decide) (by decide) <|
  s_iload_n dX9_split_128 rfl <|
  s_imul dX9_split_129 <|
  s_push2 dX9_split_130 (by decide) (by decide) <|
  s_iload dX9_split_132 <|
  s_imul dX9_split_134 <|
  s_iadd dX9_split_135 <|
  s_iload dX9_split_136 <|
  s_iadd dX9_split_138 <|
  s_iald dX9_split_139 <|
  s_imul dX9_split_140 <|
  s_X9_split_141 h_X9_layGrid h_X9_plain h_X9_over hJ
noncomputable def b_X9_split_100 (F_X9_layGrid F_X9_plain F_X9_over : KF) (J : List KC) : KC := o_push 0 <| b_X9_split_141 F_X9_layGrid F_X9_plain F_X9_over J
set_option maxRecDepth 100000 in
theorem s_X9_split_100 {l : Launch} {D : va_G} {cI cS cM : ClassId} {F_X9_layGrid F_X9_plain F_X9_over : KF} (h_X9_layGrid : k_snd l D cI cS cM yX9_layGrid cX9_layGrid 9 none 2 4 F_X9_layGrid) (h_X9_plain : k_snd l D cI cS cM yX9_plain cX9_plain 5 none 4 2 F_X9_plain) (h_X9_over : k_snd l D cI cS cM yX9_over cX9_over 3 (some .int) 1 2 F_X9_over) {J : List KC} (hJ : ∀ (i pc d : Nat), ([(27, 0), (48, 0), (80, 0)] : List (Nat × Nat))[i]? = some (pc, d) → KS l D cI cS cM yX9_split.cls yX9_split.name cX9_split 10 none (k_rm 5 0 0) false pc d (k_jmp J i)) : KS l D cI cS cM yX9_split.cls yX9_split.name cX9_split 10 none (k_rm 5 0 0) false 100 1 (b_X9_split_100 F_X9_layGrid F_X9_plain F_X9_over J) :=
  s_push1 dX9_split_100 (by decide) (by decide) <|
  s_goto dX9_split_101 (by decide) (s_X9_split_141 h_X9_layGrid h_X9_plain h_X9_over hJ)
noncomputable def b_X9_split_87 (F_X9_layGrid F_X9_plain F_X9_over : KF) (J : List KC) : KC := o_iload 8 <| o_aload 0 <| o_get 9 26 <| o_iload 9 <| o_iald <| o_push 4294967295 <| o_c2 Nat.beq (b_X9_split_100 F_X9_layGrid F_X9_plain F_X9_over J) (b_X9_split_104 F_X9_layGrid F_X9_plain F_X9_over J)
set_option maxRecDepth 100000 in
theorem s_X9_split_87 {l : Launch} {D : va_G} {cI cS cM : ClassId} {F_X9_layGrid F_X9_plain F_X9_over : KF} (h_X9_layGrid : k_snd l D cI cS cM yX9_layGrid cX9_layGrid 9 none 2 4 F_X9_layGrid) (h_X9_plain : k_snd l D cI cS cM yX9_plain cX9_plain 5 none 4 2 F_X9_plain) (h_X9_over : k_snd l D cI cS cM yX9_over cX9_over 3 (some .int) 1 2 F_X9_over) {J : List KC} (hJ : ∀ (i pc d : Nat), ([(27, 0), (48, 0), (80, 0)] : List (Nat × Nat))[i]? = some (pc, d) → KS l D cI cS cM yX9_split.cls yX9_split.name cX9_split 10 none (k_rm 5 0 0) false pc d (k_jmp J i)) : KS l D cI cS cM yX9_split.cls yX9_split.name cX9_split 10 none (k_rm 5 0 0) false 87 0 (b_X9_split_87 F_X9_layGrid F_X9_plain F_X9_over J) :=
  s_iload dX9_split_87 <|
  s_aload_n dX9_split_89 rfl <|
  s_get dX9_split_90 (ci := 9) (sl := 26) (Cn := RX9) (Tf := TX9) (N := 40) rfl (by decide) kiX9 kw_7_9 <|
  s_iload dX9_split_93 <|
  s_iald dX9_split_95 <|
  s_push1 dX9_split_96 (by decide) (by decide) <|
  s_icmp_ne dX9_split_97 (by decide) (s_X9_split_104 h_X9_layGrid h_X9_plain h_X9_over hJ) (s_X9_split_100 h_X9_layGrid h_X9_plain h_X9_over hJ)
noncomputable def b_X9_split_80 (F_X9_layGrid F_X9_plain F_X9_over : KF) (J : List KC) : KC := o_iload 9 <| o_iload 4 <| o_c2 s_lt (b_X9_split_87 F_X9_layGrid F_X9_plain F_X9_over J) (b_X9_split_150 F_X9_layGrid F_X9_plain F_X9_over J)
set_option maxRecDepth 100000 in
theorem s_X9_split_80 {l : Launch} {D : va_G} {cI cS cM : ClassId} {F_X9_layGrid F_X9_plain F_X9_over : KF} (h_X9_layGrid : k_snd l D cI cS cM yX9_layGrid cX9_layGrid 9 none 2 4 F_X9_layGrid) (h_X9_plain : k_snd l D cI cS cM yX9_plain cX9_plain 5 none 4 2 F_X9_plain) (h_X9_over : k_snd l D cI cS cM yX9_over cX9_over 3 (some .int) 1 2 F_X9_over) {J : List KC} (hJ : ∀ (i pc d : Nat), ([(27, 0), (48, 0), (80, 0)] : List (Nat × Nat))[i]? = some (pc, d) → KS l D cI cS cM yX9_split.cls yX9_split.name cX9_split 10 none (k_rm 5 0 0) false pc d (k_jmp J i)) : KS l D cI cS cM yX9_split.cls yX9_split.name cX9_split 10 none (k_rm 5 0 0) false 80 0 (b_X9_split_80 F_X9_layGrid F_X9_plain F_X9_over J) :=
  s_iload dX9_split_80 <|
  s_iload dX9_split_82 <|
  s_icmp_ge dX9_split_84 (by decide) (s_X9_split_150 h_X9_layGrid h_X9_plain h_X9_over hJ) (s_X9_split_87 h_X9_layGrid h_X9_plain h_X9_over hJ)
noncomputable def b_X9_split_57 (F_X9_layGrid F_X9_plain F_X9_over : KF) (J : List KC) : KC := o_aload 0 <| o_get 9 21 <| o_push 64 <| o_iload 1 <| o_bin n_mul <| o_push 8 <| o_iload 6 <| o_bin n_mul <| o_bin n_add <| o_iload 7 <| o_bin n_add <| o_iald <| o_istore 8 <| o_push 0 <| o_istore 9 <| b_X9_split_80 F_X9_layGrid F_X9_plain F_X9_over J
set_option maxRecDepth 100000 in
theorem s_X9_split_57 {l : Launch} {D : va_G} {cI cS cM : ClassId} {F_X9_layGrid F_X9_plain F_X9_over : KF} (h_X9_layGrid : k_snd l D cI cS cM yX9_layGrid cX9_layGrid 9 none 2 4 F_X9_layGrid) (h_X9_plain : k_snd l D cI cS cM yX9_plain cX9_plain 5 none 4 2 F_X9_plain) (h_X9_over : k_snd l D cI cS cM yX9_over cX9_over 3 (some .int) 1 2 F_X9_over) {J : List KC} (hJ : ∀ (i pc d : Nat), ([(27, 0), (48, 0), (80, 0)] : List (Nat × Nat))[i]? = some (pc, d) → KS l D cI cS cM yX9_split.cls yX9_split.name cX9_split 10 none (k_rm 5 0 0) false pc d (k_jmp J i)) : KS l D cI cS cM yX9_split.cls yX9_split.name cX9_split 10 none (k_rm 5 0 0) false 57 0 (b_X9_split_57 F_X9_layGrid F_X9_plain F_X9_over J) :=
  s_aload_n dX9_split_57 rfl <|
  s_get dX9_split_58 (ci := 9) (sl := 21) (Cn := RX9) (Tf := TX9) (N := 40) rfl (by decide) kiX9 kw_7_5 <|
  s_push2 dX9_split_61 (by decide) (by decide) <|
  s_iload_n dX9_split_63 rfl <|
  s_imul dX9_split_64 <|
  s_push2 dX9_split_65 (by decide) (by decide) <|
  s_iload dX9_split_67 <|
  s_imul dX9_split_69 <|
  s_iadd dX9_split_70 <|
  s_iload dX9_split_71 <|
  s_iadd dX9_split_73 <|
  s_iald dX9_split_74 <|
  s_istore dX9_split_75 (by decide) <|
  s_push1 dX9_split_77 (by decide) (by decide) <|
  s_istore dX9_split_78 (by decide) <|
  s_X9_split_80 h_X9_layGrid h_X9_plain h_X9_over hJ
noncomputable def b_X9_split_48 (F_X9_layGrid F_X9_plain F_X9_over : KF) (J : List KC) : KC := o_iload 7 <| o_aload 0 <| o_get 9 12 <| o_c2 s_lt (b_X9_split_57 F_X9_layGrid F_X9_plain F_X9_over J) (b_X9_split_183 F_X9_layGrid F_X9_plain F_X9_over J)
set_option maxRecDepth 100000 in
theorem s_X9_split_48 {l : Launch} {D : va_G} {cI cS cM : ClassId} {F_X9_layGrid F_X9_plain F_X9_over : KF} (h_X9_layGrid : k_snd l D cI cS cM yX9_layGrid cX9_layGrid 9 none 2 4 F_X9_layGrid) (h_X9_plain : k_snd l D cI cS cM yX9_plain cX9_plain 5 none 4 2 F_X9_plain) (h_X9_over : k_snd l D cI cS cM yX9_over cX9_over 3 (some .int) 1 2 F_X9_over) {J : List KC} (hJ : ∀ (i pc d : Nat), ([(27, 0), (48, 0), (80, 0)] : List (Nat × Nat))[i]? = some (pc, d) → KS l D cI cS cM yX9_split.cls yX9_split.name cX9_split 10 none (k_rm 5 0 0) false pc d (k_jmp J i)) : KS l D cI cS cM yX9_split.cls yX9_split.name cX9_split 10 none (k_rm 5 0 0) false 48 0 (b_X9_split_48 F_X9_layGrid F_X9_plain F_X9_over J) :=
  s_iload dX9_split_48 <|
  s_aload_n dX9_split_50 rfl <|
  s_get dX9_split_51 (ci := 9) (sl := 12) (Cn := RX9) (Tf := TX9) (N := 40) rfl (by decide) kiX9 kw_22_14 <|
  s_icmp_ge dX9_split_54 (by decide) (s_X9_split_183 h_X9_layGrid h_X9_plain h_X9_over hJ) (s_X9_split_57 h_X9_layGrid h_X9_plain h_X9_over hJ)
noncomputable def b_X9_split_45 (F_X9_layGrid F_X9_plain F_X9_over : KF) (J : List KC) : KC := o_push 0 <| o_istore 7 <| b_X9_split_48 F_X9_layGrid F_X9_plain F_X9_over J
set_option maxRecDepth 100000 in
theorem s_X9_split_45 {l : Launch} {D : va_G} {cI cS cM : ClassId} {F_X9_layGrid F_X9_plain F_X9_over : KF} (h_X9_layGrid : k_snd l D cI cS cM yX9_layGrid cX9_layGrid 9 none 2 4 F_X9_layGrid) (h_X9_plain : k_snd l D cI cS cM yX9_plain cX9_plain 5 none 4 2 F_X9_plain) (h_X9_over : k_snd l D cI cS cM yX9_over cX9_over 3 (some .int) 1 2 F_X9_over) {J : List KC} (hJ : ∀ (i pc d : Nat), ([(27, 0), (48, 0), (80, 0)] : List (Nat × Nat))[i]? = some (pc, d) → KS l D cI cS cM yX9_split.cls yX9_split.name cX9_split 10 none (k_rm 5 0 0) false pc d (k_jmp J i)) : KS l D cI cS cM yX9_split.cls yX9_split.name cX9_split 10 none (k_rm 5 0 0) false 45 0 (b_X9_split_45 F_X9_layGrid F_X9_plain F_X9_over J) :=
  s_push1 dX9_split_45 (by decide) (by decide) <|
  s_istore dX9_split_46 (by decide) <|
  s_X9_split_48 h_X9_layGrid h_X9_plain h_X9_over hJ
noncomputable def b_X9_split_34 (F_X9_layGrid F_X9_plain F_X9_over : KF) (J : List KC) : KC := o_aload 0 <| o_get 9 26 <| o_iload 6 <| o_iald <| o_push 4294967295 <| o_c2 Nat.beq (b_X9_split_45 F_X9_layGrid F_X9_plain F_X9_over J) (b_X9_split_186 F_X9_layGrid F_X9_plain F_X9_over J)
set_option maxRecDepth 100000 in
theorem s_X9_split_34 {l : Launch} {D : va_G} {cI cS cM : ClassId} {F_X9_layGrid F_X9_plain F_X9_over : KF} (h_X9_layGrid : k_snd l D cI cS cM yX9_layGrid cX9_layGrid 9 none 2 4 F_X9_layGrid) (h_X9_plain : k_snd l D cI cS cM yX9_plain cX9_plain 5 none 4 2 F_X9_plain) (h_X9_over : k_snd l D cI cS cM yX9_over cX9_over 3 (some .int) 1 2 F_X9_over) {J : List KC} (hJ : ∀ (i pc d : Nat), ([(27, 0), (48, 0), (80, 0)] : List (Nat × Nat))[i]? = some (pc, d) → KS l D cI cS cM yX9_split.cls yX9_split.name cX9_split 10 none (k_rm 5 0 0) false pc d (k_jmp J i)) : KS l D cI cS cM yX9_split.cls yX9_split.name cX9_split 10 none (k_rm 5 0 0) false 34 0 (b_X9_split_34 F_X9_layGrid F_X9_plain F_X9_over J) :=
  s_aload_n dX9_split_34 rfl <|
  s_get dX9_split_35 (ci := 9) (sl := 26) (Cn := RX9) (Tf := TX9) (N := 40) rfl (by decide) kiX9 kw_7_9 <|
  s_iload dX9_split_38 <|
  s_iald dX9_split_40 <|
  s_push1 dX9_split_41 (by decide) (by decide) <|
  s_icmp_ne dX9_split_42 (by decide) (s_X9_split_186 h_X9_layGrid h_X9_plain h_X9_over hJ) (s_X9_split_45 h_X9_layGrid h_X9_plain h_X9_over hJ)
noncomputable def b_X9_split_27 (F_X9_layGrid F_X9_plain F_X9_over : KF) (J : List KC) : KC := o_iload 6 <| o_iload 4 <| o_c2 s_lt (b_X9_split_34 F_X9_layGrid F_X9_plain F_X9_over J) (b_X9_split_192 F_X9_layGrid F_X9_plain F_X9_over J)
set_option maxRecDepth 100000 in
theorem s_X9_split_27 {l : Launch} {D : va_G} {cI cS cM : ClassId} {F_X9_layGrid F_X9_plain F_X9_over : KF} (h_X9_layGrid : k_snd l D cI cS cM yX9_layGrid cX9_layGrid 9 none 2 4 F_X9_layGrid) (h_X9_plain : k_snd l D cI cS cM yX9_plain cX9_plain 5 none 4 2 F_X9_plain) (h_X9_over : k_snd l D cI cS cM yX9_over cX9_over 3 (some .int) 1 2 F_X9_over) {J : List KC} (hJ : ∀ (i pc d : Nat), ([(27, 0), (48, 0), (80, 0)] : List (Nat × Nat))[i]? = some (pc, d) → KS l D cI cS cM yX9_split.cls yX9_split.name cX9_split 10 none (k_rm 5 0 0) false pc d (k_jmp J i)) : KS l D cI cS cM yX9_split.cls yX9_split.name cX9_split 10 none (k_rm 5 0 0) false 27 0 (b_X9_split_27 F_X9_layGrid F_X9_plain F_X9_over J) :=
  s_iload dX9_split_27 <|
  s_iload dX9_split_29 <|
  s_icmp_ge dX9_split_31 (by decide) (s_X9_split_192 h_X9_layGrid h_X9_plain h_X9_over hJ) (s_X9_split_34 h_X9_layGrid h_X9_plain h_X9_over hJ)
noncomputable def b_X9_split_0 (F_X9_layGrid F_X9_plain F_X9_over : KF) (J : List KC) : KC := o_aload 0 <| o_get 9 20 <| o_iload 1 <| o_iald <| o_istore 4 <| o_aload 0 <| o_iload 1 <| o_iload 2 <| o_iload 3 <| o_cV0 4 9 F_X9_layGrid <| o_aload 0 <| o_iload 4 <| o_cV0 2 9 F_X9_plain <| o_push 0 <| o_istore 5 <| o_push 0 <| o_istore 6 <| b_X9_split_27 F_X9_layGrid F_X9_plain F_X9_over J
set_option maxRecDepth 100000 in
theorem s_X9_split_0 {l : Launch} {D : va_G} {cI cS cM : ClassId} {F_X9_layGrid F_X9_plain F_X9_over : KF} (h_X9_layGrid : k_snd l D cI cS cM yX9_layGrid cX9_layGrid 9 none 2 4 F_X9_layGrid) (h_X9_plain : k_snd l D cI cS cM yX9_plain cX9_plain 5 none 4 2 F_X9_plain) (h_X9_over : k_snd l D cI cS cM yX9_over cX9_over 3 (some .int) 1 2 F_X9_over) {J : List KC} (hJ : ∀ (i pc d : Nat), ([(27, 0), (48, 0), (80, 0)] : List (Nat × Nat))[i]? = some (pc, d) → KS l D cI cS cM yX9_split.cls yX9_split.name cX9_split 10 none (k_rm 5 0 0) false pc d (k_jmp J i)) : KS l D cI cS cM yX9_split.cls yX9_split.name cX9_split 10 none (k_rm 5 0 0) false 0 0 (b_X9_split_0 F_X9_layGrid F_X9_plain F_X9_over J) :=
  s_aload_n dX9_split_0 rfl <|
  s_get dX9_split_1 (ci := 9) (sl := 20) (Cn := RX9) (Tf := TX9) (N := 40) rfl (by decide) kiX9 kw_7_4 <|
  s_iload_n dX9_split_4 rfl <|
  s_iald dX9_split_5 <|
  s_istore dX9_split_6 (by decide) <|
  s_aload_n dX9_split_8 rfl <|
  s_iload_n dX9_split_9 rfl <|
  s_iload_n dX9_split_10 rfl <|
  s_iload_n dX9_split_11 rfl <|
  s_callV0 dX9_split_12 kw_25_10 kw_25_11 kw_25_12 (ci := 9) rfl ok_X9_layGrid (by decide) (by decide) h_X9_layGrid (by decide) <|
  s_aload_n dX9_split_15 rfl <|
  s_iload dX9_split_16 <|
  s_callV0 dX9_split_18 kw_25_18 kw_25_19 kw_25_20 (ci := 9) rfl ok_X9_plain (by decide) (by decide) h_X9_plain (by decide) <|
  s_push1 dX9_split_21 (by decide) (by decide) <|
  s_istore dX9_split_22 (by decide) <|
  s_push1 dX9_split_24 (by decide) (by decide) <|
  s_istore dX9_split_25 (by decide) <|
  s_X9_split_27 h_X9_layGrid h_X9_plain h_X9_over hJ
noncomputable def j_X9_split (F_X9_layGrid F_X9_plain F_X9_over : KF) (J : List KC) : List KC := [b_X9_split_27 F_X9_layGrid F_X9_plain F_X9_over J, b_X9_split_48 F_X9_layGrid F_X9_plain F_X9_over J, b_X9_split_80 F_X9_layGrid F_X9_plain F_X9_over J]
noncomputable def m_X9_split (F_X9_layGrid F_X9_plain F_X9_over : KF) (n : Nat) : KF := k_fun [k_u, k_u, k_u, k_u, k_u, k_u] (b_X9_split_0 F_X9_layGrid F_X9_plain F_X9_over (k_loop (j_X9_split F_X9_layGrid F_X9_plain F_X9_over) n))
theorem r_X9_split {l : Launch} {D : va_G} {cI cS cM : ClassId} {F_X9_layGrid F_X9_plain F_X9_over : KF} (h_X9_layGrid : k_snd l D cI cS cM yX9_layGrid cX9_layGrid 9 none 2 4 F_X9_layGrid) (h_X9_plain : k_snd l D cI cS cM yX9_plain cX9_plain 5 none 4 2 F_X9_plain) (h_X9_over : k_snd l D cI cS cM yX9_over cX9_over 3 (some .int) 1 2 F_X9_over) (n : Nat) : k_snd l D cI cS cM yX9_split cX9_split 10 none 5 4 (m_X9_split F_X9_layGrid F_X9_plain F_X9_over n) :=
  k_method (by decide +kernel) (by simp) rfl (s_X9_split_0 h_X9_layGrid h_X9_plain h_X9_over (k_loops (hs := [(27, 0), (48, 0), (80, 0)]) (fun J hJ i pc d h => match i, h with | 0, h => by cases h; exact s_X9_split_27 h_X9_layGrid h_X9_plain h_X9_over hJ | 1, h => by cases h; exact s_X9_split_48 h_X9_layGrid h_X9_plain h_X9_over hJ | 2, h => by cases h; exact s_X9_split_80 h_X9_layGrid h_X9_plain h_X9_over hJ | _ + 3, h => by simp at h) n))
noncomputable def b_X9_findSpreads_211 (F_X9_split : KF) (J : List KC) : KC := o_ret
set_option maxRecDepth 100000 in
theorem s_X9_findSpreads_211 {l : Launch} {D : va_G} {cI cS cM : ClassId} {F_X9_split : KF} (h_X9_split : k_snd l D cI cS cM yX9_split cX9_split 10 none 5 4 F_X9_split) {J : List KC} (hJ : ∀ (i pc d : Nat), ([(17, 0), (27, 0), (70, 0), (96, 0), (106, 0), (154, 0), (181, 0)] : List (Nat × Nat))[i]? = some (pc, d) → KS l D cI cS cM yX9_findSpreads.cls yX9_findSpreads.name cX9_findSpreads 4 none (k_rm 6 0 0) false pc d (k_jmp J i)) : KS l D cI cS cM yX9_findSpreads.cls yX9_findSpreads.name cX9_findSpreads 4 none (k_rm 6 0 0) false 211 0 (b_X9_findSpreads_211 F_X9_split J) :=
  s_return dX9_findSpreads_211 rfl
noncomputable def b_X9_findSpreads_205 (F_X9_split : KF) (J : List KC) : KC := o_iinc 1 1 <| k_jmp J 2
set_option maxRecDepth 100000 in
theorem s_X9_findSpreads_205 {l : Launch} {D : va_G} {cI cS cM : ClassId} {F_X9_split : KF} (h_X9_split : k_snd l D cI cS cM yX9_split cX9_split 10 none 5 4 F_X9_split) {J : List KC} (hJ : ∀ (i pc d : Nat), ([(17, 0), (27, 0), (70, 0), (96, 0), (106, 0), (154, 0), (181, 0)] : List (Nat × Nat))[i]? = some (pc, d) → KS l D cI cS cM yX9_findSpreads.cls yX9_findSpreads.name cX9_findSpreads 4 none (k_rm 6 0 0) false pc d (k_jmp J i)) : KS l D cI cS cM yX9_findSpreads.cls yX9_findSpreads.name cX9_findSpreads 4 none (k_rm 6 0 0) false 205 0 (b_X9_findSpreads_205 F_X9_split J) :=
  s_iinc dX9_findSpreads_205 (by decide) (by decide) <|
  s_goto dX9_findSpreads_208 (by decide) (hJ 2 _ _ rfl)
noncomputable def b_X9_findSpreads_187 (F_X9_split : KF) (J : List KC) : KC := o_aload 0 <| o_get 9 20 <| o_iload 2 <| o_aload 0 <| o_get 9 23 <| o_iload 2 <| o_iald <| o_iast <| o_iinc 2 1 <| k_jmp J 6
set_option maxRecDepth 100000 in
theorem s_X9_findSpreads_187 {l : Launch} {D : va_G} {cI cS cM : ClassId} {F_X9_split : KF} (h_X9_split : k_snd l D cI cS cM yX9_split cX9_split 10 none 5 4 F_X9_split) {J : List KC} (hJ : ∀ (i pc d : Nat), ([(17, 0), (27, 0), (70, 0), (96, 0), (106, 0), (154, 0), (181, 0)] : List (Nat × Nat))[i]? = some (pc, d) → KS l D cI cS cM yX9_findSpreads.cls yX9_findSpreads.name cX9_findSpreads 4 none (k_rm 6 0 0) false pc d (k_jmp J i)) : KS l D cI cS cM yX9_findSpreads.cls yX9_findSpreads.name cX9_findSpreads 4 none (k_rm 6 0 0) false 187 0 (b_X9_findSpreads_187 F_X9_split J) :=
  s_aload_n dX9_findSpreads_187 rfl <|
  s_get dX9_findSpreads_188 (ci := 9) (sl := 20) (Cn := RX9) (Tf := TX9) (N := 40) rfl (by decide) kiX9 kw_7_4 <|
  s_iload_n dX9_findSpreads_191 rfl <|
  s_aload_n dX9_findSpreads_192 rfl <|
  s_get dX9_findSpreads_193 (ci := 9) (sl := 23) (Cn := RX9) (Tf := TX9) (N := 40) rfl (by decide) kiX9 kw_7_6 <|
  s_iload_n dX9_findSpreads_196 rfl <|
  s_iald dX9_findSpreads_197 <|
  s_iast dX9_findSpreads_198 <|
  s_iinc dX9_findSpreads_199 (by decide) (by decide) <|
  s_goto dX9_findSpreads_202 (by decide) (hJ 6 _ _ rfl)
noncomputable def b_X9_findSpreads_181 (F_X9_split : KF) (J : List KC) : KC := o_iload 2 <| o_push 8 <| o_c2 s_lt (b_X9_findSpreads_187 F_X9_split J) (b_X9_findSpreads_205 F_X9_split J)
set_option maxRecDepth 100000 in
theorem s_X9_findSpreads_181 {l : Launch} {D : va_G} {cI cS cM : ClassId} {F_X9_split : KF} (h_X9_split : k_snd l D cI cS cM yX9_split cX9_split 10 none 5 4 F_X9_split) {J : List KC} (hJ : ∀ (i pc d : Nat), ([(17, 0), (27, 0), (70, 0), (96, 0), (106, 0), (154, 0), (181, 0)] : List (Nat × Nat))[i]? = some (pc, d) → KS l D cI cS cM yX9_findSpreads.cls yX9_findSpreads.name cX9_findSpreads 4 none (k_rm 6 0 0) false pc d (k_jmp J i)) : KS l D cI cS cM yX9_findSpreads.cls yX9_findSpreads.name cX9_findSpreads 4 none (k_rm 6 0 0) false 181 0 (b_X9_findSpreads_181 F_X9_split J) :=
  s_iload_n dX9_findSpreads_181 rfl <|
  s_push2 dX9_findSpreads_182 (by decide) (by decide) <|
  s_icmp_ge dX9_findSpreads_184 (by decide) (s_X9_findSpreads_205 h_X9_split hJ) (s_X9_findSpreads_187 h_X9_split hJ)
noncomputable def b_X9_findSpreads_179 (F_X9_split : KF) (J : List KC) : KC := o_push 0 <| o_istore 2 <| b_X9_findSpreads_181 F_X9_split J
set_option maxRecDepth 100000 in
theorem s_X9_findSpreads_179 {l : Launch} {D : va_G} {cI cS cM : ClassId} {F_X9_split : KF} (h_X9_split : k_snd l D cI cS cM yX9_split cX9_split 10 none 5 4 F_X9_split) {J : List KC} (hJ : ∀ (i pc d : Nat), ([(17, 0), (27, 0), (70, 0), (96, 0), (106, 0), (154, 0), (181, 0)] : List (Nat × Nat))[i]? = some (pc, d) → KS l D cI cS cM yX9_findSpreads.cls yX9_findSpreads.name cX9_findSpreads 4 none (k_rm 6 0 0) false pc d (k_jmp J i)) : KS l D cI cS cM yX9_findSpreads.cls yX9_findSpreads.name cX9_findSpreads 4 none (k_rm 6 0 0) false 179 0 (b_X9_findSpreads_179 F_X9_split J) :=
  s_push1 dX9_findSpreads_179 (by decide) (by decide) <|
  s_istore_n dX9_findSpreads_180 rfl (by decide) <|
  s_X9_findSpreads_181 h_X9_split hJ
noncomputable def b_X9_findSpreads_161 (F_X9_split : KF) (J : List KC) : KC := o_aload 0 <| o_get 9 21 <| o_iload 2 <| o_aload 0 <| o_get 9 24 <| o_iload 2 <| o_iald <| o_iast <| o_iinc 2 1 <| k_jmp J 5
set_option maxRecDepth 100000 in
theorem s_X9_findSpreads_161 {l : Launch} {D : va_G} {cI cS cM : ClassId} {F_X9_split : KF} (h_X9_split : k_snd l D cI cS cM yX9_split cX9_split 10 none 5 4 F_X9_split) {J : List KC} (hJ : ∀ (i pc d : Nat), ([(17, 0), (27, 0), (70, 0), (96, 0), (106, 0), (154, 0), (181, 0)] : List (Nat × Nat))[i]? = some (pc, d) → KS l D cI cS cM yX9_findSpreads.cls yX9_findSpreads.name cX9_findSpreads 4 none (k_rm 6 0 0) false pc d (k_jmp J i)) : KS l D cI cS cM yX9_findSpreads.cls yX9_findSpreads.name cX9_findSpreads 4 none (k_rm 6 0 0) false 161 0 (b_X9_findSpreads_161 F_X9_split J) :=
  s_aload_n dX9_findSpreads_161 rfl <|
  s_get dX9_findSpreads_162 (ci := 9) (sl := 21) (Cn := RX9) (Tf := TX9) (N := 40) rfl (by decide) kiX9 kw_7_5 <|
  s_iload_n dX9_findSpreads_165 rfl <|
  s_aload_n dX9_findSpreads_166 rfl <|
  s_get dX9_findSpreads_167 (ci := 9) (sl := 24) (Cn := RX9) (Tf := TX9) (N := 40) rfl (by decide) kiX9 kw_7_7 <|
  s_iload_n dX9_findSpreads_170 rfl <|
  s_iald dX9_findSpreads_171 <|
  s_iast dX9_findSpreads_172 <|
  s_iinc dX9_findSpreads_173 (by decide) (by decide) <|
  s_goto dX9_findSpreads_176 (by decide) (hJ 5 _ _ rfl)
noncomputable def b_X9_findSpreads_154 (F_X9_split : KF) (J : List KC) : KC := o_iload 2 <| o_push 512 <| o_c2 s_lt (b_X9_findSpreads_161 F_X9_split J) (b_X9_findSpreads_179 F_X9_split J)
set_option maxRecDepth 100000 in
theorem s_X9_findSpreads_154 {l : Launch} {D : va_G} {cI cS cM : ClassId} {F_X9_split : KF} (h_X9_split : k_snd l D cI cS cM yX9_split cX9_split 10 none 5 4 F_X9_split) {J : List KC} (hJ : ∀ (i pc d : Nat), ([(17, 0), (27, 0), (70, 0), (96, 0), (106, 0), (154, 0), (181, 0)] : List (Nat × Nat))[i]? = some (pc, d) → KS l D cI cS cM yX9_findSpreads.cls yX9_findSpreads.name cX9_findSpreads 4 none (k_rm 6 0 0) false pc d (k_jmp J i)) : KS l D cI cS cM yX9_findSpreads.cls yX9_findSpreads.name cX9_findSpreads 4 none (k_rm 6 0 0) false 154 0 (b_X9_findSpreads_154 F_X9_split J) :=
  s_iload_n dX9_findSpreads_154 rfl <|
  s_push3 dX9_findSpreads_155 (by decide) (by decide) <|
  s_icmp_ge dX9_findSpreads_158 (by decide) (s_X9_findSpreads_179 h_X9_split hJ) (s_X9_findSpreads_161 h_X9_split hJ)
noncomputable def b_X9_findSpreads_144 (F_X9_split : KF) (J : List KC) : KC := o_aload 0 <| o_aload 0 <| o_get 9 22 <| o_puti 9 19 <| o_push 0 <| o_istore 2 <| b_X9_findSpreads_154 F_X9_split J
set_option maxRecDepth 100000 in
theorem s_X9_findSpreads_144 {l : Launch} {D : va_G} {cI cS cM : ClassId} {F_X9_split : KF} (h_X9_split : k_snd l D cI cS cM yX9_split cX9_split 10 none 5 4 F_X9_split) {J : List KC} (hJ : ∀ (i pc d : Nat), ([(17, 0), (27, 0), (70, 0), (96, 0), (106, 0), (154, 0), (181, 0)] : List (Nat × Nat))[i]? = some (pc, d) → KS l D cI cS cM yX9_findSpreads.cls yX9_findSpreads.name cX9_findSpreads 4 none (k_rm 6 0 0) false pc d (k_jmp J i)) : KS l D cI cS cM yX9_findSpreads.cls yX9_findSpreads.name cX9_findSpreads 4 none (k_rm 6 0 0) false 144 0 (b_X9_findSpreads_144 F_X9_split J) :=
  s_aload_n dX9_findSpreads_144 rfl <|
  s_aload_n dX9_findSpreads_145 rfl <|
  s_get dX9_findSpreads_146 (ci := 9) (sl := 22) (Cn := RX9) (Tf := TX9) (N := 40) rfl (by decide) kiX9 kw_25_5 <|
  s_puti dX9_findSpreads_149 (ci := 9) (sl := 19) (Cn := RX9) (Tf := TX9) (N := 40) (tyf := tyX9) rfl (by decide) kiX9 tyX9_ok nmX9 kw_25_4 rfl rfl <|
  s_push1 dX9_findSpreads_152 (by decide) (by decide) <|
  s_istore_n dX9_findSpreads_153 rfl (by decide) <|
  s_X9_findSpreads_154 h_X9_split hJ
noncomputable def b_X9_findSpreads_138 (F_X9_split : KF) (J : List KC) : KC := o_iinc 2 1 <| k_jmp J 3
set_option maxRecDepth 100000 in
theorem s_X9_findSpreads_138 {l : Launch} {D : va_G} {cI cS cM : ClassId} {F_X9_split : KF} (h_X9_split : k_snd l D cI cS cM yX9_split cX9_split 10 none 5 4 F_X9_split) {J : List KC} (hJ : ∀ (i pc d : Nat), ([(17, 0), (27, 0), (70, 0), (96, 0), (106, 0), (154, 0), (181, 0)] : List (Nat × Nat))[i]? = some (pc, d) → KS l D cI cS cM yX9_findSpreads.cls yX9_findSpreads.name cX9_findSpreads 4 none (k_rm 6 0 0) false pc d (k_jmp J i)) : KS l D cI cS cM yX9_findSpreads.cls yX9_findSpreads.name cX9_findSpreads 4 none (k_rm 6 0 0) false 138 0 (b_X9_findSpreads_138 F_X9_split J) :=
  s_iinc dX9_findSpreads_138 (by decide) (by decide) <|
  s_goto dX9_findSpreads_141 (by decide) (hJ 3 _ _ rfl)
noncomputable def b_X9_findSpreads_125 (F_X9_split : KF) (J : List KC) : KC := o_aload 0 <| o_iload 2 <| o_iload 1 <| o_iload 3 <| o_cV0 4 9 F_X9_split <| o_iinc 3 1 <| k_jmp J 4
set_option maxRecDepth 100000 in
theorem s_X9_findSpreads_125 {l : Launch} {D : va_G} {cI cS cM : ClassId} {F_X9_split : KF} (h_X9_split : k_snd l D cI cS cM yX9_split cX9_split 10 none 5 4 F_X9_split) {J : List KC} (hJ : ∀ (i pc d : Nat), ([(17, 0), (27, 0), (70, 0), (96, 0), (106, 0), (154, 0), (181, 0)] : List (Nat × Nat))[i]? = some (pc, d) → KS l D cI cS cM yX9_findSpreads.cls yX9_findSpreads.name cX9_findSpreads 4 none (k_rm 6 0 0) false pc d (k_jmp J i)) : KS l D cI cS cM yX9_findSpreads.cls yX9_findSpreads.name cX9_findSpreads 4 none (k_rm 6 0 0) false 125 0 (b_X9_findSpreads_125 F_X9_split J) :=
  s_aload_n dX9_findSpreads_125 rfl <|
  s_iload_n dX9_findSpreads_126 rfl <|
  s_iload_n dX9_findSpreads_127 rfl <|
  s_iload_n dX9_findSpreads_128 rfl <|
  s_callV0 dX9_findSpreads_129 kw_25_6 kw_25_7 kw_25_8 (ci := 9) rfl ok_X9_split (by decide) (by decide) h_X9_split (by decide) <|
  s_iinc dX9_findSpreads_132 (by decide) (by decide) <|
  s_goto dX9_findSpreads_135 (by decide) (hJ 4 _ _ rfl)
noncomputable def b_X9_findSpreads_114 (F_X9_split : KF) (J : List KC) : KC := o_aload 0 <| o_get 9 22 <| o_aload 0 <| o_get 9 12 <| o_c2 s_lt (b_X9_findSpreads_125 F_X9_split J) (b_X9_findSpreads_138 F_X9_split J)
set_option maxRecDepth 100000 in
theorem s_X9_findSpreads_114 {l : Launch} {D : va_G} {cI cS cM : ClassId} {F_X9_split : KF} (h_X9_split : k_snd l D cI cS cM yX9_split cX9_split 10 none 5 4 F_X9_split) {J : List KC} (hJ : ∀ (i pc d : Nat), ([(17, 0), (27, 0), (70, 0), (96, 0), (106, 0), (154, 0), (181, 0)] : List (Nat × Nat))[i]? = some (pc, d) → KS l D cI cS cM yX9_findSpreads.cls yX9_findSpreads.name cX9_findSpreads 4 none (k_rm 6 0 0) false pc d (k_jmp J i)) : KS l D cI cS cM yX9_findSpreads.cls yX9_findSpreads.name cX9_findSpreads 4 none (k_rm 6 0 0) false 114 0 (b_X9_findSpreads_114 F_X9_split J) :=
  s_aload_n dX9_findSpreads_114 rfl <|
  s_get dX9_findSpreads_115 (ci := 9) (sl := 22) (Cn := RX9) (Tf := TX9) (N := 40) rfl (by decide) kiX9 kw_25_5 <|
  s_aload_n dX9_findSpreads_118 rfl <|
  s_get dX9_findSpreads_119 (ci := 9) (sl := 12) (Cn := RX9) (Tf := TX9) (N := 40) rfl (by decide) kiX9 kw_22_14 <|
  s_icmp_ge dX9_findSpreads_122 (by decide) (s_X9_findSpreads_138 h_X9_split hJ) (s_X9_findSpreads_125 h_X9_split hJ)
noncomputable def b_X9_findSpreads_106 (F_X9_split : KF) (J : List KC) : KC := o_iload 3 <| o_aload 0 <| o_get 9 16 <| o_c2 s_lt (b_X9_findSpreads_114 F_X9_split J) (b_X9_findSpreads_138 F_X9_split J)
set_option maxRecDepth 100000 in
theorem s_X9_findSpreads_106 {l : Launch} {D : va_G} {cI cS cM : ClassId} {F_X9_split : KF} (h_X9_split : k_snd l D cI cS cM yX9_split cX9_split 10 none 5 4 F_X9_split) {J : List KC} (hJ : ∀ (i pc d : Nat), ([(17, 0), (27, 0), (70, 0), (96, 0), (106, 0), (154, 0), (181, 0)] : List (Nat × Nat))[i]? = some (pc, d) → KS l D cI cS cM yX9_findSpreads.cls yX9_findSpreads.name cX9_findSpreads 4 none (k_rm 6 0 0) false pc d (k_jmp J i)) : KS l D cI cS cM yX9_findSpreads.cls yX9_findSpreads.name cX9_findSpreads 4 none (k_rm 6 0 0) false 106 0 (b_X9_findSpreads_106 F_X9_split J) :=
  s_iload_n dX9_findSpreads_106 rfl <|
  s_aload_n dX9_findSpreads_107 rfl <|
  s_get dX9_findSpreads_108 (ci := 9) (sl := 16) (Cn := RX9) (Tf := TX9) (N := 40) rfl (by decide) kiX9 kw_22_16 <|
  s_icmp_ge dX9_findSpreads_111 (by decide) (s_X9_findSpreads_138 h_X9_split hJ) (s_X9_findSpreads_114 h_X9_split hJ)
noncomputable def b_X9_findSpreads_104 (F_X9_split : KF) (J : List KC) : KC := o_push 0 <| o_istore 3 <| b_X9_findSpreads_106 F_X9_split J
set_option maxRecDepth 100000 in
theorem s_X9_findSpreads_104 {l : Launch} {D : va_G} {cI cS cM : ClassId} {F_X9_split : KF} (h_X9_split : k_snd l D cI cS cM yX9_split cX9_split 10 none 5 4 F_X9_split) {J : List KC} (hJ : ∀ (i pc d : Nat), ([(17, 0), (27, 0), (70, 0), (96, 0), (106, 0), (154, 0), (181, 0)] : List (Nat × Nat))[i]? = some (pc, d) → KS l D cI cS cM yX9_findSpreads.cls yX9_findSpreads.name cX9_findSpreads 4 none (k_rm 6 0 0) false pc d (k_jmp J i)) : KS l D cI cS cM yX9_findSpreads.cls yX9_findSpreads.name cX9_findSpreads 4 none (k_rm 6 0 0) false 104 0 (b_X9_findSpreads_104 F_X9_split J) :=
  s_push1 dX9_findSpreads_104 (by decide) (by decide) <|
  s_istore_n dX9_findSpreads_105 rfl (by decide) <|
  s_X9_findSpreads_106 h_X9_split hJ
noncomputable def b_X9_findSpreads_96 (F_X9_split : KF) (J : List KC) : KC := o_iload 2 <| o_aload 0 <| o_get 9 19 <| o_c2 s_lt (b_X9_findSpreads_104 F_X9_split J) (b_X9_findSpreads_144 F_X9_split J)
set_option maxRecDepth 100000 in
theorem s_X9_findSpreads_96 {l : Launch} {D : va_G} {cI cS cM : ClassId} {F_X9_split : KF} (h_X9_split : k_snd l D cI cS cM yX9_split cX9_split 10 none 5 4 F_X9_split) {J : List KC} (hJ : ∀ (i pc d : Nat), ([(17, 0), (27, 0), (70, 0), (96, 0), (106, 0), (154, 0), (181, 0)] : List (Nat × Nat))[i]? = some (pc, d) → KS l D cI cS cM yX9_findSpreads.cls yX9_findSpreads.name cX9_findSpreads 4 none (k_rm 6 0 0) false pc d (k_jmp J i)) : KS l D cI cS cM yX9_findSpreads.cls yX9_findSpreads.name cX9_findSpreads 4 none (k_rm 6 0 0) false 96 0 (b_X9_findSpreads_96 F_X9_split J) :=
  s_iload_n dX9_findSpreads_96 rfl <|
  s_aload_n dX9_findSpreads_97 rfl <|
  s_get dX9_findSpreads_98 (ci := 9) (sl := 19) (Cn := RX9) (Tf := TX9) (N := 40) rfl (by decide) kiX9 kw_25_4 <|
  s_icmp_ge dX9_findSpreads_101 (by decide) (s_X9_findSpreads_144 h_X9_split hJ) (s_X9_findSpreads_104 h_X9_split hJ)
noncomputable def b_X9_findSpreads_89 (F_X9_split : KF) (J : List KC) : KC := o_aload 0 <| o_push 0 <| o_puti 9 22 <| o_push 0 <| o_istore 2 <| b_X9_findSpreads_96 F_X9_split J
set_option maxRecDepth 100000 in
theorem s_X9_findSpreads_89 {l : Launch} {D : va_G} {cI cS cM : ClassId} {F_X9_split : KF} (h_X9_split : k_snd l D cI cS cM yX9_split cX9_split 10 none 5 4 F_X9_split) {J : List KC} (hJ : ∀ (i pc d : Nat), ([(17, 0), (27, 0), (70, 0), (96, 0), (106, 0), (154, 0), (181, 0)] : List (Nat × Nat))[i]? = some (pc, d) → KS l D cI cS cM yX9_findSpreads.cls yX9_findSpreads.name cX9_findSpreads 4 none (k_rm 6 0 0) false pc d (k_jmp J i)) : KS l D cI cS cM yX9_findSpreads.cls yX9_findSpreads.name cX9_findSpreads 4 none (k_rm 6 0 0) false 89 0 (b_X9_findSpreads_89 F_X9_split J) :=
  s_aload_n dX9_findSpreads_89 rfl <|
  s_push1 dX9_findSpreads_90 (by decide) (by decide) <|
  s_puti dX9_findSpreads_91 (ci := 9) (sl := 22) (Cn := RX9) (Tf := TX9) (N := 40) (tyf := tyX9) rfl (by decide) kiX9 tyX9_ok nmX9 kw_25_5 rfl rfl <|
  s_push1 dX9_findSpreads_94 (by decide) (by decide) <|
  s_istore_n dX9_findSpreads_95 rfl (by decide) <|
  s_X9_findSpreads_96 h_X9_split hJ
noncomputable def b_X9_findSpreads_78 (F_X9_split : KF) (J : List KC) : KC := o_aload 0 <| o_get 9 19 <| o_aload 0 <| o_get 9 12 <| o_c2 s_lt (b_X9_findSpreads_89 F_X9_split J) (b_X9_findSpreads_211 F_X9_split J)
set_option maxRecDepth 100000 in
theorem s_X9_findSpreads_78 {l : Launch} {D : va_G} {cI cS cM : ClassId} {F_X9_split : KF} (h_X9_split : k_snd l D cI cS cM yX9_split cX9_split 10 none 5 4 F_X9_split) {J : List KC} (hJ : ∀ (i pc d : Nat), ([(17, 0), (27, 0), (70, 0), (96, 0), (106, 0), (154, 0), (181, 0)] : List (Nat × Nat))[i]? = some (pc, d) → KS l D cI cS cM yX9_findSpreads.cls yX9_findSpreads.name cX9_findSpreads 4 none (k_rm 6 0 0) false pc d (k_jmp J i)) : KS l D cI cS cM yX9_findSpreads.cls yX9_findSpreads.name cX9_findSpreads 4 none (k_rm 6 0 0) false 78 0 (b_X9_findSpreads_78 F_X9_split J) :=
  s_aload_n dX9_findSpreads_78 rfl <|
  s_get dX9_findSpreads_79 (ci := 9) (sl := 19) (Cn := RX9) (Tf := TX9) (N := 40) rfl (by decide) kiX9 kw_25_4 <|
  s_aload_n dX9_findSpreads_82 rfl <|
  s_get dX9_findSpreads_83 (ci := 9) (sl := 12) (Cn := RX9) (Tf := TX9) (N := 40) rfl (by decide) kiX9 kw_22_14 <|
  s_icmp_ge dX9_findSpreads_86 (by decide) (s_X9_findSpreads_211 h_X9_split hJ) (s_X9_findSpreads_89 h_X9_split hJ)
noncomputable def b_X9_findSpreads_70 (F_X9_split : KF) (J : List KC) : KC := o_iload 1 <| o_aload 0 <| o_get 9 12 <| o_c2 s_lt (b_X9_findSpreads_78 F_X9_split J) (b_X9_findSpreads_211 F_X9_split J)
set_option maxRecDepth 100000 in
theorem s_X9_findSpreads_70 {l : Launch} {D : va_G} {cI cS cM : ClassId} {F_X9_split : KF} (h_X9_split : k_snd l D cI cS cM yX9_split cX9_split 10 none 5 4 F_X9_split) {J : List KC} (hJ : ∀ (i pc d : Nat), ([(17, 0), (27, 0), (70, 0), (96, 0), (106, 0), (154, 0), (181, 0)] : List (Nat × Nat))[i]? = some (pc, d) → KS l D cI cS cM yX9_findSpreads.cls yX9_findSpreads.name cX9_findSpreads 4 none (k_rm 6 0 0) false pc d (k_jmp J i)) : KS l D cI cS cM yX9_findSpreads.cls yX9_findSpreads.name cX9_findSpreads 4 none (k_rm 6 0 0) false 70 0 (b_X9_findSpreads_70 F_X9_split J) :=
  s_iload_n dX9_findSpreads_70 rfl <|
  s_aload_n dX9_findSpreads_71 rfl <|
  s_get dX9_findSpreads_72 (ci := 9) (sl := 12) (Cn := RX9) (Tf := TX9) (N := 40) rfl (by decide) kiX9 kw_22_14 <|
  s_icmp_ge dX9_findSpreads_75 (by decide) (s_X9_findSpreads_211 h_X9_split hJ) (s_X9_findSpreads_78 h_X9_split hJ)
noncomputable def b_X9_findSpreads_68 (F_X9_split : KF) (J : List KC) : KC := o_push 1 <| o_istore 1 <| b_X9_findSpreads_70 F_X9_split J
set_option maxRecDepth 100000 in
theorem s_X9_findSpreads_68 {l : Launch} {D : va_G} {cI cS cM : ClassId} {F_X9_split : KF} (h_X9_split : k_snd l D cI cS cM yX9_split cX9_split 10 none 5 4 F_X9_split) {J : List KC} (hJ : ∀ (i pc d : Nat), ([(17, 0), (27, 0), (70, 0), (96, 0), (106, 0), (154, 0), (181, 0)] : List (Nat × Nat))[i]? = some (pc, d) → KS l D cI cS cM yX9_findSpreads.cls yX9_findSpreads.name cX9_findSpreads 4 none (k_rm 6 0 0) false pc d (k_jmp J i)) : KS l D cI cS cM yX9_findSpreads.cls yX9_findSpreads.name cX9_findSpreads 4 none (k_rm 6 0 0) false 68 0 (b_X9_findSpreads_68 F_X9_split J) :=
  s_push1 dX9_findSpreads_68 (by decide) (by decide) <|
  s_istore_n dX9_findSpreads_69 rfl (by decide) <|
  s_X9_findSpreads_70 h_X9_split hJ
noncomputable def b_X9_findSpreads_62 (F_X9_split : KF) (J : List KC) : KC := o_iinc 1 1 <| k_jmp J 0
set_option maxRecDepth 100000 in
theorem s_X9_findSpreads_62 {l : Launch} {D : va_G} {cI cS cM : ClassId} {F_X9_split : KF} (h_X9_split : k_snd l D cI cS cM yX9_split cX9_split 10 none 5 4 F_X9_split) {J : List KC} (hJ : ∀ (i pc d : Nat), ([(17, 0), (27, 0), (70, 0), (96, 0), (106, 0), (154, 0), (181, 0)] : List (Nat × Nat))[i]? = some (pc, d) → KS l D cI cS cM yX9_findSpreads.cls yX9_findSpreads.name cX9_findSpreads 4 none (k_rm 6 0 0) false pc d (k_jmp J i)) : KS l D cI cS cM yX9_findSpreads.cls yX9_findSpreads.name cX9_findSpreads 4 none (k_rm 6 0 0) false 62 0 (b_X9_findSpreads_62 F_X9_split J) :=
  s_iinc dX9_findSpreads_62 (by decide) (by decide) <|
  s_goto dX9_findSpreads_65 (by decide) (hJ 0 _ _ rfl)
noncomputable def b_X9_findSpreads_55 (F_X9_split : KF) (J : List KC) : KC := o_iast <| o_iinc 2 1 <| k_jmp J 1
set_option maxRecDepth 100000 in
theorem s_X9_findSpreads_55 {l : Launch} {D : va_G} {cI cS cM : ClassId} {F_X9_split : KF} (h_X9_split : k_snd l D cI cS cM yX9_split cX9_split 10 none 5 4 F_X9_split) {J : List KC} (hJ : ∀ (i pc d : Nat), ([(17, 0), (27, 0), (70, 0), (96, 0), (106, 0), (154, 0), (181, 0)] : List (Nat × Nat))[i]? = some (pc, d) → KS l D cI cS cM yX9_findSpreads.cls yX9_findSpreads.name cX9_findSpreads 4 none (k_rm 6 0 0) false pc d (k_jmp J i)) : KS l D cI cS cM yX9_findSpreads.cls yX9_findSpreads.name cX9_findSpreads 4 none (k_rm 6 0 0) false 55 3 (b_X9_findSpreads_55 F_X9_split J) :=
  s_iast dX9_findSpreads_55 <|
  s_iinc dX9_findSpreads_56 (by decide) (by decide) <|
  s_goto dX9_findSpreads_59 (by decide) (hJ 1 _ _ rfl)
noncomputable def b_X9_findSpreads_54 (F_X9_split : KF) (J : List KC) : KC := o_push 0 <| b_X9_findSpreads_55 F_X9_split J
set_option maxRecDepth 100000 in
theorem s_X9_findSpreads_54 {l : Launch} {D : va_G} {cI cS cM : ClassId} {F_X9_split : KF} (h_X9_split : k_snd l D cI cS cM yX9_split cX9_split 10 none 5 4 F_X9_split) {J : List KC} (hJ : ∀ (i pc d : Nat), ([(17, 0), (27, 0), (70, 0), (96, 0), (106, 0), (154, 0), (181, 0)] : List (Nat × Nat))[i]? = some (pc, d) → KS l D cI cS cM yX9_findSpreads.cls yX9_findSpreads.name cX9_findSpreads 4 none (k_rm 6 0 0) false pc d (k_jmp J i)) : KS l D cI cS cM yX9_findSpreads.cls yX9_findSpreads.name cX9_findSpreads 4 none (k_rm 6 0 0) false 54 2 (b_X9_findSpreads_54 F_X9_split J) :=
  s_push1 dX9_findSpreads_54 (by decide) (by decide) <|
  s_X9_findSpreads_55 h_X9_split hJ
noncomputable def b_X9_findSpreads_50 (F_X9_split : KF) (J : List KC) : KC := o_push 1 <| b_X9_findSpreads_55 F_X9_split J
set_option maxRecDepth 100000 in
theorem s_X9_findSpreads_50 {l : Launch} {D : va_G} {cI cS cM : ClassId} {F_X9_split : KF} (h_X9_split : k_snd l D cI cS cM yX9_split cX9_split 10 none 5 4 F_X9_split) {J : List KC} (hJ : ∀ (i pc d : Nat), ([(17, 0), (27, 0), (70, 0), (96, 0), (106, 0), (154, 0), (181, 0)] : List (Nat × Nat))[i]? = some (pc, d) → KS l D cI cS cM yX9_findSpreads.cls yX9_findSpreads.name cX9_findSpreads 4 none (k_rm 6 0 0) false pc d (k_jmp J i)) : KS l D cI cS cM yX9_findSpreads.cls yX9_findSpreads.name cX9_findSpreads 4 none (k_rm 6 0 0) false 50 2 (b_X9_findSpreads_50 F_X9_split J) :=
  s_push1 dX9_findSpreads_50 (by decide) (by decide) <|
  s_goto dX9_findSpreads_51 (by decide) (s_X9_findSpreads_55 h_X9_split hJ)
noncomputable def b_X9_findSpreads_35 (F_X9_split : KF) (J : List KC) : KC := o_aload 0 <| o_get 9 21 <| o_push 8 <| o_iload 1 <| o_bin n_mul <| o_iload 2 <| o_bin n_add <| o_iload 1 <| o_iload 2 <| o_c2 Nat.beq (b_X9_findSpreads_50 F_X9_split J) (b_X9_findSpreads_54 F_X9_split J)
set_option maxRecDepth 100000 in
theorem s_X9_findSpreads_35 {l : Launch} {D : va_G} {cI cS cM : ClassId} {F_X9_split : KF} (h_X9_split : k_snd l D cI cS cM yX9_split cX9_split 10 none 5 4 F_X9_split) {J : List KC} (hJ : ∀ (i pc d : Nat), ([(17, 0), (27, 0), (70, 0), (96, 0), (106, 0), (154, 0), (181, 0)] : List (Nat × Nat))[i]? = some (pc, d) → KS l D cI cS cM yX9_findSpreads.cls yX9_findSpreads.name cX9_findSpreads 4 none (k_rm 6 0 0) false pc d (k_jmp J i)) : KS l D cI cS cM yX9_findSpreads.cls yX9_findSpreads.name cX9_findSpreads 4 none (k_rm 6 0 0) false 35 0 (b_X9_findSpreads_35 F_X9_split J) :=
  s_aload_n dX9_findSpreads_35 rfl <|
  s_get dX9_findSpreads_36 (ci := 9) (sl := 21) (Cn := RX9) (Tf := TX9) (N := 40) rfl (by decide) kiX9 kw_7_5 <|
  s_push2 dX9_findSpreads_39 (by decide) (by decide) <|
  s_iload_n dX9_findSpreads_41 rfl <|
  s_imul dX9_findSpreads_42 <|
  s_iload_n dX9_findSpreads_43 rfl <|
  s_iadd dX9_findSpreads_44 <|
  s_iload_n dX9_findSpreads_45 rfl <|
  s_iload_n dX9_findSpreads_46 rfl <|
  s_icmp_ne dX9_findSpreads_47 (by decide) (s_X9_findSpreads_54 h_X9_split hJ) (s_X9_findSpreads_50 h_X9_split hJ)
noncomputable def b_X9_findSpreads_27 (F_X9_split : KF) (J : List KC) : KC := o_iload 2 <| o_aload 0 <| o_get 9 12 <| o_c2 s_lt (b_X9_findSpreads_35 F_X9_split J) (b_X9_findSpreads_62 F_X9_split J)
set_option maxRecDepth 100000 in
theorem s_X9_findSpreads_27 {l : Launch} {D : va_G} {cI cS cM : ClassId} {F_X9_split : KF} (h_X9_split : k_snd l D cI cS cM yX9_split cX9_split 10 none 5 4 F_X9_split) {J : List KC} (hJ : ∀ (i pc d : Nat), ([(17, 0), (27, 0), (70, 0), (96, 0), (106, 0), (154, 0), (181, 0)] : List (Nat × Nat))[i]? = some (pc, d) → KS l D cI cS cM yX9_findSpreads.cls yX9_findSpreads.name cX9_findSpreads 4 none (k_rm 6 0 0) false pc d (k_jmp J i)) : KS l D cI cS cM yX9_findSpreads.cls yX9_findSpreads.name cX9_findSpreads 4 none (k_rm 6 0 0) false 27 0 (b_X9_findSpreads_27 F_X9_split J) :=
  s_iload_n dX9_findSpreads_27 rfl <|
  s_aload_n dX9_findSpreads_28 rfl <|
  s_get dX9_findSpreads_29 (ci := 9) (sl := 12) (Cn := RX9) (Tf := TX9) (N := 40) rfl (by decide) kiX9 kw_22_14 <|
  s_icmp_ge dX9_findSpreads_32 (by decide) (s_X9_findSpreads_62 h_X9_split hJ) (s_X9_findSpreads_35 h_X9_split hJ)
noncomputable def b_X9_findSpreads_25 (F_X9_split : KF) (J : List KC) : KC := o_push 0 <| o_istore 2 <| b_X9_findSpreads_27 F_X9_split J
set_option maxRecDepth 100000 in
theorem s_X9_findSpreads_25 {l : Launch} {D : va_G} {cI cS cM : ClassId} {F_X9_split : KF} (h_X9_split : k_snd l D cI cS cM yX9_split cX9_split 10 none 5 4 F_X9_split) {J : List KC} (hJ : ∀ (i pc d : Nat), ([(17, 0), (27, 0), (70, 0), (96, 0), (106, 0), (154, 0), (181, 0)] : List (Nat × Nat))[i]? = some (pc, d) → KS l D cI cS cM yX9_findSpreads.cls yX9_findSpreads.name cX9_findSpreads 4 none (k_rm 6 0 0) false pc d (k_jmp J i)) : KS l D cI cS cM yX9_findSpreads.cls yX9_findSpreads.name cX9_findSpreads 4 none (k_rm 6 0 0) false 25 0 (b_X9_findSpreads_25 F_X9_split J) :=
  s_push1 dX9_findSpreads_25 (by decide) (by decide) <|
  s_istore_n dX9_findSpreads_26 rfl (by decide) <|
  s_X9_findSpreads_27 h_X9_split hJ
noncomputable def b_X9_findSpreads_17 (F_X9_split : KF) (J : List KC) : KC := o_iload 1 <| o_aload 0 <| o_get 9 12 <| o_c2 s_lt (b_X9_findSpreads_25 F_X9_split J) (b_X9_findSpreads_68 F_X9_split J)
set_option maxRecDepth 100000 in
theorem s_X9_findSpreads_17 {l : Launch} {D : va_G} {cI cS cM : ClassId} {F_X9_split : KF} (h_X9_split : k_snd l D cI cS cM yX9_split cX9_split 10 none 5 4 F_X9_split) {J : List KC} (hJ : ∀ (i pc d : Nat), ([(17, 0), (27, 0), (70, 0), (96, 0), (106, 0), (154, 0), (181, 0)] : List (Nat × Nat))[i]? = some (pc, d) → KS l D cI cS cM yX9_findSpreads.cls yX9_findSpreads.name cX9_findSpreads 4 none (k_rm 6 0 0) false pc d (k_jmp J i)) : KS l D cI cS cM yX9_findSpreads.cls yX9_findSpreads.name cX9_findSpreads 4 none (k_rm 6 0 0) false 17 0 (b_X9_findSpreads_17 F_X9_split J) :=
  s_iload_n dX9_findSpreads_17 rfl <|
  s_aload_n dX9_findSpreads_18 rfl <|
  s_get dX9_findSpreads_19 (ci := 9) (sl := 12) (Cn := RX9) (Tf := TX9) (N := 40) rfl (by decide) kiX9 kw_22_14 <|
  s_icmp_ge dX9_findSpreads_22 (by decide) (s_X9_findSpreads_68 h_X9_split hJ) (s_X9_findSpreads_25 h_X9_split hJ)
noncomputable def b_X9_findSpreads_0 (F_X9_split : KF) (J : List KC) : KC := o_aload 0 <| o_push 1 <| o_puti 9 19 <| o_aload 0 <| o_get 9 20 <| o_push 0 <| o_aload 0 <| o_get 9 12 <| o_iast <| o_push 0 <| o_istore 1 <| b_X9_findSpreads_17 F_X9_split J
set_option maxRecDepth 100000 in
theorem s_X9_findSpreads_0 {l : Launch} {D : va_G} {cI cS cM : ClassId} {F_X9_split : KF} (h_X9_split : k_snd l D cI cS cM yX9_split cX9_split 10 none 5 4 F_X9_split) {J : List KC} (hJ : ∀ (i pc d : Nat), ([(17, 0), (27, 0), (70, 0), (96, 0), (106, 0), (154, 0), (181, 0)] : List (Nat × Nat))[i]? = some (pc, d) → KS l D cI cS cM yX9_findSpreads.cls yX9_findSpreads.name cX9_findSpreads 4 none (k_rm 6 0 0) false pc d (k_jmp J i)) : KS l D cI cS cM yX9_findSpreads.cls yX9_findSpreads.name cX9_findSpreads 4 none (k_rm 6 0 0) false 0 0 (b_X9_findSpreads_0 F_X9_split J) :=
  s_aload_n dX9_findSpreads_0 rfl <|
  s_push1 dX9_findSpreads_1 (by decide) (by decide) <|
  s_puti dX9_findSpreads_2 (ci := 9) (sl := 19) (Cn := RX9) (Tf := TX9) (N := 40) (tyf := tyX9) rfl (by decide) kiX9 tyX9_ok nmX9 kw_25_4 rfl rfl <|
  s_aload_n dX9_findSpreads_5 rfl <|
  s_get dX9_findSpreads_6 (ci := 9) (sl := 20) (Cn := RX9) (Tf := TX9) (N := 40) rfl (by decide) kiX9 kw_7_4 <|
  s_push1 dX9_findSpreads_9 (by decide) (by decide) <|
  s_aload_n dX9_findSpreads_10 rfl <|
  s_get dX9_findSpreads_11 (ci := 9) (sl := 12) (Cn := RX9) (Tf := TX9) (N := 40) rfl (by decide) kiX9 kw_22_14 <|
  s_iast dX9_findSpreads_14 <|
  s_push1 dX9_findSpreads_15 (by decide) (by decide) <|
  s_istore_n dX9_findSpreads_16 rfl (by decide) <|
  s_X9_findSpreads_17 h_X9_split hJ
noncomputable def j_X9_findSpreads (F_X9_split : KF) (J : List KC) : List KC := [b_X9_findSpreads_17 F_X9_split J, b_X9_findSpreads_27 F_X9_split J, b_X9_findSpreads_70 F_X9_split J, b_X9_findSpreads_96 F_X9_split J, b_X9_findSpreads_106 F_X9_split J, b_X9_findSpreads_154 F_X9_split J, b_X9_findSpreads_181 F_X9_split J]
noncomputable def m_X9_findSpreads (F_X9_split : KF) (n : Nat) : KF := k_fun [k_u, k_u, k_u] (b_X9_findSpreads_0 F_X9_split (k_loop (j_X9_findSpreads F_X9_split) n))
theorem r_X9_findSpreads {l : Launch} {D : va_G} {cI cS cM : ClassId} {F_X9_split : KF} (h_X9_split : k_snd l D cI cS cM yX9_split cX9_split 10 none 5 4 F_X9_split) (n : Nat) : k_snd l D cI cS cM yX9_findSpreads cX9_findSpreads 4 none 6 1 (m_X9_findSpreads F_X9_split n) :=
  k_method (by decide +kernel) (by simp) rfl (s_X9_findSpreads_0 h_X9_split (k_loops (hs := [(17, 0), (27, 0), (70, 0), (96, 0), (106, 0), (154, 0), (181, 0)]) (fun J hJ i pc d h => match i, h with | 0, h => by cases h; exact s_X9_findSpreads_17 h_X9_split hJ | 1, h => by cases h; exact s_X9_findSpreads_27 h_X9_split hJ | 2, h => by cases h; exact s_X9_findSpreads_70 h_X9_split hJ | 3, h => by cases h; exact s_X9_findSpreads_96 h_X9_split hJ | 4, h => by cases h; exact s_X9_findSpreads_106 h_X9_split hJ | 5, h => by cases h; exact s_X9_findSpreads_154 h_X9_split hJ | 6, h => by cases h; exact s_X9_findSpreads_181 h_X9_split hJ | _ + 7, h => by simp at h) n))
noncomputable def b_X9_lay_8 (F_X9_findElements F_X9_findTurns F_X9_findSorts F_X9_findPrime F_X9_findTimes F_X9_findSpreads F_X9_findRows : KF) : KC := o_aload 0 <| o_push 1 <| o_putz 9 5 <| o_aload 0 <| o_cV0 1 9 F_X9_findElements <| o_aload 0 <| o_cV0 1 9 F_X9_findTurns <| o_aload 0 <| o_cV0 1 9 F_X9_findSorts <| o_aload 0 <| o_cV0 1 9 F_X9_findPrime <| o_aload 0 <| o_cV0 1 9 F_X9_findTimes <| o_aload 0 <| o_cV0 1 9 F_X9_findSpreads <| o_aload 0 <| o_cV0 1 9 F_X9_findRows <| o_ret
set_option maxRecDepth 100000 in
theorem s_X9_lay_8 {l : Launch} {D : va_G} {cI cS cM : ClassId} {F_X9_findElements F_X9_findTurns F_X9_findSorts F_X9_findPrime F_X9_findTimes F_X9_findSpreads F_X9_findRows : KF} (h_X9_findElements : k_snd l D cI cS cM yX9_findElements cX9_findElements 4 none 3 1 F_X9_findElements) (h_X9_findTurns : k_snd l D cI cS cM yX9_findTurns cX9_findTurns 5 none 2 1 F_X9_findTurns) (h_X9_findSorts : k_snd l D cI cS cM yX9_findSorts cX9_findSorts 4 none 2 1 F_X9_findSorts) (h_X9_findPrime : k_snd l D cI cS cM yX9_findPrime cX9_findPrime 3 none 2 1 F_X9_findPrime) (h_X9_findTimes : k_snd l D cI cS cM yX9_findTimes cX9_findTimes 4 none 2 1 F_X9_findTimes) (h_X9_findSpreads : k_snd l D cI cS cM yX9_findSpreads cX9_findSpreads 4 none 6 1 F_X9_findSpreads) (h_X9_findRows : k_snd l D cI cS cM yX9_findRows cX9_findRows 3 none 4 1 F_X9_findRows) : KS l D cI cS cM yX9_lay.cls yX9_lay.name cX9_lay 1 none (k_rm 7 0 0) false 8 0 (b_X9_lay_8 F_X9_findElements F_X9_findTurns F_X9_findSorts F_X9_findPrime F_X9_findTimes F_X9_findSpreads F_X9_findRows) :=
  s_aload_n dX9_lay_8 rfl <|
  s_push1 dX9_lay_9 (by decide) (by decide) <|
  s_putz dX9_lay_10 (ci := 9) (sl := 5) (Cn := RX9) (Tf := TX9) (N := 40) (tyf := tyX9) rfl (by decide) kiX9 tyX9_ok nmX9 kw_9_17 rfl rfl <|
  s_aload_n dX9_lay_13 rfl <|
  s_callV0 dX9_lay_14 kw_22_22 kw_22_23 kw_23_0 (ci := 9) rfl ok_X9_findElements (by decide) (by decide) h_X9_findElements (by decide) <|
  s_aload_n dX9_lay_17 rfl <|
  s_callV0 dX9_lay_18 kw_23_14 kw_23_15 kw_23_16 (ci := 9) rfl ok_X9_findTurns (by decide) (by decide) h_X9_findTurns (by decide) <|
  s_aload_n dX9_lay_21 rfl <|
  s_callV0 dX9_lay_22 kw_23_22 kw_23_23 kw_24_0 (ci := 9) rfl ok_X9_findSorts (by decide) (by decide) h_X9_findSorts (by decide) <|
  s_aload_n dX9_lay_25 rfl <|
  s_callV0 dX9_lay_26 kw_24_2 kw_24_3 kw_24_4 (ci := 9) rfl ok_X9_findPrime (by decide) (by decide) h_X9_findPrime (by decide) <|
  s_aload_n dX9_lay_29 rfl <|
  s_callV0 dX9_lay_30 kw_24_20 kw_24_21 kw_24_22 (ci := 9) rfl ok_X9_findTimes (by decide) (by decide) h_X9_findTimes (by decide) <|
  s_aload_n dX9_lay_33 rfl <|
  s_callV0 dX9_lay_34 kw_25_0 kw_25_1 kw_25_2 (ci := 9) rfl ok_X9_findSpreads (by decide) (by decide) h_X9_findSpreads (by decide) <|
  s_aload_n dX9_lay_37 rfl <|
  s_callV0 dX9_lay_38 kw_26_6 kw_26_7 kw_26_8 (ci := 9) rfl ok_X9_findRows (by decide) (by decide) h_X9_findRows (by decide) <|
  s_return dX9_lay_41 rfl
noncomputable def b_X9_lay_7 (F_X9_findElements F_X9_findTurns F_X9_findSorts F_X9_findPrime F_X9_findTimes F_X9_findSpreads F_X9_findRows : KF) : KC := o_ret
set_option maxRecDepth 100000 in
theorem s_X9_lay_7 {l : Launch} {D : va_G} {cI cS cM : ClassId} {F_X9_findElements F_X9_findTurns F_X9_findSorts F_X9_findPrime F_X9_findTimes F_X9_findSpreads F_X9_findRows : KF} (h_X9_findElements : k_snd l D cI cS cM yX9_findElements cX9_findElements 4 none 3 1 F_X9_findElements) (h_X9_findTurns : k_snd l D cI cS cM yX9_findTurns cX9_findTurns 5 none 2 1 F_X9_findTurns) (h_X9_findSorts : k_snd l D cI cS cM yX9_findSorts cX9_findSorts 4 none 2 1 F_X9_findSorts) (h_X9_findPrime : k_snd l D cI cS cM yX9_findPrime cX9_findPrime 3 none 2 1 F_X9_findPrime) (h_X9_findTimes : k_snd l D cI cS cM yX9_findTimes cX9_findTimes 4 none 2 1 F_X9_findTimes) (h_X9_findSpreads : k_snd l D cI cS cM yX9_findSpreads cX9_findSpreads 4 none 6 1 F_X9_findSpreads) (h_X9_findRows : k_snd l D cI cS cM yX9_findRows cX9_findRows 3 none 4 1 F_X9_findRows) : KS l D cI cS cM yX9_lay.cls yX9_lay.name cX9_lay 1 none (k_rm 7 0 0) false 7 0 (b_X9_lay_7 F_X9_findElements F_X9_findTurns F_X9_findSorts F_X9_findPrime F_X9_findTimes F_X9_findSpreads F_X9_findRows) :=
  s_return dX9_lay_7 rfl
noncomputable def b_X9_lay_0 (F_X9_findElements F_X9_findTurns F_X9_findSorts F_X9_findPrime F_X9_findTimes F_X9_findSpreads F_X9_findRows : KF) : KC := o_aload 0 <| o_get 9 5 <| o_c1 g_eq (b_X9_lay_8 F_X9_findElements F_X9_findTurns F_X9_findSorts F_X9_findPrime F_X9_findTimes F_X9_findSpreads F_X9_findRows) (b_X9_lay_7 F_X9_findElements F_X9_findTurns F_X9_findSorts F_X9_findPrime F_X9_findTimes F_X9_findSpreads F_X9_findRows)
set_option maxRecDepth 100000 in
theorem s_X9_lay_0 {l : Launch} {D : va_G} {cI cS cM : ClassId} {F_X9_findElements F_X9_findTurns F_X9_findSorts F_X9_findPrime F_X9_findTimes F_X9_findSpreads F_X9_findRows : KF} (h_X9_findElements : k_snd l D cI cS cM yX9_findElements cX9_findElements 4 none 3 1 F_X9_findElements) (h_X9_findTurns : k_snd l D cI cS cM yX9_findTurns cX9_findTurns 5 none 2 1 F_X9_findTurns) (h_X9_findSorts : k_snd l D cI cS cM yX9_findSorts cX9_findSorts 4 none 2 1 F_X9_findSorts) (h_X9_findPrime : k_snd l D cI cS cM yX9_findPrime cX9_findPrime 3 none 2 1 F_X9_findPrime) (h_X9_findTimes : k_snd l D cI cS cM yX9_findTimes cX9_findTimes 4 none 2 1 F_X9_findTimes) (h_X9_findSpreads : k_snd l D cI cS cM yX9_findSpreads cX9_findSpreads 4 none 6 1 F_X9_findSpreads) (h_X9_findRows : k_snd l D cI cS cM yX9_findRows cX9_findRows 3 none 4 1 F_X9_findRows) : KS l D cI cS cM yX9_lay.cls yX9_lay.name cX9_lay 1 none (k_rm 7 0 0) false 0 0 (b_X9_lay_0 F_X9_findElements F_X9_findTurns F_X9_findSorts F_X9_findPrime F_X9_findTimes F_X9_findSpreads F_X9_findRows) :=
  s_aload_n dX9_lay_0 rfl <|
  s_get dX9_lay_1 (ci := 9) (sl := 5) (Cn := RX9) (Tf := TX9) (N := 40) rfl (by decide) kiX9 kw_9_17 <|
  s_if_eq dX9_lay_4 (by decide) (s_X9_lay_8 h_X9_findElements h_X9_findTurns h_X9_findSorts h_X9_findPrime h_X9_findTimes h_X9_findSpreads h_X9_findRows) (s_X9_lay_7 h_X9_findElements h_X9_findTurns h_X9_findSorts h_X9_findPrime h_X9_findTimes h_X9_findSpreads h_X9_findRows)
noncomputable def m_X9_lay (F_X9_findElements F_X9_findTurns F_X9_findSorts F_X9_findPrime F_X9_findTimes F_X9_findSpreads F_X9_findRows : KF) : KF := k_fun [] (b_X9_lay_0 F_X9_findElements F_X9_findTurns F_X9_findSorts F_X9_findPrime F_X9_findTimes F_X9_findSpreads F_X9_findRows)
theorem r_X9_lay {l : Launch} {D : va_G} {cI cS cM : ClassId} {F_X9_findElements F_X9_findTurns F_X9_findSorts F_X9_findPrime F_X9_findTimes F_X9_findSpreads F_X9_findRows : KF} (h_X9_findElements : k_snd l D cI cS cM yX9_findElements cX9_findElements 4 none 3 1 F_X9_findElements) (h_X9_findTurns : k_snd l D cI cS cM yX9_findTurns cX9_findTurns 5 none 2 1 F_X9_findTurns) (h_X9_findSorts : k_snd l D cI cS cM yX9_findSorts cX9_findSorts 4 none 2 1 F_X9_findSorts) (h_X9_findPrime : k_snd l D cI cS cM yX9_findPrime cX9_findPrime 3 none 2 1 F_X9_findPrime) (h_X9_findTimes : k_snd l D cI cS cM yX9_findTimes cX9_findTimes 4 none 2 1 F_X9_findTimes) (h_X9_findSpreads : k_snd l D cI cS cM yX9_findSpreads cX9_findSpreads 4 none 6 1 F_X9_findSpreads) (h_X9_findRows : k_snd l D cI cS cM yX9_findRows cX9_findRows 3 none 4 1 F_X9_findRows) : k_snd l D cI cS cM yX9_lay cX9_lay 1 none 7 1 (m_X9_lay F_X9_findElements F_X9_findTurns F_X9_findSorts F_X9_findPrime F_X9_findTimes F_X9_findSpreads F_X9_findRows) :=
  k_method (by decide +kernel) (by simp) rfl (s_X9_lay_0 h_X9_findElements h_X9_findTurns h_X9_findSorts h_X9_findPrime h_X9_findTimes h_X9_findSpreads h_X9_findRows)
noncomputable def b_X9_isElement_0 (F_X9_lay F_X9_in : KF) : KC := o_aload 0 <| o_cV0 1 9 F_X9_lay <| o_iload 1 <| o_push 0 <| o_aload 0 <| o_get 9 6 <| o_push 1 <| o_bin n_sub <| o_cS1 3 F_X9_in <| o_zret
set_option maxRecDepth 100000 in
theorem s_X9_isElement_0 {l : Launch} {D : va_G} {cI cS cM : ClassId} {F_X9_lay F_X9_in : KF} (h_X9_lay : k_snd l D cI cS cM yX9_lay cX9_lay 1 none 7 1 F_X9_lay) (h_X9_in : k_snd l D cI cS cM yX9_in cX9_in 3 (some .boolean) 1 3 F_X9_in) : KS l D cI cS cM yX9_isElement.cls yX9_isElement.name cX9_isElement 2 (some .boolean) (k_rm 8 0 0) false 0 0 (b_X9_isElement_0 F_X9_lay F_X9_in) :=
  s_aload_n dX9_isElement_0 rfl <|
  s_callV0 dX9_isElement_1 kw_22_18 kw_22_19 kw_22_20 (ci := 9) rfl ok_X9_lay (by decide) (by decide) h_X9_lay (by decide) <|
  s_iload_n dX9_isElement_4 rfl <|
  s_push1 dX9_isElement_5 (by decide) (by decide) <|
  s_aload_n dX9_isElement_6 rfl <|
  s_get dX9_isElement_7 (ci := 9) (sl := 6) (Cn := RX9) (Tf := TX9) (N := 40) rfl (by decide) kiX9 kw_22_13 <|
  s_push1 dX9_isElement_10 (by decide) (by decide) <|
  s_isub dX9_isElement_11 <|
  s_callS1 dX9_isElement_12 kw_9_18 kw_9_19 ok_X9_in (by decide) (by decide) h_X9_in (by decide) <|
  s_zreturn dX9_isElement_15 rfl
noncomputable def m_X9_isElement (F_X9_lay F_X9_in : KF) : KF := k_fun [] (b_X9_isElement_0 F_X9_lay F_X9_in)
theorem r_X9_isElement {l : Launch} {D : va_G} {cI cS cM : ClassId} {F_X9_lay F_X9_in : KF} (h_X9_lay : k_snd l D cI cS cM yX9_lay cX9_lay 1 none 7 1 F_X9_lay) (h_X9_in : k_snd l D cI cS cM yX9_in cX9_in 3 (some .boolean) 1 3 F_X9_in) : k_snd l D cI cS cM yX9_isElement cX9_isElement 2 (some .boolean) 8 2 (m_X9_isElement F_X9_lay F_X9_in) :=
  k_method (by decide +kernel) (by simp) rfl (s_X9_isElement_0 h_X9_lay h_X9_in)
noncomputable def b_X9_isSort_0 (F_X9_lay F_X9_in : KF) : KC := o_aload 0 <| o_cV0 1 9 F_X9_lay <| o_iload 1 <| o_push 0 <| o_aload 0 <| o_get 9 12 <| o_push 1 <| o_bin n_sub <| o_cS1 3 F_X9_in <| o_zret
set_option maxRecDepth 100000 in
theorem s_X9_isSort_0 {l : Launch} {D : va_G} {cI cS cM : ClassId} {F_X9_lay F_X9_in : KF} (h_X9_lay : k_snd l D cI cS cM yX9_lay cX9_lay 1 none 7 1 F_X9_lay) (h_X9_in : k_snd l D cI cS cM yX9_in cX9_in 3 (some .boolean) 1 3 F_X9_in) : KS l D cI cS cM yX9_isSort.cls yX9_isSort.name cX9_isSort 2 (some .boolean) (k_rm 8 0 0) false 0 0 (b_X9_isSort_0 F_X9_lay F_X9_in) :=
  s_aload_n dX9_isSort_0 rfl <|
  s_callV0 dX9_isSort_1 kw_22_18 kw_22_19 kw_22_20 (ci := 9) rfl ok_X9_lay (by decide) (by decide) h_X9_lay (by decide) <|
  s_iload_n dX9_isSort_4 rfl <|
  s_push1 dX9_isSort_5 (by decide) (by decide) <|
  s_aload_n dX9_isSort_6 rfl <|
  s_get dX9_isSort_7 (ci := 9) (sl := 12) (Cn := RX9) (Tf := TX9) (N := 40) rfl (by decide) kiX9 kw_22_14 <|
  s_push1 dX9_isSort_10 (by decide) (by decide) <|
  s_isub dX9_isSort_11 <|
  s_callS1 dX9_isSort_12 kw_9_18 kw_9_19 ok_X9_in (by decide) (by decide) h_X9_in (by decide) <|
  s_zreturn dX9_isSort_15 rfl
noncomputable def m_X9_isSort (F_X9_lay F_X9_in : KF) : KF := k_fun [] (b_X9_isSort_0 F_X9_lay F_X9_in)
theorem r_X9_isSort {l : Launch} {D : va_G} {cI cS cM : ClassId} {F_X9_lay F_X9_in : KF} (h_X9_lay : k_snd l D cI cS cM yX9_lay cX9_lay 1 none 7 1 F_X9_lay) (h_X9_in : k_snd l D cI cS cM yX9_in cX9_in 3 (some .boolean) 1 3 F_X9_in) : k_snd l D cI cS cM yX9_isSort cX9_isSort 2 (some .boolean) 8 2 (m_X9_isSort F_X9_lay F_X9_in) :=
  k_method (by decide +kernel) (by simp) rfl (s_X9_isSort_0 h_X9_lay h_X9_in)
noncomputable def b_X9_ofAll_125 (F_X9_lay : KF) (J : List KC) : KC := o_iload 2 <| o_iret
set_option maxRecDepth 100000 in
theorem s_X9_ofAll_125 {l : Launch} {D : va_G} {cI cS cM : ClassId} {F_X9_lay : KF} (h_X9_lay : k_snd l D cI cS cM yX9_lay cX9_lay 1 none 7 1 F_X9_lay) {J : List KC} (hJ : ∀ (i pc d : Nat), ([(78, 0)] : List (Nat × Nat))[i]? = some (pc, d) → KS l D cI cS cM yX9_ofAll.cls yX9_ofAll.name cX9_ofAll 4 (some .int) (k_rm 8 0 0) false pc d (k_jmp J i)) : KS l D cI cS cM yX9_ofAll.cls yX9_ofAll.name cX9_ofAll 4 (some .int) (k_rm 8 0 0) false 125 0 (b_X9_ofAll_125 F_X9_lay J) :=
  s_iload_n dX9_ofAll_125 rfl <|
  s_ireturn dX9_ofAll_126 rfl
noncomputable def b_X9_ofAll_117 (F_X9_lay : KF) (J : List KC) : KC := o_bin n_add <| o_istore 2 <| o_iinc 3 1 <| k_jmp J 0
set_option maxRecDepth 100000 in
theorem s_X9_ofAll_117 {l : Launch} {D : va_G} {cI cS cM : ClassId} {F_X9_lay : KF} (h_X9_lay : k_snd l D cI cS cM yX9_lay cX9_lay 1 none 7 1 F_X9_lay) {J : List KC} (hJ : ∀ (i pc d : Nat), ([(78, 0)] : List (Nat × Nat))[i]? = some (pc, d) → KS l D cI cS cM yX9_ofAll.cls yX9_ofAll.name cX9_ofAll 4 (some .int) (k_rm 8 0 0) false pc d (k_jmp J i)) : KS l D cI cS cM yX9_ofAll.cls yX9_ofAll.name cX9_ofAll 4 (some .int) (k_rm 8 0 0) false 117 2 (b_X9_ofAll_117 F_X9_lay J) :=
  s_iadd dX9_ofAll_117 <|
  s_istore_n dX9_ofAll_118 rfl (by decide) <|
  s_iinc dX9_ofAll_119 (by decide) (by decide) <|
  s_goto dX9_ofAll_122 (by decide) (hJ 0 _ _ rfl)
noncomputable def b_X9_ofAll_116 (F_X9_lay : KF) (J : List KC) : KC := o_push 0 <| b_X9_ofAll_117 F_X9_lay J
set_option maxRecDepth 100000 in
theorem s_X9_ofAll_116 {l : Launch} {D : va_G} {cI cS cM : ClassId} {F_X9_lay : KF} (h_X9_lay : k_snd l D cI cS cM yX9_lay cX9_lay 1 none 7 1 F_X9_lay) {J : List KC} (hJ : ∀ (i pc d : Nat), ([(78, 0)] : List (Nat × Nat))[i]? = some (pc, d) → KS l D cI cS cM yX9_ofAll.cls yX9_ofAll.name cX9_ofAll 4 (some .int) (k_rm 8 0 0) false pc d (k_jmp J i)) : KS l D cI cS cM yX9_ofAll.cls yX9_ofAll.name cX9_ofAll 4 (some .int) (k_rm 8 0 0) false 116 1 (b_X9_ofAll_116 F_X9_lay J) :=
  s_push1 dX9_ofAll_116 (by decide) (by decide) <|
  s_X9_ofAll_117 h_X9_lay hJ
noncomputable def b_X9_ofAll_112 (F_X9_lay : KF) (J : List KC) : KC := o_push 1 <| b_X9_ofAll_117 F_X9_lay J
set_option maxRecDepth 100000 in
theorem s_X9_ofAll_112 {l : Launch} {D : va_G} {cI cS cM : ClassId} {F_X9_lay : KF} (h_X9_lay : k_snd l D cI cS cM yX9_lay cX9_lay 1 none 7 1 F_X9_lay) {J : List KC} (hJ : ∀ (i pc d : Nat), ([(78, 0)] : List (Nat × Nat))[i]? = some (pc, d) → KS l D cI cS cM yX9_ofAll.cls yX9_ofAll.name cX9_ofAll 4 (some .int) (k_rm 8 0 0) false pc d (k_jmp J i)) : KS l D cI cS cM yX9_ofAll.cls yX9_ofAll.name cX9_ofAll 4 (some .int) (k_rm 8 0 0) false 112 1 (b_X9_ofAll_112 F_X9_lay J) :=
  s_push1 dX9_ofAll_112 (by decide) (by decide) <|
  s_goto dX9_ofAll_113 (by decide) (s_X9_ofAll_117 h_X9_lay hJ)
noncomputable def b_X9_ofAll_108 (F_X9_lay : KF) (J : List KC) : KC := o_push 1 <| o_c2 Nat.beq (b_X9_ofAll_112 F_X9_lay J) (b_X9_ofAll_116 F_X9_lay J)
set_option maxRecDepth 100000 in
theorem s_X9_ofAll_108 {l : Launch} {D : va_G} {cI cS cM : ClassId} {F_X9_lay : KF} (h_X9_lay : k_snd l D cI cS cM yX9_lay cX9_lay 1 none 7 1 F_X9_lay) {J : List KC} (hJ : ∀ (i pc d : Nat), ([(78, 0)] : List (Nat × Nat))[i]? = some (pc, d) → KS l D cI cS cM yX9_ofAll.cls yX9_ofAll.name cX9_ofAll 4 (some .int) (k_rm 8 0 0) false pc d (k_jmp J i)) : KS l D cI cS cM yX9_ofAll.cls yX9_ofAll.name cX9_ofAll 4 (some .int) (k_rm 8 0 0) false 108 2 (b_X9_ofAll_108 F_X9_lay J) :=
  s_push1 dX9_ofAll_108 (by decide) (by decide) <|
  s_icmp_ne dX9_ofAll_109 (by decide) (s_X9_ofAll_116 h_X9_lay hJ) (s_X9_ofAll_112 h_X9_lay hJ)
noncomputable def b_X9_ofAll_102 (F_X9_lay : KF) (J : List KC) : KC := o_aload 0 <| o_get 9 28 <| o_iload 3 <| o_iald <| b_X9_ofAll_108 F_X9_lay J
set_option maxRecDepth 100000 in
theorem s_X9_ofAll_102 {l : Launch} {D : va_G} {cI cS cM : ClassId} {F_X9_lay : KF} (h_X9_lay : k_snd l D cI cS cM yX9_lay cX9_lay 1 none 7 1 F_X9_lay) {J : List KC} (hJ : ∀ (i pc d : Nat), ([(78, 0)] : List (Nat × Nat))[i]? = some (pc, d) → KS l D cI cS cM yX9_ofAll.cls yX9_ofAll.name cX9_ofAll 4 (some .int) (k_rm 8 0 0) false pc d (k_jmp J i)) : KS l D cI cS cM yX9_ofAll.cls yX9_ofAll.name cX9_ofAll 4 (some .int) (k_rm 8 0 0) false 102 1 (b_X9_ofAll_102 F_X9_lay J) :=
  s_aload_n dX9_ofAll_102 rfl <|
  s_get dX9_ofAll_103 (ci := 9) (sl := 28) (Cn := RX9) (Tf := TX9) (N := 40) rfl (by decide) kiX9 kw_7_11 <|
  s_iload_n dX9_ofAll_106 rfl <|
  s_iald dX9_ofAll_107 <|
  s_X9_ofAll_108 h_X9_lay hJ
noncomputable def b_X9_ofAll_93 (F_X9_lay : KF) (J : List KC) : KC := o_aload 0 <| o_get 9 13 <| o_iload 3 <| o_iald <| b_X9_ofAll_108 F_X9_lay J
set_option maxRecDepth 100000 in
theorem s_X9_ofAll_93 {l : Launch} {D : va_G} {cI cS cM : ClassId} {F_X9_lay : KF} (h_X9_lay : k_snd l D cI cS cM yX9_lay cX9_lay 1 none 7 1 F_X9_lay) {J : List KC} (hJ : ∀ (i pc d : Nat), ([(78, 0)] : List (Nat × Nat))[i]? = some (pc, d) → KS l D cI cS cM yX9_ofAll.cls yX9_ofAll.name cX9_ofAll 4 (some .int) (k_rm 8 0 0) false pc d (k_jmp J i)) : KS l D cI cS cM yX9_ofAll.cls yX9_ofAll.name cX9_ofAll 4 (some .int) (k_rm 8 0 0) false 93 1 (b_X9_ofAll_93 F_X9_lay J) :=
  s_aload_n dX9_ofAll_93 rfl <|
  s_get dX9_ofAll_94 (ci := 9) (sl := 13) (Cn := RX9) (Tf := TX9) (N := 40) rfl (by decide) kiX9 kw_7_1 <|
  s_iload_n dX9_ofAll_97 rfl <|
  s_iald dX9_ofAll_98 <|
  s_goto dX9_ofAll_99 (by decide) (s_X9_ofAll_108 h_X9_lay hJ)
noncomputable def b_X9_ofAll_86 (F_X9_lay : KF) (J : List KC) : KC := o_iload 2 <| o_iload 1 <| o_push 6 <| o_c2 Nat.beq (b_X9_ofAll_93 F_X9_lay J) (b_X9_ofAll_102 F_X9_lay J)
set_option maxRecDepth 100000 in
theorem s_X9_ofAll_86 {l : Launch} {D : va_G} {cI cS cM : ClassId} {F_X9_lay : KF} (h_X9_lay : k_snd l D cI cS cM yX9_lay cX9_lay 1 none 7 1 F_X9_lay) {J : List KC} (hJ : ∀ (i pc d : Nat), ([(78, 0)] : List (Nat × Nat))[i]? = some (pc, d) → KS l D cI cS cM yX9_ofAll.cls yX9_ofAll.name cX9_ofAll 4 (some .int) (k_rm 8 0 0) false pc d (k_jmp J i)) : KS l D cI cS cM yX9_ofAll.cls yX9_ofAll.name cX9_ofAll 4 (some .int) (k_rm 8 0 0) false 86 0 (b_X9_ofAll_86 F_X9_lay J) :=
  s_iload_n dX9_ofAll_86 rfl <|
  s_iload_n dX9_ofAll_87 rfl <|
  s_push2 dX9_ofAll_88 (by decide) (by decide) <|
  s_icmp_ne dX9_ofAll_90 (by decide) (s_X9_ofAll_102 h_X9_lay hJ) (s_X9_ofAll_93 h_X9_lay hJ)
noncomputable def b_X9_ofAll_78 (F_X9_lay : KF) (J : List KC) : KC := o_iload 3 <| o_aload 0 <| o_get 9 12 <| o_c2 s_lt (b_X9_ofAll_86 F_X9_lay J) (b_X9_ofAll_125 F_X9_lay J)
set_option maxRecDepth 100000 in
theorem s_X9_ofAll_78 {l : Launch} {D : va_G} {cI cS cM : ClassId} {F_X9_lay : KF} (h_X9_lay : k_snd l D cI cS cM yX9_lay cX9_lay 1 none 7 1 F_X9_lay) {J : List KC} (hJ : ∀ (i pc d : Nat), ([(78, 0)] : List (Nat × Nat))[i]? = some (pc, d) → KS l D cI cS cM yX9_ofAll.cls yX9_ofAll.name cX9_ofAll 4 (some .int) (k_rm 8 0 0) false pc d (k_jmp J i)) : KS l D cI cS cM yX9_ofAll.cls yX9_ofAll.name cX9_ofAll 4 (some .int) (k_rm 8 0 0) false 78 0 (b_X9_ofAll_78 F_X9_lay J) :=
  s_iload_n dX9_ofAll_78 rfl <|
  s_aload_n dX9_ofAll_79 rfl <|
  s_get dX9_ofAll_80 (ci := 9) (sl := 12) (Cn := RX9) (Tf := TX9) (N := 40) rfl (by decide) kiX9 kw_22_14 <|
  s_icmp_ge dX9_ofAll_83 (by decide) (s_X9_ofAll_125 h_X9_lay hJ) (s_X9_ofAll_86 h_X9_lay hJ)
noncomputable def b_X9_ofAll_76 (F_X9_lay : KF) (J : List KC) : KC := o_push 0 <| o_istore 3 <| b_X9_ofAll_78 F_X9_lay J
set_option maxRecDepth 100000 in
theorem s_X9_ofAll_76 {l : Launch} {D : va_G} {cI cS cM : ClassId} {F_X9_lay : KF} (h_X9_lay : k_snd l D cI cS cM yX9_lay cX9_lay 1 none 7 1 F_X9_lay) {J : List KC} (hJ : ∀ (i pc d : Nat), ([(78, 0)] : List (Nat × Nat))[i]? = some (pc, d) → KS l D cI cS cM yX9_ofAll.cls yX9_ofAll.name cX9_ofAll 4 (some .int) (k_rm 8 0 0) false pc d (k_jmp J i)) : KS l D cI cS cM yX9_ofAll.cls yX9_ofAll.name cX9_ofAll 4 (some .int) (k_rm 8 0 0) false 76 0 (b_X9_ofAll_76 F_X9_lay J) :=
  s_push1 dX9_ofAll_76 (by decide) (by decide) <|
  s_istore_n dX9_ofAll_77 rfl (by decide) <|
  s_X9_ofAll_78 h_X9_lay hJ
noncomputable def b_X9_ofAll_69 (F_X9_lay : KF) (J : List KC) : KC := o_aload 0 <| o_get 9 0 <| o_push 1 <| o_iald <| o_iret
set_option maxRecDepth 100000 in
theorem s_X9_ofAll_69 {l : Launch} {D : va_G} {cI cS cM : ClassId} {F_X9_lay : KF} (h_X9_lay : k_snd l D cI cS cM yX9_lay cX9_lay 1 none 7 1 F_X9_lay) {J : List KC} (hJ : ∀ (i pc d : Nat), ([(78, 0)] : List (Nat × Nat))[i]? = some (pc, d) → KS l D cI cS cM yX9_ofAll.cls yX9_ofAll.name cX9_ofAll 4 (some .int) (k_rm 8 0 0) false pc d (k_jmp J i)) : KS l D cI cS cM yX9_ofAll.cls yX9_ofAll.name cX9_ofAll 4 (some .int) (k_rm 8 0 0) false 69 0 (b_X9_ofAll_69 F_X9_lay J) :=
  s_aload_n dX9_ofAll_69 rfl <|
  s_get dX9_ofAll_70 (ci := 9) (sl := 0) (Cn := RX9) (Tf := TX9) (N := 40) rfl (by decide) kiX9 kw_6_16 <|
  s_push1 dX9_ofAll_73 (by decide) (by decide) <|
  s_iald dX9_ofAll_74 <|
  s_ireturn dX9_ofAll_75 rfl
noncomputable def b_X9_ofAll_64 (F_X9_lay : KF) (J : List KC) : KC := o_aload 0 <| o_get 9 17 <| o_iret
set_option maxRecDepth 100000 in
theorem s_X9_ofAll_64 {l : Launch} {D : va_G} {cI cS cM : ClassId} {F_X9_lay : KF} (h_X9_lay : k_snd l D cI cS cM yX9_lay cX9_lay 1 none 7 1 F_X9_lay) {J : List KC} (hJ : ∀ (i pc d : Nat), ([(78, 0)] : List (Nat × Nat))[i]? = some (pc, d) → KS l D cI cS cM yX9_ofAll.cls yX9_ofAll.name cX9_ofAll 4 (some .int) (k_rm 8 0 0) false pc d (k_jmp J i)) : KS l D cI cS cM yX9_ofAll.cls yX9_ofAll.name cX9_ofAll 4 (some .int) (k_rm 8 0 0) false 64 0 (b_X9_ofAll_64 F_X9_lay J) :=
  s_aload_n dX9_ofAll_64 rfl <|
  s_get dX9_ofAll_65 (ci := 9) (sl := 17) (Cn := RX9) (Tf := TX9) (N := 40) rfl (by decide) kiX9 kw_22_17 <|
  s_ireturn dX9_ofAll_68 rfl
noncomputable def b_X9_ofAll_59 (F_X9_lay : KF) (J : List KC) : KC := o_aload 0 <| o_get 9 16 <| o_iret
set_option maxRecDepth 100000 in
theorem s_X9_ofAll_59 {l : Launch} {D : va_G} {cI cS cM : ClassId} {F_X9_lay : KF} (h_X9_lay : k_snd l D cI cS cM yX9_lay cX9_lay 1 none 7 1 F_X9_lay) {J : List KC} (hJ : ∀ (i pc d : Nat), ([(78, 0)] : List (Nat × Nat))[i]? = some (pc, d) → KS l D cI cS cM yX9_ofAll.cls yX9_ofAll.name cX9_ofAll 4 (some .int) (k_rm 8 0 0) false pc d (k_jmp J i)) : KS l D cI cS cM yX9_ofAll.cls yX9_ofAll.name cX9_ofAll 4 (some .int) (k_rm 8 0 0) false 59 0 (b_X9_ofAll_59 F_X9_lay J) :=
  s_aload_n dX9_ofAll_59 rfl <|
  s_get dX9_ofAll_60 (ci := 9) (sl := 16) (Cn := RX9) (Tf := TX9) (N := 40) rfl (by decide) kiX9 kw_22_16 <|
  s_ireturn dX9_ofAll_63 rfl
noncomputable def b_X9_ofAll_54 (F_X9_lay : KF) (J : List KC) : KC := o_aload 0 <| o_get 9 15 <| o_iret
set_option maxRecDepth 100000 in
theorem s_X9_ofAll_54 {l : Launch} {D : va_G} {cI cS cM : ClassId} {F_X9_lay : KF} (h_X9_lay : k_snd l D cI cS cM yX9_lay cX9_lay 1 none 7 1 F_X9_lay) {J : List KC} (hJ : ∀ (i pc d : Nat), ([(78, 0)] : List (Nat × Nat))[i]? = some (pc, d) → KS l D cI cS cM yX9_ofAll.cls yX9_ofAll.name cX9_ofAll 4 (some .int) (k_rm 8 0 0) false pc d (k_jmp J i)) : KS l D cI cS cM yX9_ofAll.cls yX9_ofAll.name cX9_ofAll 4 (some .int) (k_rm 8 0 0) false 54 0 (b_X9_ofAll_54 F_X9_lay J) :=
  s_aload_n dX9_ofAll_54 rfl <|
  s_get dX9_ofAll_55 (ci := 9) (sl := 15) (Cn := RX9) (Tf := TX9) (N := 40) rfl (by decide) kiX9 kw_22_15 <|
  s_ireturn dX9_ofAll_58 rfl
noncomputable def b_X9_ofAll_49 (F_X9_lay : KF) (J : List KC) : KC := o_aload 0 <| o_get 9 12 <| o_iret
set_option maxRecDepth 100000 in
theorem s_X9_ofAll_49 {l : Launch} {D : va_G} {cI cS cM : ClassId} {F_X9_lay : KF} (h_X9_lay : k_snd l D cI cS cM yX9_lay cX9_lay 1 none 7 1 F_X9_lay) {J : List KC} (hJ : ∀ (i pc d : Nat), ([(78, 0)] : List (Nat × Nat))[i]? = some (pc, d) → KS l D cI cS cM yX9_ofAll.cls yX9_ofAll.name cX9_ofAll 4 (some .int) (k_rm 8 0 0) false pc d (k_jmp J i)) : KS l D cI cS cM yX9_ofAll.cls yX9_ofAll.name cX9_ofAll 4 (some .int) (k_rm 8 0 0) false 49 0 (b_X9_ofAll_49 F_X9_lay J) :=
  s_aload_n dX9_ofAll_49 rfl <|
  s_get dX9_ofAll_50 (ci := 9) (sl := 12) (Cn := RX9) (Tf := TX9) (N := 40) rfl (by decide) kiX9 kw_22_14 <|
  s_ireturn dX9_ofAll_53 rfl
noncomputable def b_X9_ofAll_44 (F_X9_lay : KF) (J : List KC) : KC := o_aload 0 <| o_get 9 6 <| o_iret
set_option maxRecDepth 100000 in
theorem s_X9_ofAll_44 {l : Launch} {D : va_G} {cI cS cM : ClassId} {F_X9_lay : KF} (h_X9_lay : k_snd l D cI cS cM yX9_lay cX9_lay 1 none 7 1 F_X9_lay) {J : List KC} (hJ : ∀ (i pc d : Nat), ([(78, 0)] : List (Nat × Nat))[i]? = some (pc, d) → KS l D cI cS cM yX9_ofAll.cls yX9_ofAll.name cX9_ofAll 4 (some .int) (k_rm 8 0 0) false pc d (k_jmp J i)) : KS l D cI cS cM yX9_ofAll.cls yX9_ofAll.name cX9_ofAll 4 (some .int) (k_rm 8 0 0) false 44 0 (b_X9_ofAll_44 F_X9_lay J) :=
  s_aload_n dX9_ofAll_44 rfl <|
  s_get dX9_ofAll_45 (ci := 9) (sl := 6) (Cn := RX9) (Tf := TX9) (N := 40) rfl (by decide) kiX9 kw_22_13 <|
  s_ireturn dX9_ofAll_48 rfl
noncomputable def b_X9_ofAll_0 (F_X9_lay : KF) (J : List KC) : KC := o_aload 0 <| o_cV0 1 9 F_X9_lay <| o_push 0 <| o_istore 2 <| o_iload 1 <| o_switch [b_X9_ofAll_44 F_X9_lay J, b_X9_ofAll_49 F_X9_lay J, b_X9_ofAll_54 F_X9_lay J, b_X9_ofAll_59 F_X9_lay J, b_X9_ofAll_64 F_X9_lay J, b_X9_ofAll_69 F_X9_lay J] (b_X9_ofAll_76 F_X9_lay J)
set_option maxRecDepth 100000 in
theorem s_X9_ofAll_0 {l : Launch} {D : va_G} {cI cS cM : ClassId} {F_X9_lay : KF} (h_X9_lay : k_snd l D cI cS cM yX9_lay cX9_lay 1 none 7 1 F_X9_lay) {J : List KC} (hJ : ∀ (i pc d : Nat), ([(78, 0)] : List (Nat × Nat))[i]? = some (pc, d) → KS l D cI cS cM yX9_ofAll.cls yX9_ofAll.name cX9_ofAll 4 (some .int) (k_rm 8 0 0) false pc d (k_jmp J i)) : KS l D cI cS cM yX9_ofAll.cls yX9_ofAll.name cX9_ofAll 4 (some .int) (k_rm 8 0 0) false 0 0 (b_X9_ofAll_0 F_X9_lay J) :=
  s_aload_n dX9_ofAll_0 rfl <|
  s_callV0 dX9_ofAll_1 kw_22_18 kw_22_19 kw_22_20 (ci := 9) rfl ok_X9_lay (by decide) (by decide) h_X9_lay (by decide) <|
  s_push1 dX9_ofAll_4 (by decide) (by decide) <|
  s_istore_n dX9_ofAll_5 rfl (by decide) <|
  s_iload_n dX9_ofAll_6 rfl <|
  s_switch2 [44, 49, 54, 59, 64, 69] dX9_ofAll_7 (by decide) (by decide) (by decide) (by decide) (s_X9_ofAll_76 h_X9_lay hJ) ⟨s_X9_ofAll_44 h_X9_lay hJ, s_X9_ofAll_49 h_X9_lay hJ, s_X9_ofAll_54 h_X9_lay hJ, s_X9_ofAll_59 h_X9_lay hJ, s_X9_ofAll_64 h_X9_lay hJ, s_X9_ofAll_69 h_X9_lay hJ, trivial⟩
noncomputable def j_X9_ofAll (F_X9_lay : KF) (J : List KC) : List KC := [b_X9_ofAll_78 F_X9_lay J]
noncomputable def m_X9_ofAll (F_X9_lay : KF) (n : Nat) : KF := k_fun [k_u, k_u] (b_X9_ofAll_0 F_X9_lay (k_loop (j_X9_ofAll F_X9_lay) n))
theorem r_X9_ofAll {l : Launch} {D : va_G} {cI cS cM : ClassId} {F_X9_lay : KF} (h_X9_lay : k_snd l D cI cS cM yX9_lay cX9_lay 1 none 7 1 F_X9_lay) (n : Nat) : k_snd l D cI cS cM yX9_ofAll cX9_ofAll 4 (some .int) 8 2 (m_X9_ofAll F_X9_lay n) :=
  k_method (by decide +kernel) (by simp) rfl (s_X9_ofAll_0 h_X9_lay (k_loops (hs := [(78, 0)]) (fun J hJ i pc d h => match i, h with | 0, h => by cases h; exact s_X9_ofAll_78 h_X9_lay hJ | _ + 1, h => by simp at h) n))
noncomputable def b_X9_blind_63 (F_X9_isSort F_X9_refuses : KF) (J : List KC) : KC := o_iload 2 <| o_iret
set_option maxRecDepth 100000 in
theorem s_X9_blind_63 {l : Launch} {D : va_G} {cI cS cM : ClassId} {F_X9_isSort F_X9_refuses : KF} (h_X9_isSort : k_snd l D cI cS cM yX9_isSort cX9_isSort 2 (some .boolean) 8 2 F_X9_isSort) (h_X9_refuses : k_snd l D cI cS cM yX9_refuses cX9_refuses 2 (some .int) 1 2 F_X9_refuses) {J : List KC} (hJ : ∀ (i pc d : Nat), ([(19, 0)] : List (Nat × Nat))[i]? = some (pc, d) → KS l D cI cS cM yX9_blind.cls yX9_blind.name cX9_blind 4 (some .int) (k_rm 9 0 0) false pc d (k_jmp J i)) : KS l D cI cS cM yX9_blind.cls yX9_blind.name cX9_blind 4 (some .int) (k_rm 9 0 0) false 63 0 (b_X9_blind_63 F_X9_isSort F_X9_refuses J) :=
  s_iload_n dX9_blind_63 rfl <|
  s_ireturn dX9_blind_64 rfl
noncomputable def b_X9_blind_55 (F_X9_isSort F_X9_refuses : KF) (J : List KC) : KC := o_bin n_or <| o_istore 2 <| o_iinc 3 1 <| k_jmp J 0
set_option maxRecDepth 100000 in
theorem s_X9_blind_55 {l : Launch} {D : va_G} {cI cS cM : ClassId} {F_X9_isSort F_X9_refuses : KF} (h_X9_isSort : k_snd l D cI cS cM yX9_isSort cX9_isSort 2 (some .boolean) 8 2 F_X9_isSort) (h_X9_refuses : k_snd l D cI cS cM yX9_refuses cX9_refuses 2 (some .int) 1 2 F_X9_refuses) {J : List KC} (hJ : ∀ (i pc d : Nat), ([(19, 0)] : List (Nat × Nat))[i]? = some (pc, d) → KS l D cI cS cM yX9_blind.cls yX9_blind.name cX9_blind 4 (some .int) (k_rm 9 0 0) false pc d (k_jmp J i)) : KS l D cI cS cM yX9_blind.cls yX9_blind.name cX9_blind 4 (some .int) (k_rm 9 0 0) false 55 2 (b_X9_blind_55 F_X9_isSort F_X9_refuses J) :=
  s_ior dX9_blind_55 <|
  s_istore_n dX9_blind_56 rfl (by decide) <|
  s_iinc dX9_blind_57 (by decide) (by decide) <|
  s_goto dX9_blind_60 (by decide) (hJ 0 _ _ rfl)
noncomputable def b_X9_blind_54 (F_X9_isSort F_X9_refuses : KF) (J : List KC) : KC := o_push 0 <| b_X9_blind_55 F_X9_isSort F_X9_refuses J
set_option maxRecDepth 100000 in
theorem s_X9_blind_54 {l : Launch} {D : va_G} {cI cS cM : ClassId} {F_X9_isSort F_X9_refuses : KF} (h_X9_isSort : k_snd l D cI cS cM yX9_isSort cX9_isSort 2 (some .boolean) 8 2 F_X9_isSort) (h_X9_refuses : k_snd l D cI cS cM yX9_refuses cX9_refuses 2 (some .int) 1 2 F_X9_refuses) {J : List KC} (hJ : ∀ (i pc d : Nat), ([(19, 0)] : List (Nat × Nat))[i]? = some (pc, d) → KS l D cI cS cM yX9_blind.cls yX9_blind.name cX9_blind 4 (some .int) (k_rm 9 0 0) false pc d (k_jmp J i)) : KS l D cI cS cM yX9_blind.cls yX9_blind.name cX9_blind 4 (some .int) (k_rm 9 0 0) false 54 1 (b_X9_blind_54 F_X9_isSort F_X9_refuses J) :=
  s_push1 dX9_blind_54 (by decide) (by decide) <|
  s_X9_blind_55 h_X9_isSort h_X9_refuses hJ
noncomputable def b_X9_blind_48 (F_X9_isSort F_X9_refuses : KF) (J : List KC) : KC := o_push 1 <| o_iload 3 <| o_shl <| b_X9_blind_55 F_X9_isSort F_X9_refuses J
set_option maxRecDepth 100000 in
theorem s_X9_blind_48 {l : Launch} {D : va_G} {cI cS cM : ClassId} {F_X9_isSort F_X9_refuses : KF} (h_X9_isSort : k_snd l D cI cS cM yX9_isSort cX9_isSort 2 (some .boolean) 8 2 F_X9_isSort) (h_X9_refuses : k_snd l D cI cS cM yX9_refuses cX9_refuses 2 (some .int) 1 2 F_X9_refuses) {J : List KC} (hJ : ∀ (i pc d : Nat), ([(19, 0)] : List (Nat × Nat))[i]? = some (pc, d) → KS l D cI cS cM yX9_blind.cls yX9_blind.name cX9_blind 4 (some .int) (k_rm 9 0 0) false pc d (k_jmp J i)) : KS l D cI cS cM yX9_blind.cls yX9_blind.name cX9_blind 4 (some .int) (k_rm 9 0 0) false 48 1 (b_X9_blind_48 F_X9_isSort F_X9_refuses J) :=
  s_push1 dX9_blind_48 (by decide) (by decide) <|
  s_iload_n dX9_blind_49 rfl <|
  s_ishl dX9_blind_50 <|
  s_goto dX9_blind_51 (by decide) (s_X9_blind_55 h_X9_isSort h_X9_refuses hJ)
noncomputable def b_X9_blind_27 (F_X9_isSort F_X9_refuses : KF) (J : List KC) : KC := o_iload 2 <| o_aload 0 <| o_get 9 29 <| o_push 8 <| o_iload 1 <| o_bin n_mul <| o_iload 3 <| o_bin n_add <| o_iald <| o_aload 0 <| o_get 9 28 <| o_iload 1 <| o_iald <| o_c2 Nat.beq (b_X9_blind_48 F_X9_isSort F_X9_refuses J) (b_X9_blind_54 F_X9_isSort F_X9_refuses J)
set_option maxRecDepth 100000 in
theorem s_X9_blind_27 {l : Launch} {D : va_G} {cI cS cM : ClassId} {F_X9_isSort F_X9_refuses : KF} (h_X9_isSort : k_snd l D cI cS cM yX9_isSort cX9_isSort 2 (some .boolean) 8 2 F_X9_isSort) (h_X9_refuses : k_snd l D cI cS cM yX9_refuses cX9_refuses 2 (some .int) 1 2 F_X9_refuses) {J : List KC} (hJ : ∀ (i pc d : Nat), ([(19, 0)] : List (Nat × Nat))[i]? = some (pc, d) → KS l D cI cS cM yX9_blind.cls yX9_blind.name cX9_blind 4 (some .int) (k_rm 9 0 0) false pc d (k_jmp J i)) : KS l D cI cS cM yX9_blind.cls yX9_blind.name cX9_blind 4 (some .int) (k_rm 9 0 0) false 27 0 (b_X9_blind_27 F_X9_isSort F_X9_refuses J) :=
  s_iload_n dX9_blind_27 rfl <|
  s_aload_n dX9_blind_28 rfl <|
  s_get dX9_blind_29 (ci := 9) (sl := 29) (Cn := RX9) (Tf := TX9) (N := 40) rfl (by decide) kiX9 kw_7_12 <|
  s_push2 dX9_blind_32 (by decide) (by decide) <|
  s_iload_n dX9_blind_34 rfl <|
  s_imul dX9_blind_35 <|
  s_iload_n dX9_blind_36 rfl <|
  s_iadd dX9_blind_37 <|
  s_iald dX9_blind_38 <|
  s_aload_n dX9_blind_39 rfl <|
  s_get dX9_blind_40 (ci := 9) (sl := 28) (Cn := RX9) (Tf := TX9) (N := 40) rfl (by decide) kiX9 kw_7_11 <|
  s_iload_n dX9_blind_43 rfl <|
  s_iald dX9_blind_44 <|
  s_icmp_ne dX9_blind_45 (by decide) (s_X9_blind_54 h_X9_isSort h_X9_refuses hJ) (s_X9_blind_48 h_X9_isSort h_X9_refuses hJ)
noncomputable def b_X9_blind_19 (F_X9_isSort F_X9_refuses : KF) (J : List KC) : KC := o_iload 3 <| o_aload 0 <| o_get 9 12 <| o_c2 s_lt (b_X9_blind_27 F_X9_isSort F_X9_refuses J) (b_X9_blind_63 F_X9_isSort F_X9_refuses J)
set_option maxRecDepth 100000 in
theorem s_X9_blind_19 {l : Launch} {D : va_G} {cI cS cM : ClassId} {F_X9_isSort F_X9_refuses : KF} (h_X9_isSort : k_snd l D cI cS cM yX9_isSort cX9_isSort 2 (some .boolean) 8 2 F_X9_isSort) (h_X9_refuses : k_snd l D cI cS cM yX9_refuses cX9_refuses 2 (some .int) 1 2 F_X9_refuses) {J : List KC} (hJ : ∀ (i pc d : Nat), ([(19, 0)] : List (Nat × Nat))[i]? = some (pc, d) → KS l D cI cS cM yX9_blind.cls yX9_blind.name cX9_blind 4 (some .int) (k_rm 9 0 0) false pc d (k_jmp J i)) : KS l D cI cS cM yX9_blind.cls yX9_blind.name cX9_blind 4 (some .int) (k_rm 9 0 0) false 19 0 (b_X9_blind_19 F_X9_isSort F_X9_refuses J) :=
  s_iload_n dX9_blind_19 rfl <|
  s_aload_n dX9_blind_20 rfl <|
  s_get dX9_blind_21 (ci := 9) (sl := 12) (Cn := RX9) (Tf := TX9) (N := 40) rfl (by decide) kiX9 kw_22_14 <|
  s_icmp_ge dX9_blind_24 (by decide) (s_X9_blind_63 h_X9_isSort h_X9_refuses hJ) (s_X9_blind_27 h_X9_isSort h_X9_refuses hJ)
noncomputable def b_X9_blind_15 (F_X9_isSort F_X9_refuses : KF) (J : List KC) : KC := o_push 0 <| o_istore 2 <| o_push 0 <| o_istore 3 <| b_X9_blind_19 F_X9_isSort F_X9_refuses J
set_option maxRecDepth 100000 in
theorem s_X9_blind_15 {l : Launch} {D : va_G} {cI cS cM : ClassId} {F_X9_isSort F_X9_refuses : KF} (h_X9_isSort : k_snd l D cI cS cM yX9_isSort cX9_isSort 2 (some .boolean) 8 2 F_X9_isSort) (h_X9_refuses : k_snd l D cI cS cM yX9_refuses cX9_refuses 2 (some .int) 1 2 F_X9_refuses) {J : List KC} (hJ : ∀ (i pc d : Nat), ([(19, 0)] : List (Nat × Nat))[i]? = some (pc, d) → KS l D cI cS cM yX9_blind.cls yX9_blind.name cX9_blind 4 (some .int) (k_rm 9 0 0) false pc d (k_jmp J i)) : KS l D cI cS cM yX9_blind.cls yX9_blind.name cX9_blind 4 (some .int) (k_rm 9 0 0) false 15 0 (b_X9_blind_15 F_X9_isSort F_X9_refuses J) :=
  s_push1 dX9_blind_15 (by decide) (by decide) <|
  s_istore_n dX9_blind_16 rfl (by decide) <|
  s_push1 dX9_blind_17 (by decide) (by decide) <|
  s_istore_n dX9_blind_18 rfl (by decide) <|
  s_X9_blind_19 h_X9_isSort h_X9_refuses hJ
noncomputable def b_X9_blind_8 (F_X9_isSort F_X9_refuses : KF) (J : List KC) : KC := o_aload 0 <| o_push 4294967294 <| o_cV1 2 9 F_X9_refuses <| o_iret
set_option maxRecDepth 100000 in
theorem s_X9_blind_8 {l : Launch} {D : va_G} {cI cS cM : ClassId} {F_X9_isSort F_X9_refuses : KF} (h_X9_isSort : k_snd l D cI cS cM yX9_isSort cX9_isSort 2 (some .boolean) 8 2 F_X9_isSort) (h_X9_refuses : k_snd l D cI cS cM yX9_refuses cX9_refuses 2 (some .int) 1 2 F_X9_refuses) {J : List KC} (hJ : ∀ (i pc d : Nat), ([(19, 0)] : List (Nat × Nat))[i]? = some (pc, d) → KS l D cI cS cM yX9_blind.cls yX9_blind.name cX9_blind 4 (some .int) (k_rm 9 0 0) false pc d (k_jmp J i)) : KS l D cI cS cM yX9_blind.cls yX9_blind.name cX9_blind 4 (some .int) (k_rm 9 0 0) false 8 0 (b_X9_blind_8 F_X9_isSort F_X9_refuses J) :=
  s_aload_n dX9_blind_8 rfl <|
  s_push2 dX9_blind_9 (by decide) (by decide) <|
  s_callV1 dX9_blind_11 kw_10_1 kw_10_2 kw_10_3 (ci := 9) rfl ok_X9_refuses (by decide) (by decide) h_X9_refuses (by decide) <|
  s_ireturn dX9_blind_14 rfl
noncomputable def b_X9_blind_0 (F_X9_isSort F_X9_refuses : KF) (J : List KC) : KC := o_aload 0 <| o_iload 1 <| o_cV1 2 9 F_X9_isSort <| o_c1 g_eq (b_X9_blind_8 F_X9_isSort F_X9_refuses J) (b_X9_blind_15 F_X9_isSort F_X9_refuses J)
set_option maxRecDepth 100000 in
theorem s_X9_blind_0 {l : Launch} {D : va_G} {cI cS cM : ClassId} {F_X9_isSort F_X9_refuses : KF} (h_X9_isSort : k_snd l D cI cS cM yX9_isSort cX9_isSort 2 (some .boolean) 8 2 F_X9_isSort) (h_X9_refuses : k_snd l D cI cS cM yX9_refuses cX9_refuses 2 (some .int) 1 2 F_X9_refuses) {J : List KC} (hJ : ∀ (i pc d : Nat), ([(19, 0)] : List (Nat × Nat))[i]? = some (pc, d) → KS l D cI cS cM yX9_blind.cls yX9_blind.name cX9_blind 4 (some .int) (k_rm 9 0 0) false pc d (k_jmp J i)) : KS l D cI cS cM yX9_blind.cls yX9_blind.name cX9_blind 4 (some .int) (k_rm 9 0 0) false 0 0 (b_X9_blind_0 F_X9_isSort F_X9_refuses J) :=
  s_aload_n dX9_blind_0 rfl <|
  s_iload_n dX9_blind_1 rfl <|
  s_callV1 dX9_blind_2 kw_28_23 kw_29_0 kw_29_1 (ci := 9) rfl ok_X9_isSort (by decide) (by decide) h_X9_isSort (by decide) <|
  s_if_ne dX9_blind_5 (by decide) (s_X9_blind_15 h_X9_isSort h_X9_refuses hJ) (s_X9_blind_8 h_X9_isSort h_X9_refuses hJ)
noncomputable def j_X9_blind (F_X9_isSort F_X9_refuses : KF) (J : List KC) : List KC := [b_X9_blind_19 F_X9_isSort F_X9_refuses J]
noncomputable def m_X9_blind (F_X9_isSort F_X9_refuses : KF) (n : Nat) : KF := k_fun [k_u, k_u] (b_X9_blind_0 F_X9_isSort F_X9_refuses (k_loop (j_X9_blind F_X9_isSort F_X9_refuses) n))
theorem r_X9_blind {l : Launch} {D : va_G} {cI cS cM : ClassId} {F_X9_isSort F_X9_refuses : KF} (h_X9_isSort : k_snd l D cI cS cM yX9_isSort cX9_isSort 2 (some .boolean) 8 2 F_X9_isSort) (h_X9_refuses : k_snd l D cI cS cM yX9_refuses cX9_refuses 2 (some .int) 1 2 F_X9_refuses) (n : Nat) : k_snd l D cI cS cM yX9_blind cX9_blind 4 (some .int) 9 2 (m_X9_blind F_X9_isSort F_X9_refuses n) :=
  k_method (by decide +kernel) (by simp) rfl (s_X9_blind_0 h_X9_isSort h_X9_refuses (k_loops (hs := [(19, 0)]) (fun J hJ i pc d h => match i, h with | 0, h => by cases h; exact s_X9_blind_19 h_X9_isSort h_X9_refuses hJ | _ + 1, h => by simp at h) n))
noncomputable def b_X9_degree_23 (F_X9_isSort F_X9_refuses : KF) : KC := o_iret
set_option maxRecDepth 100000 in
theorem s_X9_degree_23 {l : Launch} {D : va_G} {cI cS cM : ClassId} {F_X9_isSort F_X9_refuses : KF} (h_X9_isSort : k_snd l D cI cS cM yX9_isSort cX9_isSort 2 (some .boolean) 8 2 F_X9_isSort) (h_X9_refuses : k_snd l D cI cS cM yX9_refuses cX9_refuses 2 (some .int) 1 2 F_X9_refuses) : KS l D cI cS cM yX9_degree.cls yX9_degree.name cX9_degree 2 (some .int) (k_rm 9 0 0) false 23 1 (b_X9_degree_23 F_X9_isSort F_X9_refuses) :=
  s_ireturn dX9_degree_23 rfl
noncomputable def b_X9_degree_17 (F_X9_isSort F_X9_refuses : KF) : KC := o_aload 0 <| o_push 4294967294 <| o_cV1 2 9 F_X9_refuses <| b_X9_degree_23 F_X9_isSort F_X9_refuses
set_option maxRecDepth 100000 in
theorem s_X9_degree_17 {l : Launch} {D : va_G} {cI cS cM : ClassId} {F_X9_isSort F_X9_refuses : KF} (h_X9_isSort : k_snd l D cI cS cM yX9_isSort cX9_isSort 2 (some .boolean) 8 2 F_X9_isSort) (h_X9_refuses : k_snd l D cI cS cM yX9_refuses cX9_refuses 2 (some .int) 1 2 F_X9_refuses) : KS l D cI cS cM yX9_degree.cls yX9_degree.name cX9_degree 2 (some .int) (k_rm 9 0 0) false 17 0 (b_X9_degree_17 F_X9_isSort F_X9_refuses) :=
  s_aload_n dX9_degree_17 rfl <|
  s_push2 dX9_degree_18 (by decide) (by decide) <|
  s_callV1 dX9_degree_20 kw_10_1 kw_10_2 kw_10_3 (ci := 9) rfl ok_X9_refuses (by decide) (by decide) h_X9_refuses (by decide) <|
  s_X9_degree_23 h_X9_isSort h_X9_refuses
noncomputable def b_X9_degree_8 (F_X9_isSort F_X9_refuses : KF) : KC := o_aload 0 <| o_get 9 28 <| o_iload 1 <| o_iald <| b_X9_degree_23 F_X9_isSort F_X9_refuses
set_option maxRecDepth 100000 in
theorem s_X9_degree_8 {l : Launch} {D : va_G} {cI cS cM : ClassId} {F_X9_isSort F_X9_refuses : KF} (h_X9_isSort : k_snd l D cI cS cM yX9_isSort cX9_isSort 2 (some .boolean) 8 2 F_X9_isSort) (h_X9_refuses : k_snd l D cI cS cM yX9_refuses cX9_refuses 2 (some .int) 1 2 F_X9_refuses) : KS l D cI cS cM yX9_degree.cls yX9_degree.name cX9_degree 2 (some .int) (k_rm 9 0 0) false 8 0 (b_X9_degree_8 F_X9_isSort F_X9_refuses) :=
  s_aload_n dX9_degree_8 rfl <|
  s_get dX9_degree_9 (ci := 9) (sl := 28) (Cn := RX9) (Tf := TX9) (N := 40) rfl (by decide) kiX9 kw_7_11 <|
  s_iload_n dX9_degree_12 rfl <|
  s_iald dX9_degree_13 <|
  s_goto dX9_degree_14 (by decide) (s_X9_degree_23 h_X9_isSort h_X9_refuses)
noncomputable def b_X9_degree_0 (F_X9_isSort F_X9_refuses : KF) : KC := o_aload 0 <| o_iload 1 <| o_cV1 2 9 F_X9_isSort <| o_c1 g_eq (b_X9_degree_17 F_X9_isSort F_X9_refuses) (b_X9_degree_8 F_X9_isSort F_X9_refuses)
set_option maxRecDepth 100000 in
theorem s_X9_degree_0 {l : Launch} {D : va_G} {cI cS cM : ClassId} {F_X9_isSort F_X9_refuses : KF} (h_X9_isSort : k_snd l D cI cS cM yX9_isSort cX9_isSort 2 (some .boolean) 8 2 F_X9_isSort) (h_X9_refuses : k_snd l D cI cS cM yX9_refuses cX9_refuses 2 (some .int) 1 2 F_X9_refuses) : KS l D cI cS cM yX9_degree.cls yX9_degree.name cX9_degree 2 (some .int) (k_rm 9 0 0) false 0 0 (b_X9_degree_0 F_X9_isSort F_X9_refuses) :=
  s_aload_n dX9_degree_0 rfl <|
  s_iload_n dX9_degree_1 rfl <|
  s_callV1 dX9_degree_2 kw_28_23 kw_29_0 kw_29_1 (ci := 9) rfl ok_X9_isSort (by decide) (by decide) h_X9_isSort (by decide) <|
  s_if_eq dX9_degree_5 (by decide) (s_X9_degree_17 h_X9_isSort h_X9_refuses) (s_X9_degree_8 h_X9_isSort h_X9_refuses)
noncomputable def m_X9_degree (F_X9_isSort F_X9_refuses : KF) : KF := k_fun [] (b_X9_degree_0 F_X9_isSort F_X9_refuses)
theorem r_X9_degree {l : Launch} {D : va_G} {cI cS cM : ClassId} {F_X9_isSort F_X9_refuses : KF} (h_X9_isSort : k_snd l D cI cS cM yX9_isSort cX9_isSort 2 (some .boolean) 8 2 F_X9_isSort) (h_X9_refuses : k_snd l D cI cS cM yX9_refuses cX9_refuses 2 (some .int) 1 2 F_X9_refuses) : k_snd l D cI cS cM yX9_degree cX9_degree 2 (some .int) 9 2 (m_X9_degree F_X9_isSort F_X9_refuses) :=
  k_method (by decide +kernel) (by simp) rfl (s_X9_degree_0 h_X9_isSort h_X9_refuses)
noncomputable def b_X9_digest_154 (F_X9_toldOf F_X9_mix F_X9_ofAll F_X9_ofSort F_X9_mirrorOf : KF) (J : List KC) : KC := o_aload 0 <| o_get 9 39 <| o_lret
set_option maxRecDepth 100000 in
theorem s_X9_digest_154 {l : Launch} {D : va_G} {cI cS cM : ClassId} {F_X9_toldOf F_X9_mix F_X9_ofAll F_X9_ofSort F_X9_mirrorOf : KF} (h_X9_toldOf : k_snd l D cI cS cM yX9_toldOf cX9_toldOf 2 (some .int) 1 2 F_X9_toldOf) (h_X9_mix : k_snd l D cI cS cM yX9_mix cX9_mix 2 none 1 2 F_X9_mix) (h_X9_ofAll : k_snd l D cI cS cM yX9_ofAll cX9_ofAll 4 (some .int) 8 2 F_X9_ofAll) (h_X9_ofSort : k_snd l D cI cS cM yX9_ofSort cX9_ofSort 3 (some .int) 3 3 F_X9_ofSort) (h_X9_mirrorOf : k_snd l D cI cS cM yX9_mirrorOf cX9_mirrorOf 4 (some .int) 4 2 F_X9_mirrorOf) {J : List KC} (hJ : ∀ (i pc d : Nat), ([(9, 0), (32, 0), (55, 0), (90, 0), (110, 0)] : List (Nat × Nat))[i]? = some (pc, d) → KS l D cI cS cM yX9_digest.cls yX9_digest.name cX9_digest 3 (some .long) (k_rm 9 0 0) false pc d (k_jmp J i)) : KS l D cI cS cM yX9_digest.cls yX9_digest.name cX9_digest 3 (some .long) (k_rm 9 0 0) false 154 0 (b_X9_digest_154 F_X9_toldOf F_X9_mix F_X9_ofAll F_X9_ofSort F_X9_mirrorOf J) :=
  s_aload_n dX9_digest_154 rfl <|
  s_get dX9_digest_155 (ci := 9) (sl := 39) (Cn := RX9) (Tf := TX9) (N := 40) rfl (by decide) kiX9 kw_40_13 <|
  s_lreturn dX9_digest_158 rfl
noncomputable def b_X9_digest_139 (F_X9_toldOf F_X9_mix F_X9_ofAll F_X9_ofSort F_X9_mirrorOf : KF) (J : List KC) : KC := o_aload 0 <| o_aload 0 <| o_iload 1 <| o_cV1 2 9 F_X9_mirrorOf <| o_cV0 2 9 F_X9_mix <| o_iinc 1 1 <| k_jmp J 3
set_option maxRecDepth 100000 in
theorem s_X9_digest_139 {l : Launch} {D : va_G} {cI cS cM : ClassId} {F_X9_toldOf F_X9_mix F_X9_ofAll F_X9_ofSort F_X9_mirrorOf : KF} (h_X9_toldOf : k_snd l D cI cS cM yX9_toldOf cX9_toldOf 2 (some .int) 1 2 F_X9_toldOf) (h_X9_mix : k_snd l D cI cS cM yX9_mix cX9_mix 2 none 1 2 F_X9_mix) (h_X9_ofAll : k_snd l D cI cS cM yX9_ofAll cX9_ofAll 4 (some .int) 8 2 F_X9_ofAll) (h_X9_ofSort : k_snd l D cI cS cM yX9_ofSort cX9_ofSort 3 (some .int) 3 3 F_X9_ofSort) (h_X9_mirrorOf : k_snd l D cI cS cM yX9_mirrorOf cX9_mirrorOf 4 (some .int) 4 2 F_X9_mirrorOf) {J : List KC} (hJ : ∀ (i pc d : Nat), ([(9, 0), (32, 0), (55, 0), (90, 0), (110, 0)] : List (Nat × Nat))[i]? = some (pc, d) → KS l D cI cS cM yX9_digest.cls yX9_digest.name cX9_digest 3 (some .long) (k_rm 9 0 0) false pc d (k_jmp J i)) : KS l D cI cS cM yX9_digest.cls yX9_digest.name cX9_digest 3 (some .long) (k_rm 9 0 0) false 139 0 (b_X9_digest_139 F_X9_toldOf F_X9_mix F_X9_ofAll F_X9_ofSort F_X9_mirrorOf J) :=
  s_aload_n dX9_digest_139 rfl <|
  s_aload_n dX9_digest_140 rfl <|
  s_iload_n dX9_digest_141 rfl <|
  s_callV1 dX9_digest_142 kw_32_10 kw_32_11 kw_32_12 (ci := 9) rfl ok_X9_mirrorOf (by decide) (by decide) h_X9_mirrorOf (by decide) <|
  s_callV0 dX9_digest_145 kw_40_14 kw_40_15 kw_40_16 (ci := 9) rfl ok_X9_mix (by decide) (by decide) h_X9_mix (by decide) <|
  s_iinc dX9_digest_148 (by decide) (by decide) <|
  s_goto dX9_digest_151 (by decide) (hJ 3 _ _ rfl)
noncomputable def b_X9_digest_118 (F_X9_toldOf F_X9_mix F_X9_ofAll F_X9_ofSort F_X9_mirrorOf : KF) (J : List KC) : KC := o_aload 0 <| o_aload 0 <| o_get 9 29 <| o_push 8 <| o_iload 1 <| o_bin n_mul <| o_iload 2 <| o_bin n_add <| o_iald <| o_cV0 2 9 F_X9_mix <| o_iinc 2 1 <| k_jmp J 4
set_option maxRecDepth 100000 in
theorem s_X9_digest_118 {l : Launch} {D : va_G} {cI cS cM : ClassId} {F_X9_toldOf F_X9_mix F_X9_ofAll F_X9_ofSort F_X9_mirrorOf : KF} (h_X9_toldOf : k_snd l D cI cS cM yX9_toldOf cX9_toldOf 2 (some .int) 1 2 F_X9_toldOf) (h_X9_mix : k_snd l D cI cS cM yX9_mix cX9_mix 2 none 1 2 F_X9_mix) (h_X9_ofAll : k_snd l D cI cS cM yX9_ofAll cX9_ofAll 4 (some .int) 8 2 F_X9_ofAll) (h_X9_ofSort : k_snd l D cI cS cM yX9_ofSort cX9_ofSort 3 (some .int) 3 3 F_X9_ofSort) (h_X9_mirrorOf : k_snd l D cI cS cM yX9_mirrorOf cX9_mirrorOf 4 (some .int) 4 2 F_X9_mirrorOf) {J : List KC} (hJ : ∀ (i pc d : Nat), ([(9, 0), (32, 0), (55, 0), (90, 0), (110, 0)] : List (Nat × Nat))[i]? = some (pc, d) → KS l D cI cS cM yX9_digest.cls yX9_digest.name cX9_digest 3 (some .long) (k_rm 9 0 0) false pc d (k_jmp J i)) : KS l D cI cS cM yX9_digest.cls yX9_digest.name cX9_digest 3 (some .long) (k_rm 9 0 0) false 118 0 (b_X9_digest_118 F_X9_toldOf F_X9_mix F_X9_ofAll F_X9_ofSort F_X9_mirrorOf J) :=
  s_aload_n dX9_digest_118 rfl <|
  s_aload_n dX9_digest_119 rfl <|
  s_get dX9_digest_120 (ci := 9) (sl := 29) (Cn := RX9) (Tf := TX9) (N := 40) rfl (by decide) kiX9 kw_7_12 <|
  s_push2 dX9_digest_123 (by decide) (by decide) <|
  s_iload_n dX9_digest_125 rfl <|
  s_imul dX9_digest_126 <|
  s_iload_n dX9_digest_127 rfl <|
  s_iadd dX9_digest_128 <|
  s_iald dX9_digest_129 <|
  s_callV0 dX9_digest_130 kw_40_14 kw_40_15 kw_40_16 (ci := 9) rfl ok_X9_mix (by decide) (by decide) h_X9_mix (by decide) <|
  s_iinc dX9_digest_133 (by decide) (by decide) <|
  s_goto dX9_digest_136 (by decide) (hJ 4 _ _ rfl)
noncomputable def b_X9_digest_110 (F_X9_toldOf F_X9_mix F_X9_ofAll F_X9_ofSort F_X9_mirrorOf : KF) (J : List KC) : KC := o_iload 2 <| o_aload 0 <| o_get 9 12 <| o_c2 s_lt (b_X9_digest_118 F_X9_toldOf F_X9_mix F_X9_ofAll F_X9_ofSort F_X9_mirrorOf J) (b_X9_digest_139 F_X9_toldOf F_X9_mix F_X9_ofAll F_X9_ofSort F_X9_mirrorOf J)
set_option maxRecDepth 100000 in
theorem s_X9_digest_110 {l : Launch} {D : va_G} {cI cS cM : ClassId} {F_X9_toldOf F_X9_mix F_X9_ofAll F_X9_ofSort F_X9_mirrorOf : KF} (h_X9_toldOf : k_snd l D cI cS cM yX9_toldOf cX9_toldOf 2 (some .int) 1 2 F_X9_toldOf) (h_X9_mix : k_snd l D cI cS cM yX9_mix cX9_mix 2 none 1 2 F_X9_mix) (h_X9_ofAll : k_snd l D cI cS cM yX9_ofAll cX9_ofAll 4 (some .int) 8 2 F_X9_ofAll) (h_X9_ofSort : k_snd l D cI cS cM yX9_ofSort cX9_ofSort 3 (some .int) 3 3 F_X9_ofSort) (h_X9_mirrorOf : k_snd l D cI cS cM yX9_mirrorOf cX9_mirrorOf 4 (some .int) 4 2 F_X9_mirrorOf) {J : List KC} (hJ : ∀ (i pc d : Nat), ([(9, 0), (32, 0), (55, 0), (90, 0), (110, 0)] : List (Nat × Nat))[i]? = some (pc, d) → KS l D cI cS cM yX9_digest.cls yX9_digest.name cX9_digest 3 (some .long) (k_rm 9 0 0) false pc d (k_jmp J i)) : KS l D cI cS cM yX9_digest.cls yX9_digest.name cX9_digest 3 (some .long) (k_rm 9 0 0) false 110 0 (b_X9_digest_110 F_X9_toldOf F_X9_mix F_X9_ofAll F_X9_ofSort F_X9_mirrorOf J) :=
  s_iload_n dX9_digest_110 rfl <|
  s_aload_n dX9_digest_111 rfl <|
  s_get dX9_digest_112 (ci := 9) (sl := 12) (Cn := RX9) (Tf := TX9) (N := 40) rfl (by decide) kiX9 kw_22_14 <|
  s_icmp_ge dX9_digest_115 (by decide) (s_X9_digest_139 h_X9_toldOf h_X9_mix h_X9_ofAll h_X9_ofSort h_X9_mirrorOf hJ) (s_X9_digest_118 h_X9_toldOf h_X9_mix h_X9_ofAll h_X9_ofSort h_X9_mirrorOf hJ)
noncomputable def b_X9_digest_98 (F_X9_toldOf F_X9_mix F_X9_ofAll F_X9_ofSort F_X9_mirrorOf : KF) (J : List KC) : KC := o_aload 0 <| o_aload 0 <| o_get 9 28 <| o_iload 1 <| o_iald <| o_cV0 2 9 F_X9_mix <| o_push 0 <| o_istore 2 <| b_X9_digest_110 F_X9_toldOf F_X9_mix F_X9_ofAll F_X9_ofSort F_X9_mirrorOf J
set_option maxRecDepth 100000 in
theorem s_X9_digest_98 {l : Launch} {D : va_G} {cI cS cM : ClassId} {F_X9_toldOf F_X9_mix F_X9_ofAll F_X9_ofSort F_X9_mirrorOf : KF} (h_X9_toldOf : k_snd l D cI cS cM yX9_toldOf cX9_toldOf 2 (some .int) 1 2 F_X9_toldOf) (h_X9_mix : k_snd l D cI cS cM yX9_mix cX9_mix 2 none 1 2 F_X9_mix) (h_X9_ofAll : k_snd l D cI cS cM yX9_ofAll cX9_ofAll 4 (some .int) 8 2 F_X9_ofAll) (h_X9_ofSort : k_snd l D cI cS cM yX9_ofSort cX9_ofSort 3 (some .int) 3 3 F_X9_ofSort) (h_X9_mirrorOf : k_snd l D cI cS cM yX9_mirrorOf cX9_mirrorOf 4 (some .int) 4 2 F_X9_mirrorOf) {J : List KC} (hJ : ∀ (i pc d : Nat), ([(9, 0), (32, 0), (55, 0), (90, 0), (110, 0)] : List (Nat × Nat))[i]? = some (pc, d) → KS l D cI cS cM yX9_digest.cls yX9_digest.name cX9_digest 3 (some .long) (k_rm 9 0 0) false pc d (k_jmp J i)) : KS l D cI cS cM yX9_digest.cls yX9_digest.name cX9_digest 3 (some .long) (k_rm 9 0 0) false 98 0 (b_X9_digest_98 F_X9_toldOf F_X9_mix F_X9_ofAll F_X9_ofSort F_X9_mirrorOf J) :=
  s_aload_n dX9_digest_98 rfl <|
  s_aload_n dX9_digest_99 rfl <|
  s_get dX9_digest_100 (ci := 9) (sl := 28) (Cn := RX9) (Tf := TX9) (N := 40) rfl (by decide) kiX9 kw_7_11 <|
  s_iload_n dX9_digest_103 rfl <|
  s_iald dX9_digest_104 <|
  s_callV0 dX9_digest_105 kw_40_14 kw_40_15 kw_40_16 (ci := 9) rfl ok_X9_mix (by decide) (by decide) h_X9_mix (by decide) <|
  s_push1 dX9_digest_108 (by decide) (by decide) <|
  s_istore_n dX9_digest_109 rfl (by decide) <|
  s_X9_digest_110 h_X9_toldOf h_X9_mix h_X9_ofAll h_X9_ofSort h_X9_mirrorOf hJ
noncomputable def b_X9_digest_90 (F_X9_toldOf F_X9_mix F_X9_ofAll F_X9_ofSort F_X9_mirrorOf : KF) (J : List KC) : KC := o_iload 1 <| o_aload 0 <| o_get 9 12 <| o_c2 s_lt (b_X9_digest_98 F_X9_toldOf F_X9_mix F_X9_ofAll F_X9_ofSort F_X9_mirrorOf J) (b_X9_digest_154 F_X9_toldOf F_X9_mix F_X9_ofAll F_X9_ofSort F_X9_mirrorOf J)
set_option maxRecDepth 100000 in
theorem s_X9_digest_90 {l : Launch} {D : va_G} {cI cS cM : ClassId} {F_X9_toldOf F_X9_mix F_X9_ofAll F_X9_ofSort F_X9_mirrorOf : KF} (h_X9_toldOf : k_snd l D cI cS cM yX9_toldOf cX9_toldOf 2 (some .int) 1 2 F_X9_toldOf) (h_X9_mix : k_snd l D cI cS cM yX9_mix cX9_mix 2 none 1 2 F_X9_mix) (h_X9_ofAll : k_snd l D cI cS cM yX9_ofAll cX9_ofAll 4 (some .int) 8 2 F_X9_ofAll) (h_X9_ofSort : k_snd l D cI cS cM yX9_ofSort cX9_ofSort 3 (some .int) 3 3 F_X9_ofSort) (h_X9_mirrorOf : k_snd l D cI cS cM yX9_mirrorOf cX9_mirrorOf 4 (some .int) 4 2 F_X9_mirrorOf) {J : List KC} (hJ : ∀ (i pc d : Nat), ([(9, 0), (32, 0), (55, 0), (90, 0), (110, 0)] : List (Nat × Nat))[i]? = some (pc, d) → KS l D cI cS cM yX9_digest.cls yX9_digest.name cX9_digest 3 (some .long) (k_rm 9 0 0) false pc d (k_jmp J i)) : KS l D cI cS cM yX9_digest.cls yX9_digest.name cX9_digest 3 (some .long) (k_rm 9 0 0) false 90 0 (b_X9_digest_90 F_X9_toldOf F_X9_mix F_X9_ofAll F_X9_ofSort F_X9_mirrorOf J) :=
  s_iload_n dX9_digest_90 rfl <|
  s_aload_n dX9_digest_91 rfl <|
  s_get dX9_digest_92 (ci := 9) (sl := 12) (Cn := RX9) (Tf := TX9) (N := 40) rfl (by decide) kiX9 kw_22_14 <|
  s_icmp_ge dX9_digest_95 (by decide) (s_X9_digest_154 h_X9_toldOf h_X9_mix h_X9_ofAll h_X9_ofSort h_X9_mirrorOf hJ) (s_X9_digest_98 h_X9_toldOf h_X9_mix h_X9_ofAll h_X9_ofSort h_X9_mirrorOf hJ)
noncomputable def b_X9_digest_88 (F_X9_toldOf F_X9_mix F_X9_ofAll F_X9_ofSort F_X9_mirrorOf : KF) (J : List KC) : KC := o_push 0 <| o_istore 1 <| b_X9_digest_90 F_X9_toldOf F_X9_mix F_X9_ofAll F_X9_ofSort F_X9_mirrorOf J
set_option maxRecDepth 100000 in
theorem s_X9_digest_88 {l : Launch} {D : va_G} {cI cS cM : ClassId} {F_X9_toldOf F_X9_mix F_X9_ofAll F_X9_ofSort F_X9_mirrorOf : KF} (h_X9_toldOf : k_snd l D cI cS cM yX9_toldOf cX9_toldOf 2 (some .int) 1 2 F_X9_toldOf) (h_X9_mix : k_snd l D cI cS cM yX9_mix cX9_mix 2 none 1 2 F_X9_mix) (h_X9_ofAll : k_snd l D cI cS cM yX9_ofAll cX9_ofAll 4 (some .int) 8 2 F_X9_ofAll) (h_X9_ofSort : k_snd l D cI cS cM yX9_ofSort cX9_ofSort 3 (some .int) 3 3 F_X9_ofSort) (h_X9_mirrorOf : k_snd l D cI cS cM yX9_mirrorOf cX9_mirrorOf 4 (some .int) 4 2 F_X9_mirrorOf) {J : List KC} (hJ : ∀ (i pc d : Nat), ([(9, 0), (32, 0), (55, 0), (90, 0), (110, 0)] : List (Nat × Nat))[i]? = some (pc, d) → KS l D cI cS cM yX9_digest.cls yX9_digest.name cX9_digest 3 (some .long) (k_rm 9 0 0) false pc d (k_jmp J i)) : KS l D cI cS cM yX9_digest.cls yX9_digest.name cX9_digest 3 (some .long) (k_rm 9 0 0) false 88 0 (b_X9_digest_88 F_X9_toldOf F_X9_mix F_X9_ofAll F_X9_ofSort F_X9_mirrorOf J) :=
  s_push1 dX9_digest_88 (by decide) (by decide) <|
  s_istore_n dX9_digest_89 rfl (by decide) <|
  s_X9_digest_90 h_X9_toldOf h_X9_mix h_X9_ofAll h_X9_ofSort h_X9_mirrorOf hJ
noncomputable def b_X9_digest_66 (F_X9_toldOf F_X9_mix F_X9_ofAll F_X9_ofSort F_X9_mirrorOf : KF) (J : List KC) : KC := o_aload 0 <| o_aload 0 <| o_iload 1 <| o_push 6 <| o_div n_div <| o_iload 1 <| o_push 6 <| o_div n_rem <| o_cV1 3 9 F_X9_ofSort <| o_cV0 2 9 F_X9_mix <| o_iinc 1 1 <| k_jmp J 2
set_option maxRecDepth 100000 in
theorem s_X9_digest_66 {l : Launch} {D : va_G} {cI cS cM : ClassId} {F_X9_toldOf F_X9_mix F_X9_ofAll F_X9_ofSort F_X9_mirrorOf : KF} (h_X9_toldOf : k_snd l D cI cS cM yX9_toldOf cX9_toldOf 2 (some .int) 1 2 F_X9_toldOf) (h_X9_mix : k_snd l D cI cS cM yX9_mix cX9_mix 2 none 1 2 F_X9_mix) (h_X9_ofAll : k_snd l D cI cS cM yX9_ofAll cX9_ofAll 4 (some .int) 8 2 F_X9_ofAll) (h_X9_ofSort : k_snd l D cI cS cM yX9_ofSort cX9_ofSort 3 (some .int) 3 3 F_X9_ofSort) (h_X9_mirrorOf : k_snd l D cI cS cM yX9_mirrorOf cX9_mirrorOf 4 (some .int) 4 2 F_X9_mirrorOf) {J : List KC} (hJ : ∀ (i pc d : Nat), ([(9, 0), (32, 0), (55, 0), (90, 0), (110, 0)] : List (Nat × Nat))[i]? = some (pc, d) → KS l D cI cS cM yX9_digest.cls yX9_digest.name cX9_digest 3 (some .long) (k_rm 9 0 0) false pc d (k_jmp J i)) : KS l D cI cS cM yX9_digest.cls yX9_digest.name cX9_digest 3 (some .long) (k_rm 9 0 0) false 66 0 (b_X9_digest_66 F_X9_toldOf F_X9_mix F_X9_ofAll F_X9_ofSort F_X9_mirrorOf J) :=
  s_aload_n dX9_digest_66 rfl <|
  s_aload_n dX9_digest_67 rfl <|
  s_iload_n dX9_digest_68 rfl <|
  s_push2 dX9_digest_69 (by decide) (by decide) <|
  s_idiv dX9_digest_71 <|
  s_iload_n dX9_digest_72 rfl <|
  s_push2 dX9_digest_73 (by decide) (by decide) <|
  s_irem dX9_digest_75 <|
  s_callV1 dX9_digest_76 kw_29_3 kw_29_4 kw_29_5 (ci := 9) rfl ok_X9_ofSort (by decide) (by decide) h_X9_ofSort (by decide) <|
  s_callV0 dX9_digest_79 kw_40_14 kw_40_15 kw_40_16 (ci := 9) rfl ok_X9_mix (by decide) (by decide) h_X9_mix (by decide) <|
  s_iinc dX9_digest_82 (by decide) (by decide) <|
  s_goto dX9_digest_85 (by decide) (hJ 2 _ _ rfl)
noncomputable def b_X9_digest_55 (F_X9_toldOf F_X9_mix F_X9_ofAll F_X9_ofSort F_X9_mirrorOf : KF) (J : List KC) : KC := o_iload 1 <| o_push 6 <| o_aload 0 <| o_get 9 12 <| o_bin n_mul <| o_c2 s_lt (b_X9_digest_66 F_X9_toldOf F_X9_mix F_X9_ofAll F_X9_ofSort F_X9_mirrorOf J) (b_X9_digest_88 F_X9_toldOf F_X9_mix F_X9_ofAll F_X9_ofSort F_X9_mirrorOf J)
set_option maxRecDepth 100000 in
theorem s_X9_digest_55 {l : Launch} {D : va_G} {cI cS cM : ClassId} {F_X9_toldOf F_X9_mix F_X9_ofAll F_X9_ofSort F_X9_mirrorOf : KF} (h_X9_toldOf : k_snd l D cI cS cM yX9_toldOf cX9_toldOf 2 (some .int) 1 2 F_X9_toldOf) (h_X9_mix : k_snd l D cI cS cM yX9_mix cX9_mix 2 none 1 2 F_X9_mix) (h_X9_ofAll : k_snd l D cI cS cM yX9_ofAll cX9_ofAll 4 (some .int) 8 2 F_X9_ofAll) (h_X9_ofSort : k_snd l D cI cS cM yX9_ofSort cX9_ofSort 3 (some .int) 3 3 F_X9_ofSort) (h_X9_mirrorOf : k_snd l D cI cS cM yX9_mirrorOf cX9_mirrorOf 4 (some .int) 4 2 F_X9_mirrorOf) {J : List KC} (hJ : ∀ (i pc d : Nat), ([(9, 0), (32, 0), (55, 0), (90, 0), (110, 0)] : List (Nat × Nat))[i]? = some (pc, d) → KS l D cI cS cM yX9_digest.cls yX9_digest.name cX9_digest 3 (some .long) (k_rm 9 0 0) false pc d (k_jmp J i)) : KS l D cI cS cM yX9_digest.cls yX9_digest.name cX9_digest 3 (some .long) (k_rm 9 0 0) false 55 0 (b_X9_digest_55 F_X9_toldOf F_X9_mix F_X9_ofAll F_X9_ofSort F_X9_mirrorOf J) :=
  s_iload_n dX9_digest_55 rfl <|
  s_push2 dX9_digest_56 (by decide) (by decide) <|
  s_aload_n dX9_digest_58 rfl <|
  s_get dX9_digest_59 (ci := 9) (sl := 12) (Cn := RX9) (Tf := TX9) (N := 40) rfl (by decide) kiX9 kw_22_14 <|
  s_imul dX9_digest_62 <|
  s_icmp_ge dX9_digest_63 (by decide) (s_X9_digest_88 h_X9_toldOf h_X9_mix h_X9_ofAll h_X9_ofSort h_X9_mirrorOf hJ) (s_X9_digest_66 h_X9_toldOf h_X9_mix h_X9_ofAll h_X9_ofSort h_X9_mirrorOf hJ)
noncomputable def b_X9_digest_53 (F_X9_toldOf F_X9_mix F_X9_ofAll F_X9_ofSort F_X9_mirrorOf : KF) (J : List KC) : KC := o_push 0 <| o_istore 1 <| b_X9_digest_55 F_X9_toldOf F_X9_mix F_X9_ofAll F_X9_ofSort F_X9_mirrorOf J
set_option maxRecDepth 100000 in
theorem s_X9_digest_53 {l : Launch} {D : va_G} {cI cS cM : ClassId} {F_X9_toldOf F_X9_mix F_X9_ofAll F_X9_ofSort F_X9_mirrorOf : KF} (h_X9_toldOf : k_snd l D cI cS cM yX9_toldOf cX9_toldOf 2 (some .int) 1 2 F_X9_toldOf) (h_X9_mix : k_snd l D cI cS cM yX9_mix cX9_mix 2 none 1 2 F_X9_mix) (h_X9_ofAll : k_snd l D cI cS cM yX9_ofAll cX9_ofAll 4 (some .int) 8 2 F_X9_ofAll) (h_X9_ofSort : k_snd l D cI cS cM yX9_ofSort cX9_ofSort 3 (some .int) 3 3 F_X9_ofSort) (h_X9_mirrorOf : k_snd l D cI cS cM yX9_mirrorOf cX9_mirrorOf 4 (some .int) 4 2 F_X9_mirrorOf) {J : List KC} (hJ : ∀ (i pc d : Nat), ([(9, 0), (32, 0), (55, 0), (90, 0), (110, 0)] : List (Nat × Nat))[i]? = some (pc, d) → KS l D cI cS cM yX9_digest.cls yX9_digest.name cX9_digest 3 (some .long) (k_rm 9 0 0) false pc d (k_jmp J i)) : KS l D cI cS cM yX9_digest.cls yX9_digest.name cX9_digest 3 (some .long) (k_rm 9 0 0) false 53 0 (b_X9_digest_53 F_X9_toldOf F_X9_mix F_X9_ofAll F_X9_ofSort F_X9_mirrorOf J) :=
  s_push1 dX9_digest_53 (by decide) (by decide) <|
  s_istore_n dX9_digest_54 rfl (by decide) <|
  s_X9_digest_55 h_X9_toldOf h_X9_mix h_X9_ofAll h_X9_ofSort h_X9_mirrorOf hJ
noncomputable def b_X9_digest_38 (F_X9_toldOf F_X9_mix F_X9_ofAll F_X9_ofSort F_X9_mirrorOf : KF) (J : List KC) : KC := o_aload 0 <| o_aload 0 <| o_iload 1 <| o_cV1 2 9 F_X9_ofAll <| o_cV0 2 9 F_X9_mix <| o_iinc 1 1 <| k_jmp J 1
set_option maxRecDepth 100000 in
theorem s_X9_digest_38 {l : Launch} {D : va_G} {cI cS cM : ClassId} {F_X9_toldOf F_X9_mix F_X9_ofAll F_X9_ofSort F_X9_mirrorOf : KF} (h_X9_toldOf : k_snd l D cI cS cM yX9_toldOf cX9_toldOf 2 (some .int) 1 2 F_X9_toldOf) (h_X9_mix : k_snd l D cI cS cM yX9_mix cX9_mix 2 none 1 2 F_X9_mix) (h_X9_ofAll : k_snd l D cI cS cM yX9_ofAll cX9_ofAll 4 (some .int) 8 2 F_X9_ofAll) (h_X9_ofSort : k_snd l D cI cS cM yX9_ofSort cX9_ofSort 3 (some .int) 3 3 F_X9_ofSort) (h_X9_mirrorOf : k_snd l D cI cS cM yX9_mirrorOf cX9_mirrorOf 4 (some .int) 4 2 F_X9_mirrorOf) {J : List KC} (hJ : ∀ (i pc d : Nat), ([(9, 0), (32, 0), (55, 0), (90, 0), (110, 0)] : List (Nat × Nat))[i]? = some (pc, d) → KS l D cI cS cM yX9_digest.cls yX9_digest.name cX9_digest 3 (some .long) (k_rm 9 0 0) false pc d (k_jmp J i)) : KS l D cI cS cM yX9_digest.cls yX9_digest.name cX9_digest 3 (some .long) (k_rm 9 0 0) false 38 0 (b_X9_digest_38 F_X9_toldOf F_X9_mix F_X9_ofAll F_X9_ofSort F_X9_mirrorOf J) :=
  s_aload_n dX9_digest_38 rfl <|
  s_aload_n dX9_digest_39 rfl <|
  s_iload_n dX9_digest_40 rfl <|
  s_callV1 dX9_digest_41 kw_22_9 kw_22_10 kw_22_11 (ci := 9) rfl ok_X9_ofAll (by decide) (by decide) h_X9_ofAll (by decide) <|
  s_callV0 dX9_digest_44 kw_40_14 kw_40_15 kw_40_16 (ci := 9) rfl ok_X9_mix (by decide) (by decide) h_X9_mix (by decide) <|
  s_iinc dX9_digest_47 (by decide) (by decide) <|
  s_goto dX9_digest_50 (by decide) (hJ 1 _ _ rfl)
noncomputable def b_X9_digest_32 (F_X9_toldOf F_X9_mix F_X9_ofAll F_X9_ofSort F_X9_mirrorOf : KF) (J : List KC) : KC := o_iload 1 <| o_push 8 <| o_c2 s_lt (b_X9_digest_38 F_X9_toldOf F_X9_mix F_X9_ofAll F_X9_ofSort F_X9_mirrorOf J) (b_X9_digest_53 F_X9_toldOf F_X9_mix F_X9_ofAll F_X9_ofSort F_X9_mirrorOf J)
set_option maxRecDepth 100000 in
theorem s_X9_digest_32 {l : Launch} {D : va_G} {cI cS cM : ClassId} {F_X9_toldOf F_X9_mix F_X9_ofAll F_X9_ofSort F_X9_mirrorOf : KF} (h_X9_toldOf : k_snd l D cI cS cM yX9_toldOf cX9_toldOf 2 (some .int) 1 2 F_X9_toldOf) (h_X9_mix : k_snd l D cI cS cM yX9_mix cX9_mix 2 none 1 2 F_X9_mix) (h_X9_ofAll : k_snd l D cI cS cM yX9_ofAll cX9_ofAll 4 (some .int) 8 2 F_X9_ofAll) (h_X9_ofSort : k_snd l D cI cS cM yX9_ofSort cX9_ofSort 3 (some .int) 3 3 F_X9_ofSort) (h_X9_mirrorOf : k_snd l D cI cS cM yX9_mirrorOf cX9_mirrorOf 4 (some .int) 4 2 F_X9_mirrorOf) {J : List KC} (hJ : ∀ (i pc d : Nat), ([(9, 0), (32, 0), (55, 0), (90, 0), (110, 0)] : List (Nat × Nat))[i]? = some (pc, d) → KS l D cI cS cM yX9_digest.cls yX9_digest.name cX9_digest 3 (some .long) (k_rm 9 0 0) false pc d (k_jmp J i)) : KS l D cI cS cM yX9_digest.cls yX9_digest.name cX9_digest 3 (some .long) (k_rm 9 0 0) false 32 0 (b_X9_digest_32 F_X9_toldOf F_X9_mix F_X9_ofAll F_X9_ofSort F_X9_mirrorOf J) :=
  s_iload_n dX9_digest_32 rfl <|
  s_push2 dX9_digest_33 (by decide) (by decide) <|
  s_icmp_ge dX9_digest_35 (by decide) (s_X9_digest_53 h_X9_toldOf h_X9_mix h_X9_ofAll h_X9_ofSort h_X9_mirrorOf hJ) (s_X9_digest_38 h_X9_toldOf h_X9_mix h_X9_ofAll h_X9_ofSort h_X9_mirrorOf hJ)
noncomputable def b_X9_digest_30 (F_X9_toldOf F_X9_mix F_X9_ofAll F_X9_ofSort F_X9_mirrorOf : KF) (J : List KC) : KC := o_push 0 <| o_istore 1 <| b_X9_digest_32 F_X9_toldOf F_X9_mix F_X9_ofAll F_X9_ofSort F_X9_mirrorOf J
set_option maxRecDepth 100000 in
theorem s_X9_digest_30 {l : Launch} {D : va_G} {cI cS cM : ClassId} {F_X9_toldOf F_X9_mix F_X9_ofAll F_X9_ofSort F_X9_mirrorOf : KF} (h_X9_toldOf : k_snd l D cI cS cM yX9_toldOf cX9_toldOf 2 (some .int) 1 2 F_X9_toldOf) (h_X9_mix : k_snd l D cI cS cM yX9_mix cX9_mix 2 none 1 2 F_X9_mix) (h_X9_ofAll : k_snd l D cI cS cM yX9_ofAll cX9_ofAll 4 (some .int) 8 2 F_X9_ofAll) (h_X9_ofSort : k_snd l D cI cS cM yX9_ofSort cX9_ofSort 3 (some .int) 3 3 F_X9_ofSort) (h_X9_mirrorOf : k_snd l D cI cS cM yX9_mirrorOf cX9_mirrorOf 4 (some .int) 4 2 F_X9_mirrorOf) {J : List KC} (hJ : ∀ (i pc d : Nat), ([(9, 0), (32, 0), (55, 0), (90, 0), (110, 0)] : List (Nat × Nat))[i]? = some (pc, d) → KS l D cI cS cM yX9_digest.cls yX9_digest.name cX9_digest 3 (some .long) (k_rm 9 0 0) false pc d (k_jmp J i)) : KS l D cI cS cM yX9_digest.cls yX9_digest.name cX9_digest 3 (some .long) (k_rm 9 0 0) false 30 0 (b_X9_digest_30 F_X9_toldOf F_X9_mix F_X9_ofAll F_X9_ofSort F_X9_mirrorOf J) :=
  s_push1 dX9_digest_30 (by decide) (by decide) <|
  s_istore_n dX9_digest_31 rfl (by decide) <|
  s_X9_digest_32 h_X9_toldOf h_X9_mix h_X9_ofAll h_X9_ofSort h_X9_mirrorOf hJ
noncomputable def b_X9_digest_15 (F_X9_toldOf F_X9_mix F_X9_ofAll F_X9_ofSort F_X9_mirrorOf : KF) (J : List KC) : KC := o_aload 0 <| o_aload 0 <| o_iload 1 <| o_cV1 2 9 F_X9_toldOf <| o_cV0 2 9 F_X9_mix <| o_iinc 1 1 <| k_jmp J 0
set_option maxRecDepth 100000 in
theorem s_X9_digest_15 {l : Launch} {D : va_G} {cI cS cM : ClassId} {F_X9_toldOf F_X9_mix F_X9_ofAll F_X9_ofSort F_X9_mirrorOf : KF} (h_X9_toldOf : k_snd l D cI cS cM yX9_toldOf cX9_toldOf 2 (some .int) 1 2 F_X9_toldOf) (h_X9_mix : k_snd l D cI cS cM yX9_mix cX9_mix 2 none 1 2 F_X9_mix) (h_X9_ofAll : k_snd l D cI cS cM yX9_ofAll cX9_ofAll 4 (some .int) 8 2 F_X9_ofAll) (h_X9_ofSort : k_snd l D cI cS cM yX9_ofSort cX9_ofSort 3 (some .int) 3 3 F_X9_ofSort) (h_X9_mirrorOf : k_snd l D cI cS cM yX9_mirrorOf cX9_mirrorOf 4 (some .int) 4 2 F_X9_mirrorOf) {J : List KC} (hJ : ∀ (i pc d : Nat), ([(9, 0), (32, 0), (55, 0), (90, 0), (110, 0)] : List (Nat × Nat))[i]? = some (pc, d) → KS l D cI cS cM yX9_digest.cls yX9_digest.name cX9_digest 3 (some .long) (k_rm 9 0 0) false pc d (k_jmp J i)) : KS l D cI cS cM yX9_digest.cls yX9_digest.name cX9_digest 3 (some .long) (k_rm 9 0 0) false 15 0 (b_X9_digest_15 F_X9_toldOf F_X9_mix F_X9_ofAll F_X9_ofSort F_X9_mirrorOf J) :=
  s_aload_n dX9_digest_15 rfl <|
  s_aload_n dX9_digest_16 rfl <|
  s_iload_n dX9_digest_17 rfl <|
  s_callV1 dX9_digest_18 kw_39_21 kw_39_22 kw_39_23 (ci := 9) rfl ok_X9_toldOf (by decide) (by decide) h_X9_toldOf (by decide) <|
  s_callV0 dX9_digest_21 kw_40_14 kw_40_15 kw_40_16 (ci := 9) rfl ok_X9_mix (by decide) (by decide) h_X9_mix (by decide) <|
  s_iinc dX9_digest_24 (by decide) (by decide) <|
  s_goto dX9_digest_27 (by decide) (hJ 0 _ _ rfl)
noncomputable def b_X9_digest_9 (F_X9_toldOf F_X9_mix F_X9_ofAll F_X9_ofSort F_X9_mirrorOf : KF) (J : List KC) : KC := o_iload 1 <| o_push 7 <| o_c2 s_lt (b_X9_digest_15 F_X9_toldOf F_X9_mix F_X9_ofAll F_X9_ofSort F_X9_mirrorOf J) (b_X9_digest_30 F_X9_toldOf F_X9_mix F_X9_ofAll F_X9_ofSort F_X9_mirrorOf J)
set_option maxRecDepth 100000 in
theorem s_X9_digest_9 {l : Launch} {D : va_G} {cI cS cM : ClassId} {F_X9_toldOf F_X9_mix F_X9_ofAll F_X9_ofSort F_X9_mirrorOf : KF} (h_X9_toldOf : k_snd l D cI cS cM yX9_toldOf cX9_toldOf 2 (some .int) 1 2 F_X9_toldOf) (h_X9_mix : k_snd l D cI cS cM yX9_mix cX9_mix 2 none 1 2 F_X9_mix) (h_X9_ofAll : k_snd l D cI cS cM yX9_ofAll cX9_ofAll 4 (some .int) 8 2 F_X9_ofAll) (h_X9_ofSort : k_snd l D cI cS cM yX9_ofSort cX9_ofSort 3 (some .int) 3 3 F_X9_ofSort) (h_X9_mirrorOf : k_snd l D cI cS cM yX9_mirrorOf cX9_mirrorOf 4 (some .int) 4 2 F_X9_mirrorOf) {J : List KC} (hJ : ∀ (i pc d : Nat), ([(9, 0), (32, 0), (55, 0), (90, 0), (110, 0)] : List (Nat × Nat))[i]? = some (pc, d) → KS l D cI cS cM yX9_digest.cls yX9_digest.name cX9_digest 3 (some .long) (k_rm 9 0 0) false pc d (k_jmp J i)) : KS l D cI cS cM yX9_digest.cls yX9_digest.name cX9_digest 3 (some .long) (k_rm 9 0 0) false 9 0 (b_X9_digest_9 F_X9_toldOf F_X9_mix F_X9_ofAll F_X9_ofSort F_X9_mirrorOf J) :=
  s_iload_n dX9_digest_9 rfl <|
  s_push2 dX9_digest_10 (by decide) (by decide) <|
  s_icmp_ge dX9_digest_12 (by decide) (s_X9_digest_30 h_X9_toldOf h_X9_mix h_X9_ofAll h_X9_ofSort h_X9_mirrorOf hJ) (s_X9_digest_15 h_X9_toldOf h_X9_mix h_X9_ofAll h_X9_ofSort h_X9_mirrorOf hJ)
noncomputable def b_X9_digest_0 (F_X9_toldOf F_X9_mix F_X9_ofAll F_X9_ofSort F_X9_mirrorOf : KF) (J : List KC) : KC := o_aload 0 <| o_lpush 2447 <| o_putl 9 39 <| o_push 0 <| o_istore 1 <| b_X9_digest_9 F_X9_toldOf F_X9_mix F_X9_ofAll F_X9_ofSort F_X9_mirrorOf J
set_option maxRecDepth 100000 in
theorem s_X9_digest_0 {l : Launch} {D : va_G} {cI cS cM : ClassId} {F_X9_toldOf F_X9_mix F_X9_ofAll F_X9_ofSort F_X9_mirrorOf : KF} (h_X9_toldOf : k_snd l D cI cS cM yX9_toldOf cX9_toldOf 2 (some .int) 1 2 F_X9_toldOf) (h_X9_mix : k_snd l D cI cS cM yX9_mix cX9_mix 2 none 1 2 F_X9_mix) (h_X9_ofAll : k_snd l D cI cS cM yX9_ofAll cX9_ofAll 4 (some .int) 8 2 F_X9_ofAll) (h_X9_ofSort : k_snd l D cI cS cM yX9_ofSort cX9_ofSort 3 (some .int) 3 3 F_X9_ofSort) (h_X9_mirrorOf : k_snd l D cI cS cM yX9_mirrorOf cX9_mirrorOf 4 (some .int) 4 2 F_X9_mirrorOf) {J : List KC} (hJ : ∀ (i pc d : Nat), ([(9, 0), (32, 0), (55, 0), (90, 0), (110, 0)] : List (Nat × Nat))[i]? = some (pc, d) → KS l D cI cS cM yX9_digest.cls yX9_digest.name cX9_digest 3 (some .long) (k_rm 9 0 0) false pc d (k_jmp J i)) : KS l D cI cS cM yX9_digest.cls yX9_digest.name cX9_digest 3 (some .long) (k_rm 9 0 0) false 0 0 (b_X9_digest_0 F_X9_toldOf F_X9_mix F_X9_ofAll F_X9_ofSort F_X9_mirrorOf J) :=
  s_aload_n dX9_digest_0 rfl <|
  s_ldc2 dX9_digest_1 kw_40_12 rfl (by decide) <|
  s_putl dX9_digest_4 (ci := 9) (sl := 39) (Cn := RX9) (Tf := TX9) (N := 40) (tyf := tyX9) rfl (by decide) kiX9 tyX9_ok nmX9 kw_40_13 rfl rfl <|
  s_push1 dX9_digest_7 (by decide) (by decide) <|
  s_istore_n dX9_digest_8 rfl (by decide) <|
  s_X9_digest_9 h_X9_toldOf h_X9_mix h_X9_ofAll h_X9_ofSort h_X9_mirrorOf hJ
noncomputable def j_X9_digest (F_X9_toldOf F_X9_mix F_X9_ofAll F_X9_ofSort F_X9_mirrorOf : KF) (J : List KC) : List KC := [b_X9_digest_9 F_X9_toldOf F_X9_mix F_X9_ofAll F_X9_ofSort F_X9_mirrorOf J, b_X9_digest_32 F_X9_toldOf F_X9_mix F_X9_ofAll F_X9_ofSort F_X9_mirrorOf J, b_X9_digest_55 F_X9_toldOf F_X9_mix F_X9_ofAll F_X9_ofSort F_X9_mirrorOf J, b_X9_digest_90 F_X9_toldOf F_X9_mix F_X9_ofAll F_X9_ofSort F_X9_mirrorOf J, b_X9_digest_110 F_X9_toldOf F_X9_mix F_X9_ofAll F_X9_ofSort F_X9_mirrorOf J]
noncomputable def m_X9_digest (F_X9_toldOf F_X9_mix F_X9_ofAll F_X9_ofSort F_X9_mirrorOf : KF) (n : Nat) : KF := k_fun [k_u, k_u] (b_X9_digest_0 F_X9_toldOf F_X9_mix F_X9_ofAll F_X9_ofSort F_X9_mirrorOf (k_loop (j_X9_digest F_X9_toldOf F_X9_mix F_X9_ofAll F_X9_ofSort F_X9_mirrorOf) n))
theorem r_X9_digest {l : Launch} {D : va_G} {cI cS cM : ClassId} {F_X9_toldOf F_X9_mix F_X9_ofAll F_X9_ofSort F_X9_mirrorOf : KF} (h_X9_toldOf : k_snd l D cI cS cM yX9_toldOf cX9_toldOf 2 (some .int) 1 2 F_X9_toldOf) (h_X9_mix : k_snd l D cI cS cM yX9_mix cX9_mix 2 none 1 2 F_X9_mix) (h_X9_ofAll : k_snd l D cI cS cM yX9_ofAll cX9_ofAll 4 (some .int) 8 2 F_X9_ofAll) (h_X9_ofSort : k_snd l D cI cS cM yX9_ofSort cX9_ofSort 3 (some .int) 3 3 F_X9_ofSort) (h_X9_mirrorOf : k_snd l D cI cS cM yX9_mirrorOf cX9_mirrorOf 4 (some .int) 4 2 F_X9_mirrorOf) (n : Nat) : k_snd l D cI cS cM yX9_digest cX9_digest 3 (some .long) 9 1 (m_X9_digest F_X9_toldOf F_X9_mix F_X9_ofAll F_X9_ofSort F_X9_mirrorOf n) :=
  k_method (by decide +kernel) (by simp) rfl (s_X9_digest_0 h_X9_toldOf h_X9_mix h_X9_ofAll h_X9_ofSort h_X9_mirrorOf (k_loops (hs := [(9, 0), (32, 0), (55, 0), (90, 0), (110, 0)]) (fun J hJ i pc d h => match i, h with | 0, h => by cases h; exact s_X9_digest_9 h_X9_toldOf h_X9_mix h_X9_ofAll h_X9_ofSort h_X9_mirrorOf hJ | 1, h => by cases h; exact s_X9_digest_32 h_X9_toldOf h_X9_mix h_X9_ofAll h_X9_ofSort h_X9_mirrorOf hJ | 2, h => by cases h; exact s_X9_digest_55 h_X9_toldOf h_X9_mix h_X9_ofAll h_X9_ofSort h_X9_mirrorOf hJ | 3, h => by cases h; exact s_X9_digest_90 h_X9_toldOf h_X9_mix h_X9_ofAll h_X9_ofSort h_X9_mirrorOf hJ | 4, h => by cases h; exact s_X9_digest_110 h_X9_toldOf h_X9_mix h_X9_ofAll h_X9_ofSort h_X9_mirrorOf hJ | _ + 5, h => by simp at h) n))
noncomputable def b_X9_element_71 (F_X9_isElement F_X9_in F_X9_refuses : KF) : KC := o_iret
set_option maxRecDepth 100000 in
theorem s_X9_element_71 {l : Launch} {D : va_G} {cI cS cM : ClassId} {F_X9_isElement F_X9_in F_X9_refuses : KF} (h_X9_isElement : k_snd l D cI cS cM yX9_isElement cX9_isElement 2 (some .boolean) 8 2 F_X9_isElement) (h_X9_in : k_snd l D cI cS cM yX9_in cX9_in 3 (some .boolean) 1 3 F_X9_in) (h_X9_refuses : k_snd l D cI cS cM yX9_refuses cX9_refuses 2 (some .int) 1 2 F_X9_refuses) : KS l D cI cS cM yX9_element.cls yX9_element.name cX9_element 3 (some .int) (k_rm 9 0 0) false 71 1 (b_X9_element_71 F_X9_isElement F_X9_in F_X9_refuses) :=
  s_ireturn dX9_element_71 rfl
noncomputable def b_X9_element_65 (F_X9_isElement F_X9_in F_X9_refuses : KF) : KC := o_aload 0 <| o_get 9 11 <| o_iload 1 <| o_iald <| b_X9_element_71 F_X9_isElement F_X9_in F_X9_refuses
set_option maxRecDepth 100000 in
theorem s_X9_element_65 {l : Launch} {D : va_G} {cI cS cM : ClassId} {F_X9_isElement F_X9_in F_X9_refuses : KF} (h_X9_isElement : k_snd l D cI cS cM yX9_isElement cX9_isElement 2 (some .boolean) 8 2 F_X9_isElement) (h_X9_in : k_snd l D cI cS cM yX9_in cX9_in 3 (some .boolean) 1 3 F_X9_in) (h_X9_refuses : k_snd l D cI cS cM yX9_refuses cX9_refuses 2 (some .int) 1 2 F_X9_refuses) : KS l D cI cS cM yX9_element.cls yX9_element.name cX9_element 3 (some .int) (k_rm 9 0 0) false 65 0 (b_X9_element_65 F_X9_isElement F_X9_in F_X9_refuses) :=
  s_aload_n dX9_element_65 rfl <|
  s_get dX9_element_66 (ci := 9) (sl := 11) (Cn := RX9) (Tf := TX9) (N := 40) rfl (by decide) kiX9 kw_7_0 <|
  s_iload_n dX9_element_69 rfl <|
  s_iald dX9_element_70 <|
  s_X9_element_71 h_X9_isElement h_X9_in h_X9_refuses
noncomputable def b_X9_element_56 (F_X9_isElement F_X9_in F_X9_refuses : KF) : KC := o_aload 0 <| o_get 9 10 <| o_iload 1 <| o_iald <| b_X9_element_71 F_X9_isElement F_X9_in F_X9_refuses
set_option maxRecDepth 100000 in
theorem s_X9_element_56 {l : Launch} {D : va_G} {cI cS cM : ClassId} {F_X9_isElement F_X9_in F_X9_refuses : KF} (h_X9_isElement : k_snd l D cI cS cM yX9_isElement cX9_isElement 2 (some .boolean) 8 2 F_X9_isElement) (h_X9_in : k_snd l D cI cS cM yX9_in cX9_in 3 (some .boolean) 1 3 F_X9_in) (h_X9_refuses : k_snd l D cI cS cM yX9_refuses cX9_refuses 2 (some .int) 1 2 F_X9_refuses) : KS l D cI cS cM yX9_element.cls yX9_element.name cX9_element 3 (some .int) (k_rm 9 0 0) false 56 0 (b_X9_element_56 F_X9_isElement F_X9_in F_X9_refuses) :=
  s_aload_n dX9_element_56 rfl <|
  s_get dX9_element_57 (ci := 9) (sl := 10) (Cn := RX9) (Tf := TX9) (N := 40) rfl (by decide) kiX9 kw_6_23 <|
  s_iload_n dX9_element_60 rfl <|
  s_iald dX9_element_61 <|
  s_goto dX9_element_62 (by decide) (s_X9_element_71 h_X9_isElement h_X9_in h_X9_refuses)
noncomputable def b_X9_element_51 (F_X9_isElement F_X9_in F_X9_refuses : KF) : KC := o_iload 2 <| o_push 2 <| o_c2 Nat.beq (b_X9_element_56 F_X9_isElement F_X9_in F_X9_refuses) (b_X9_element_65 F_X9_isElement F_X9_in F_X9_refuses)
set_option maxRecDepth 100000 in
theorem s_X9_element_51 {l : Launch} {D : va_G} {cI cS cM : ClassId} {F_X9_isElement F_X9_in F_X9_refuses : KF} (h_X9_isElement : k_snd l D cI cS cM yX9_isElement cX9_isElement 2 (some .boolean) 8 2 F_X9_isElement) (h_X9_in : k_snd l D cI cS cM yX9_in cX9_in 3 (some .boolean) 1 3 F_X9_in) (h_X9_refuses : k_snd l D cI cS cM yX9_refuses cX9_refuses 2 (some .int) 1 2 F_X9_refuses) : KS l D cI cS cM yX9_element.cls yX9_element.name cX9_element 3 (some .int) (k_rm 9 0 0) false 51 0 (b_X9_element_51 F_X9_isElement F_X9_in F_X9_refuses) :=
  s_iload_n dX9_element_51 rfl <|
  s_push1 dX9_element_52 (by decide) (by decide) <|
  s_icmp_ne dX9_element_53 (by decide) (s_X9_element_65 h_X9_isElement h_X9_in h_X9_refuses) (s_X9_element_56 h_X9_isElement h_X9_in h_X9_refuses)
noncomputable def b_X9_element_42 (F_X9_isElement F_X9_in F_X9_refuses : KF) : KC := o_aload 0 <| o_get 9 9 <| o_iload 1 <| o_iald <| b_X9_element_71 F_X9_isElement F_X9_in F_X9_refuses
set_option maxRecDepth 100000 in
theorem s_X9_element_42 {l : Launch} {D : va_G} {cI cS cM : ClassId} {F_X9_isElement F_X9_in F_X9_refuses : KF} (h_X9_isElement : k_snd l D cI cS cM yX9_isElement cX9_isElement 2 (some .boolean) 8 2 F_X9_isElement) (h_X9_in : k_snd l D cI cS cM yX9_in cX9_in 3 (some .boolean) 1 3 F_X9_in) (h_X9_refuses : k_snd l D cI cS cM yX9_refuses cX9_refuses 2 (some .int) 1 2 F_X9_refuses) : KS l D cI cS cM yX9_element.cls yX9_element.name cX9_element 3 (some .int) (k_rm 9 0 0) false 42 0 (b_X9_element_42 F_X9_isElement F_X9_in F_X9_refuses) :=
  s_aload_n dX9_element_42 rfl <|
  s_get dX9_element_43 (ci := 9) (sl := 9) (Cn := RX9) (Tf := TX9) (N := 40) rfl (by decide) kiX9 kw_6_22 <|
  s_iload_n dX9_element_46 rfl <|
  s_iald dX9_element_47 <|
  s_goto dX9_element_48 (by decide) (s_X9_element_71 h_X9_isElement h_X9_in h_X9_refuses)
noncomputable def b_X9_element_37 (F_X9_isElement F_X9_in F_X9_refuses : KF) : KC := o_iload 2 <| o_push 1 <| o_c2 Nat.beq (b_X9_element_42 F_X9_isElement F_X9_in F_X9_refuses) (b_X9_element_51 F_X9_isElement F_X9_in F_X9_refuses)
set_option maxRecDepth 100000 in
theorem s_X9_element_37 {l : Launch} {D : va_G} {cI cS cM : ClassId} {F_X9_isElement F_X9_in F_X9_refuses : KF} (h_X9_isElement : k_snd l D cI cS cM yX9_isElement cX9_isElement 2 (some .boolean) 8 2 F_X9_isElement) (h_X9_in : k_snd l D cI cS cM yX9_in cX9_in 3 (some .boolean) 1 3 F_X9_in) (h_X9_refuses : k_snd l D cI cS cM yX9_refuses cX9_refuses 2 (some .int) 1 2 F_X9_refuses) : KS l D cI cS cM yX9_element.cls yX9_element.name cX9_element 3 (some .int) (k_rm 9 0 0) false 37 0 (b_X9_element_37 F_X9_isElement F_X9_in F_X9_refuses) :=
  s_iload_n dX9_element_37 rfl <|
  s_push1 dX9_element_38 (by decide) (by decide) <|
  s_icmp_ne dX9_element_39 (by decide) (s_X9_element_51 h_X9_isElement h_X9_in h_X9_refuses) (s_X9_element_42 h_X9_isElement h_X9_in h_X9_refuses)
noncomputable def b_X9_element_28 (F_X9_isElement F_X9_in F_X9_refuses : KF) : KC := o_aload 0 <| o_get 9 7 <| o_iload 1 <| o_iald <| b_X9_element_71 F_X9_isElement F_X9_in F_X9_refuses
set_option maxRecDepth 100000 in
theorem s_X9_element_28 {l : Launch} {D : va_G} {cI cS cM : ClassId} {F_X9_isElement F_X9_in F_X9_refuses : KF} (h_X9_isElement : k_snd l D cI cS cM yX9_isElement cX9_isElement 2 (some .boolean) 8 2 F_X9_isElement) (h_X9_in : k_snd l D cI cS cM yX9_in cX9_in 3 (some .boolean) 1 3 F_X9_in) (h_X9_refuses : k_snd l D cI cS cM yX9_refuses cX9_refuses 2 (some .int) 1 2 F_X9_refuses) : KS l D cI cS cM yX9_element.cls yX9_element.name cX9_element 3 (some .int) (k_rm 9 0 0) false 28 0 (b_X9_element_28 F_X9_isElement F_X9_in F_X9_refuses) :=
  s_aload_n dX9_element_28 rfl <|
  s_get dX9_element_29 (ci := 9) (sl := 7) (Cn := RX9) (Tf := TX9) (N := 40) rfl (by decide) kiX9 kw_6_20 <|
  s_iload_n dX9_element_32 rfl <|
  s_iald dX9_element_33 <|
  s_goto dX9_element_34 (by decide) (s_X9_element_71 h_X9_isElement h_X9_in h_X9_refuses)
noncomputable def b_X9_element_24 (F_X9_isElement F_X9_in F_X9_refuses : KF) : KC := o_iload 2 <| o_c1 g_eq (b_X9_element_28 F_X9_isElement F_X9_in F_X9_refuses) (b_X9_element_37 F_X9_isElement F_X9_in F_X9_refuses)
set_option maxRecDepth 100000 in
theorem s_X9_element_24 {l : Launch} {D : va_G} {cI cS cM : ClassId} {F_X9_isElement F_X9_in F_X9_refuses : KF} (h_X9_isElement : k_snd l D cI cS cM yX9_isElement cX9_isElement 2 (some .boolean) 8 2 F_X9_isElement) (h_X9_in : k_snd l D cI cS cM yX9_in cX9_in 3 (some .boolean) 1 3 F_X9_in) (h_X9_refuses : k_snd l D cI cS cM yX9_refuses cX9_refuses 2 (some .int) 1 2 F_X9_refuses) : KS l D cI cS cM yX9_element.cls yX9_element.name cX9_element 3 (some .int) (k_rm 9 0 0) false 24 0 (b_X9_element_24 F_X9_isElement F_X9_in F_X9_refuses) :=
  s_iload_n dX9_element_24 rfl <|
  s_if_ne dX9_element_25 (by decide) (s_X9_element_37 h_X9_isElement h_X9_in h_X9_refuses) (s_X9_element_28 h_X9_isElement h_X9_in h_X9_refuses)
noncomputable def b_X9_element_17 (F_X9_isElement F_X9_in F_X9_refuses : KF) : KC := o_aload 0 <| o_push 4294967294 <| o_cV1 2 9 F_X9_refuses <| o_iret
set_option maxRecDepth 100000 in
theorem s_X9_element_17 {l : Launch} {D : va_G} {cI cS cM : ClassId} {F_X9_isElement F_X9_in F_X9_refuses : KF} (h_X9_isElement : k_snd l D cI cS cM yX9_isElement cX9_isElement 2 (some .boolean) 8 2 F_X9_isElement) (h_X9_in : k_snd l D cI cS cM yX9_in cX9_in 3 (some .boolean) 1 3 F_X9_in) (h_X9_refuses : k_snd l D cI cS cM yX9_refuses cX9_refuses 2 (some .int) 1 2 F_X9_refuses) : KS l D cI cS cM yX9_element.cls yX9_element.name cX9_element 3 (some .int) (k_rm 9 0 0) false 17 0 (b_X9_element_17 F_X9_isElement F_X9_in F_X9_refuses) :=
  s_aload_n dX9_element_17 rfl <|
  s_push2 dX9_element_18 (by decide) (by decide) <|
  s_callV1 dX9_element_20 kw_10_1 kw_10_2 kw_10_3 (ci := 9) rfl ok_X9_refuses (by decide) (by decide) h_X9_refuses (by decide) <|
  s_ireturn dX9_element_23 rfl
noncomputable def b_X9_element_8 (F_X9_isElement F_X9_in F_X9_refuses : KF) : KC := o_iload 2 <| o_push 0 <| o_push 3 <| o_cS1 3 F_X9_in <| o_c1 g_eq (b_X9_element_17 F_X9_isElement F_X9_in F_X9_refuses) (b_X9_element_24 F_X9_isElement F_X9_in F_X9_refuses)
set_option maxRecDepth 100000 in
theorem s_X9_element_8 {l : Launch} {D : va_G} {cI cS cM : ClassId} {F_X9_isElement F_X9_in F_X9_refuses : KF} (h_X9_isElement : k_snd l D cI cS cM yX9_isElement cX9_isElement 2 (some .boolean) 8 2 F_X9_isElement) (h_X9_in : k_snd l D cI cS cM yX9_in cX9_in 3 (some .boolean) 1 3 F_X9_in) (h_X9_refuses : k_snd l D cI cS cM yX9_refuses cX9_refuses 2 (some .int) 1 2 F_X9_refuses) : KS l D cI cS cM yX9_element.cls yX9_element.name cX9_element 3 (some .int) (k_rm 9 0 0) false 8 0 (b_X9_element_8 F_X9_isElement F_X9_in F_X9_refuses) :=
  s_iload_n dX9_element_8 rfl <|
  s_push1 dX9_element_9 (by decide) (by decide) <|
  s_push1 dX9_element_10 (by decide) (by decide) <|
  s_callS1 dX9_element_11 kw_9_18 kw_9_19 ok_X9_in (by decide) (by decide) h_X9_in (by decide) <|
  s_if_ne dX9_element_14 (by decide) (s_X9_element_24 h_X9_isElement h_X9_in h_X9_refuses) (s_X9_element_17 h_X9_isElement h_X9_in h_X9_refuses)
noncomputable def b_X9_element_0 (F_X9_isElement F_X9_in F_X9_refuses : KF) : KC := o_aload 0 <| o_iload 1 <| o_cV1 2 9 F_X9_isElement <| o_c1 g_eq (b_X9_element_17 F_X9_isElement F_X9_in F_X9_refuses) (b_X9_element_8 F_X9_isElement F_X9_in F_X9_refuses)
set_option maxRecDepth 100000 in
theorem s_X9_element_0 {l : Launch} {D : va_G} {cI cS cM : ClassId} {F_X9_isElement F_X9_in F_X9_refuses : KF} (h_X9_isElement : k_snd l D cI cS cM yX9_isElement cX9_isElement 2 (some .boolean) 8 2 F_X9_isElement) (h_X9_in : k_snd l D cI cS cM yX9_in cX9_in 3 (some .boolean) 1 3 F_X9_in) (h_X9_refuses : k_snd l D cI cS cM yX9_refuses cX9_refuses 2 (some .int) 1 2 F_X9_refuses) : KS l D cI cS cM yX9_element.cls yX9_element.name cX9_element 3 (some .int) (k_rm 9 0 0) false 0 0 (b_X9_element_0 F_X9_isElement F_X9_in F_X9_refuses) :=
  s_aload_n dX9_element_0 rfl <|
  s_iload_n dX9_element_1 rfl <|
  s_callV1 dX9_element_2 kw_27_14 kw_27_15 kw_27_16 (ci := 9) rfl ok_X9_isElement (by decide) (by decide) h_X9_isElement (by decide) <|
  s_if_eq dX9_element_5 (by decide) (s_X9_element_17 h_X9_isElement h_X9_in h_X9_refuses) (s_X9_element_8 h_X9_isElement h_X9_in h_X9_refuses)
noncomputable def m_X9_element (F_X9_isElement F_X9_in F_X9_refuses : KF) : KF := k_fun [] (b_X9_element_0 F_X9_isElement F_X9_in F_X9_refuses)
theorem r_X9_element {l : Launch} {D : va_G} {cI cS cM : ClassId} {F_X9_isElement F_X9_in F_X9_refuses : KF} (h_X9_isElement : k_snd l D cI cS cM yX9_isElement cX9_isElement 2 (some .boolean) 8 2 F_X9_isElement) (h_X9_in : k_snd l D cI cS cM yX9_in cX9_in 3 (some .boolean) 1 3 F_X9_in) (h_X9_refuses : k_snd l D cI cS cM yX9_refuses cX9_refuses 2 (some .int) 1 2 F_X9_refuses) : k_snd l D cI cS cM yX9_element cX9_element 3 (some .int) 9 3 (m_X9_element F_X9_isElement F_X9_in F_X9_refuses) :=
  k_method (by decide +kernel) (by simp) rfl (s_X9_element_0 h_X9_isElement h_X9_in h_X9_refuses)
noncomputable def b_X9_mirror_22 (F_X9_isSort F_X9_mirrorOf F_X9_refuses : KF) : KC := o_iret
set_option maxRecDepth 100000 in
theorem s_X9_mirror_22 {l : Launch} {D : va_G} {cI cS cM : ClassId} {F_X9_isSort F_X9_mirrorOf F_X9_refuses : KF} (h_X9_isSort : k_snd l D cI cS cM yX9_isSort cX9_isSort 2 (some .boolean) 8 2 F_X9_isSort) (h_X9_mirrorOf : k_snd l D cI cS cM yX9_mirrorOf cX9_mirrorOf 4 (some .int) 4 2 F_X9_mirrorOf) (h_X9_refuses : k_snd l D cI cS cM yX9_refuses cX9_refuses 2 (some .int) 1 2 F_X9_refuses) : KS l D cI cS cM yX9_mirror.cls yX9_mirror.name cX9_mirror 2 (some .int) (k_rm 9 0 0) false 22 1 (b_X9_mirror_22 F_X9_isSort F_X9_mirrorOf F_X9_refuses) :=
  s_ireturn dX9_mirror_22 rfl
noncomputable def b_X9_mirror_16 (F_X9_isSort F_X9_mirrorOf F_X9_refuses : KF) : KC := o_aload 0 <| o_push 4294967294 <| o_cV1 2 9 F_X9_refuses <| b_X9_mirror_22 F_X9_isSort F_X9_mirrorOf F_X9_refuses
set_option maxRecDepth 100000 in
theorem s_X9_mirror_16 {l : Launch} {D : va_G} {cI cS cM : ClassId} {F_X9_isSort F_X9_mirrorOf F_X9_refuses : KF} (h_X9_isSort : k_snd l D cI cS cM yX9_isSort cX9_isSort 2 (some .boolean) 8 2 F_X9_isSort) (h_X9_mirrorOf : k_snd l D cI cS cM yX9_mirrorOf cX9_mirrorOf 4 (some .int) 4 2 F_X9_mirrorOf) (h_X9_refuses : k_snd l D cI cS cM yX9_refuses cX9_refuses 2 (some .int) 1 2 F_X9_refuses) : KS l D cI cS cM yX9_mirror.cls yX9_mirror.name cX9_mirror 2 (some .int) (k_rm 9 0 0) false 16 0 (b_X9_mirror_16 F_X9_isSort F_X9_mirrorOf F_X9_refuses) :=
  s_aload_n dX9_mirror_16 rfl <|
  s_push2 dX9_mirror_17 (by decide) (by decide) <|
  s_callV1 dX9_mirror_19 kw_10_1 kw_10_2 kw_10_3 (ci := 9) rfl ok_X9_refuses (by decide) (by decide) h_X9_refuses (by decide) <|
  s_X9_mirror_22 h_X9_isSort h_X9_mirrorOf h_X9_refuses
noncomputable def b_X9_mirror_8 (F_X9_isSort F_X9_mirrorOf F_X9_refuses : KF) : KC := o_aload 0 <| o_iload 1 <| o_cV1 2 9 F_X9_mirrorOf <| b_X9_mirror_22 F_X9_isSort F_X9_mirrorOf F_X9_refuses
set_option maxRecDepth 100000 in
theorem s_X9_mirror_8 {l : Launch} {D : va_G} {cI cS cM : ClassId} {F_X9_isSort F_X9_mirrorOf F_X9_refuses : KF} (h_X9_isSort : k_snd l D cI cS cM yX9_isSort cX9_isSort 2 (some .boolean) 8 2 F_X9_isSort) (h_X9_mirrorOf : k_snd l D cI cS cM yX9_mirrorOf cX9_mirrorOf 4 (some .int) 4 2 F_X9_mirrorOf) (h_X9_refuses : k_snd l D cI cS cM yX9_refuses cX9_refuses 2 (some .int) 1 2 F_X9_refuses) : KS l D cI cS cM yX9_mirror.cls yX9_mirror.name cX9_mirror 2 (some .int) (k_rm 9 0 0) false 8 0 (b_X9_mirror_8 F_X9_isSort F_X9_mirrorOf F_X9_refuses) :=
  s_aload_n dX9_mirror_8 rfl <|
  s_iload_n dX9_mirror_9 rfl <|
  s_callV1 dX9_mirror_10 kw_32_10 kw_32_11 kw_32_12 (ci := 9) rfl ok_X9_mirrorOf (by decide) (by decide) h_X9_mirrorOf (by decide) <|
  s_goto dX9_mirror_13 (by decide) (s_X9_mirror_22 h_X9_isSort h_X9_mirrorOf h_X9_refuses)
noncomputable def b_X9_mirror_0 (F_X9_isSort F_X9_mirrorOf F_X9_refuses : KF) : KC := o_aload 0 <| o_iload 1 <| o_cV1 2 9 F_X9_isSort <| o_c1 g_eq (b_X9_mirror_16 F_X9_isSort F_X9_mirrorOf F_X9_refuses) (b_X9_mirror_8 F_X9_isSort F_X9_mirrorOf F_X9_refuses)
set_option maxRecDepth 100000 in
theorem s_X9_mirror_0 {l : Launch} {D : va_G} {cI cS cM : ClassId} {F_X9_isSort F_X9_mirrorOf F_X9_refuses : KF} (h_X9_isSort : k_snd l D cI cS cM yX9_isSort cX9_isSort 2 (some .boolean) 8 2 F_X9_isSort) (h_X9_mirrorOf : k_snd l D cI cS cM yX9_mirrorOf cX9_mirrorOf 4 (some .int) 4 2 F_X9_mirrorOf) (h_X9_refuses : k_snd l D cI cS cM yX9_refuses cX9_refuses 2 (some .int) 1 2 F_X9_refuses) : KS l D cI cS cM yX9_mirror.cls yX9_mirror.name cX9_mirror 2 (some .int) (k_rm 9 0 0) false 0 0 (b_X9_mirror_0 F_X9_isSort F_X9_mirrorOf F_X9_refuses) :=
  s_aload_n dX9_mirror_0 rfl <|
  s_iload_n dX9_mirror_1 rfl <|
  s_callV1 dX9_mirror_2 kw_28_23 kw_29_0 kw_29_1 (ci := 9) rfl ok_X9_isSort (by decide) (by decide) h_X9_isSort (by decide) <|
  s_if_eq dX9_mirror_5 (by decide) (s_X9_mirror_16 h_X9_isSort h_X9_mirrorOf h_X9_refuses) (s_X9_mirror_8 h_X9_isSort h_X9_mirrorOf h_X9_refuses)
noncomputable def m_X9_mirror (F_X9_isSort F_X9_mirrorOf F_X9_refuses : KF) : KF := k_fun [] (b_X9_mirror_0 F_X9_isSort F_X9_mirrorOf F_X9_refuses)
theorem r_X9_mirror {l : Launch} {D : va_G} {cI cS cM : ClassId} {F_X9_isSort F_X9_mirrorOf F_X9_refuses : KF} (h_X9_isSort : k_snd l D cI cS cM yX9_isSort cX9_isSort 2 (some .boolean) 8 2 F_X9_isSort) (h_X9_mirrorOf : k_snd l D cI cS cM yX9_mirrorOf cX9_mirrorOf 4 (some .int) 4 2 F_X9_mirrorOf) (h_X9_refuses : k_snd l D cI cS cM yX9_refuses cX9_refuses 2 (some .int) 1 2 F_X9_refuses) : k_snd l D cI cS cM yX9_mirror cX9_mirror 2 (some .int) 9 2 (m_X9_mirror F_X9_isSort F_X9_mirrorOf F_X9_refuses) :=
  k_method (by decide +kernel) (by simp) rfl (s_X9_mirror_0 h_X9_isSort h_X9_mirrorOf h_X9_refuses)
noncomputable def b_X9_natural_42 (F_X9_isSort F_X9_refuses F_X9_left F_X9_meet : KF) (J : List KC) : KC := o_aload 0 <| o_iload 1 <| o_cV1 2 9 F_X9_meet <| o_iret
set_option maxRecDepth 100000 in
theorem s_X9_natural_42 {l : Launch} {D : va_G} {cI cS cM : ClassId} {F_X9_isSort F_X9_refuses F_X9_left F_X9_meet : KF} (h_X9_isSort : k_snd l D cI cS cM yX9_isSort cX9_isSort 2 (some .boolean) 8 2 F_X9_isSort) (h_X9_refuses : k_snd l D cI cS cM yX9_refuses cX9_refuses 2 (some .int) 1 2 F_X9_refuses) (h_X9_left : k_snd l D cI cS cM yX9_left cX9_left 4 (some .int) 2 2 F_X9_left) (h_X9_meet : k_snd l D cI cS cM yX9_meet cX9_meet 4 (some .int) 3 2 F_X9_meet) {J : List KC} (hJ : ∀ (i pc d : Nat), ([(17, 0)] : List (Nat × Nat))[i]? = some (pc, d) → KS l D cI cS cM yX9_natural.cls yX9_natural.name cX9_natural 3 (some .int) (k_rm 9 0 0) false pc d (k_jmp J i)) : KS l D cI cS cM yX9_natural.cls yX9_natural.name cX9_natural 3 (some .int) (k_rm 9 0 0) false 42 0 (b_X9_natural_42 F_X9_isSort F_X9_refuses F_X9_left F_X9_meet J) :=
  s_aload_n dX9_natural_42 rfl <|
  s_iload_n dX9_natural_43 rfl <|
  s_callV1 dX9_natural_44 kw_33_23 kw_34_0 kw_34_1 (ci := 9) rfl ok_X9_meet (by decide) (by decide) h_X9_meet (by decide) <|
  s_ireturn dX9_natural_47 rfl
noncomputable def b_X9_natural_25 (F_X9_isSort F_X9_refuses F_X9_left F_X9_meet : KF) (J : List KC) : KC := o_aload 0 <| o_get 9 30 <| o_iload 2 <| o_aload 0 <| o_iload 2 <| o_cV1 2 9 F_X9_left <| o_iast <| o_iinc 2 1 <| k_jmp J 0
set_option maxRecDepth 100000 in
theorem s_X9_natural_25 {l : Launch} {D : va_G} {cI cS cM : ClassId} {F_X9_isSort F_X9_refuses F_X9_left F_X9_meet : KF} (h_X9_isSort : k_snd l D cI cS cM yX9_isSort cX9_isSort 2 (some .boolean) 8 2 F_X9_isSort) (h_X9_refuses : k_snd l D cI cS cM yX9_refuses cX9_refuses 2 (some .int) 1 2 F_X9_refuses) (h_X9_left : k_snd l D cI cS cM yX9_left cX9_left 4 (some .int) 2 2 F_X9_left) (h_X9_meet : k_snd l D cI cS cM yX9_meet cX9_meet 4 (some .int) 3 2 F_X9_meet) {J : List KC} (hJ : ∀ (i pc d : Nat), ([(17, 0)] : List (Nat × Nat))[i]? = some (pc, d) → KS l D cI cS cM yX9_natural.cls yX9_natural.name cX9_natural 3 (some .int) (k_rm 9 0 0) false pc d (k_jmp J i)) : KS l D cI cS cM yX9_natural.cls yX9_natural.name cX9_natural 3 (some .int) (k_rm 9 0 0) false 25 0 (b_X9_natural_25 F_X9_isSort F_X9_refuses F_X9_left F_X9_meet J) :=
  s_aload_n dX9_natural_25 rfl <|
  s_get dX9_natural_26 (ci := 9) (sl := 30) (Cn := RX9) (Tf := TX9) (N := 40) rfl (by decide) kiX9 kw_7_13 <|
  s_iload_n dX9_natural_29 rfl <|
  s_aload_n dX9_natural_30 rfl <|
  s_iload_n dX9_natural_31 rfl <|
  s_callV1 dX9_natural_32 kw_29_7 kw_29_8 kw_29_9 (ci := 9) rfl ok_X9_left (by decide) (by decide) h_X9_left (by decide) <|
  s_iast dX9_natural_35 <|
  s_iinc dX9_natural_36 (by decide) (by decide) <|
  s_goto dX9_natural_39 (by decide) (hJ 0 _ _ rfl)
noncomputable def b_X9_natural_17 (F_X9_isSort F_X9_refuses F_X9_left F_X9_meet : KF) (J : List KC) : KC := o_iload 2 <| o_aload 0 <| o_get 9 12 <| o_c2 s_lt (b_X9_natural_25 F_X9_isSort F_X9_refuses F_X9_left F_X9_meet J) (b_X9_natural_42 F_X9_isSort F_X9_refuses F_X9_left F_X9_meet J)
set_option maxRecDepth 100000 in
theorem s_X9_natural_17 {l : Launch} {D : va_G} {cI cS cM : ClassId} {F_X9_isSort F_X9_refuses F_X9_left F_X9_meet : KF} (h_X9_isSort : k_snd l D cI cS cM yX9_isSort cX9_isSort 2 (some .boolean) 8 2 F_X9_isSort) (h_X9_refuses : k_snd l D cI cS cM yX9_refuses cX9_refuses 2 (some .int) 1 2 F_X9_refuses) (h_X9_left : k_snd l D cI cS cM yX9_left cX9_left 4 (some .int) 2 2 F_X9_left) (h_X9_meet : k_snd l D cI cS cM yX9_meet cX9_meet 4 (some .int) 3 2 F_X9_meet) {J : List KC} (hJ : ∀ (i pc d : Nat), ([(17, 0)] : List (Nat × Nat))[i]? = some (pc, d) → KS l D cI cS cM yX9_natural.cls yX9_natural.name cX9_natural 3 (some .int) (k_rm 9 0 0) false pc d (k_jmp J i)) : KS l D cI cS cM yX9_natural.cls yX9_natural.name cX9_natural 3 (some .int) (k_rm 9 0 0) false 17 0 (b_X9_natural_17 F_X9_isSort F_X9_refuses F_X9_left F_X9_meet J) :=
  s_iload_n dX9_natural_17 rfl <|
  s_aload_n dX9_natural_18 rfl <|
  s_get dX9_natural_19 (ci := 9) (sl := 12) (Cn := RX9) (Tf := TX9) (N := 40) rfl (by decide) kiX9 kw_22_14 <|
  s_icmp_ge dX9_natural_22 (by decide) (s_X9_natural_42 h_X9_isSort h_X9_refuses h_X9_left h_X9_meet hJ) (s_X9_natural_25 h_X9_isSort h_X9_refuses h_X9_left h_X9_meet hJ)
noncomputable def b_X9_natural_15 (F_X9_isSort F_X9_refuses F_X9_left F_X9_meet : KF) (J : List KC) : KC := o_push 0 <| o_istore 2 <| b_X9_natural_17 F_X9_isSort F_X9_refuses F_X9_left F_X9_meet J
set_option maxRecDepth 100000 in
theorem s_X9_natural_15 {l : Launch} {D : va_G} {cI cS cM : ClassId} {F_X9_isSort F_X9_refuses F_X9_left F_X9_meet : KF} (h_X9_isSort : k_snd l D cI cS cM yX9_isSort cX9_isSort 2 (some .boolean) 8 2 F_X9_isSort) (h_X9_refuses : k_snd l D cI cS cM yX9_refuses cX9_refuses 2 (some .int) 1 2 F_X9_refuses) (h_X9_left : k_snd l D cI cS cM yX9_left cX9_left 4 (some .int) 2 2 F_X9_left) (h_X9_meet : k_snd l D cI cS cM yX9_meet cX9_meet 4 (some .int) 3 2 F_X9_meet) {J : List KC} (hJ : ∀ (i pc d : Nat), ([(17, 0)] : List (Nat × Nat))[i]? = some (pc, d) → KS l D cI cS cM yX9_natural.cls yX9_natural.name cX9_natural 3 (some .int) (k_rm 9 0 0) false pc d (k_jmp J i)) : KS l D cI cS cM yX9_natural.cls yX9_natural.name cX9_natural 3 (some .int) (k_rm 9 0 0) false 15 0 (b_X9_natural_15 F_X9_isSort F_X9_refuses F_X9_left F_X9_meet J) :=
  s_push1 dX9_natural_15 (by decide) (by decide) <|
  s_istore_n dX9_natural_16 rfl (by decide) <|
  s_X9_natural_17 h_X9_isSort h_X9_refuses h_X9_left h_X9_meet hJ
noncomputable def b_X9_natural_8 (F_X9_isSort F_X9_refuses F_X9_left F_X9_meet : KF) (J : List KC) : KC := o_aload 0 <| o_push 4294967294 <| o_cV1 2 9 F_X9_refuses <| o_iret
set_option maxRecDepth 100000 in
theorem s_X9_natural_8 {l : Launch} {D : va_G} {cI cS cM : ClassId} {F_X9_isSort F_X9_refuses F_X9_left F_X9_meet : KF} (h_X9_isSort : k_snd l D cI cS cM yX9_isSort cX9_isSort 2 (some .boolean) 8 2 F_X9_isSort) (h_X9_refuses : k_snd l D cI cS cM yX9_refuses cX9_refuses 2 (some .int) 1 2 F_X9_refuses) (h_X9_left : k_snd l D cI cS cM yX9_left cX9_left 4 (some .int) 2 2 F_X9_left) (h_X9_meet : k_snd l D cI cS cM yX9_meet cX9_meet 4 (some .int) 3 2 F_X9_meet) {J : List KC} (hJ : ∀ (i pc d : Nat), ([(17, 0)] : List (Nat × Nat))[i]? = some (pc, d) → KS l D cI cS cM yX9_natural.cls yX9_natural.name cX9_natural 3 (some .int) (k_rm 9 0 0) false pc d (k_jmp J i)) : KS l D cI cS cM yX9_natural.cls yX9_natural.name cX9_natural 3 (some .int) (k_rm 9 0 0) false 8 0 (b_X9_natural_8 F_X9_isSort F_X9_refuses F_X9_left F_X9_meet J) :=
  s_aload_n dX9_natural_8 rfl <|
  s_push2 dX9_natural_9 (by decide) (by decide) <|
  s_callV1 dX9_natural_11 kw_10_1 kw_10_2 kw_10_3 (ci := 9) rfl ok_X9_refuses (by decide) (by decide) h_X9_refuses (by decide) <|
  s_ireturn dX9_natural_14 rfl
noncomputable def b_X9_natural_0 (F_X9_isSort F_X9_refuses F_X9_left F_X9_meet : KF) (J : List KC) : KC := o_aload 0 <| o_iload 1 <| o_cV1 2 9 F_X9_isSort <| o_c1 g_eq (b_X9_natural_8 F_X9_isSort F_X9_refuses F_X9_left F_X9_meet J) (b_X9_natural_15 F_X9_isSort F_X9_refuses F_X9_left F_X9_meet J)
set_option maxRecDepth 100000 in
theorem s_X9_natural_0 {l : Launch} {D : va_G} {cI cS cM : ClassId} {F_X9_isSort F_X9_refuses F_X9_left F_X9_meet : KF} (h_X9_isSort : k_snd l D cI cS cM yX9_isSort cX9_isSort 2 (some .boolean) 8 2 F_X9_isSort) (h_X9_refuses : k_snd l D cI cS cM yX9_refuses cX9_refuses 2 (some .int) 1 2 F_X9_refuses) (h_X9_left : k_snd l D cI cS cM yX9_left cX9_left 4 (some .int) 2 2 F_X9_left) (h_X9_meet : k_snd l D cI cS cM yX9_meet cX9_meet 4 (some .int) 3 2 F_X9_meet) {J : List KC} (hJ : ∀ (i pc d : Nat), ([(17, 0)] : List (Nat × Nat))[i]? = some (pc, d) → KS l D cI cS cM yX9_natural.cls yX9_natural.name cX9_natural 3 (some .int) (k_rm 9 0 0) false pc d (k_jmp J i)) : KS l D cI cS cM yX9_natural.cls yX9_natural.name cX9_natural 3 (some .int) (k_rm 9 0 0) false 0 0 (b_X9_natural_0 F_X9_isSort F_X9_refuses F_X9_left F_X9_meet J) :=
  s_aload_n dX9_natural_0 rfl <|
  s_iload_n dX9_natural_1 rfl <|
  s_callV1 dX9_natural_2 kw_28_23 kw_29_0 kw_29_1 (ci := 9) rfl ok_X9_isSort (by decide) (by decide) h_X9_isSort (by decide) <|
  s_if_ne dX9_natural_5 (by decide) (s_X9_natural_15 h_X9_isSort h_X9_refuses h_X9_left h_X9_meet hJ) (s_X9_natural_8 h_X9_isSort h_X9_refuses h_X9_left h_X9_meet hJ)
noncomputable def j_X9_natural (F_X9_isSort F_X9_refuses F_X9_left F_X9_meet : KF) (J : List KC) : List KC := [b_X9_natural_17 F_X9_isSort F_X9_refuses F_X9_left F_X9_meet J]
noncomputable def m_X9_natural (F_X9_isSort F_X9_refuses F_X9_left F_X9_meet : KF) (n : Nat) : KF := k_fun [k_u] (b_X9_natural_0 F_X9_isSort F_X9_refuses F_X9_left F_X9_meet (k_loop (j_X9_natural F_X9_isSort F_X9_refuses F_X9_left F_X9_meet) n))
theorem r_X9_natural {l : Launch} {D : va_G} {cI cS cM : ClassId} {F_X9_isSort F_X9_refuses F_X9_left F_X9_meet : KF} (h_X9_isSort : k_snd l D cI cS cM yX9_isSort cX9_isSort 2 (some .boolean) 8 2 F_X9_isSort) (h_X9_refuses : k_snd l D cI cS cM yX9_refuses cX9_refuses 2 (some .int) 1 2 F_X9_refuses) (h_X9_left : k_snd l D cI cS cM yX9_left cX9_left 4 (some .int) 2 2 F_X9_left) (h_X9_meet : k_snd l D cI cS cM yX9_meet cX9_meet 4 (some .int) 3 2 F_X9_meet) (n : Nat) : k_snd l D cI cS cM yX9_natural cX9_natural 3 (some .int) 9 2 (m_X9_natural F_X9_isSort F_X9_refuses F_X9_left F_X9_meet n) :=
  k_method (by decide +kernel) (by simp) rfl (s_X9_natural_0 h_X9_isSort h_X9_refuses h_X9_left h_X9_meet (k_loops (hs := [(17, 0)]) (fun J hJ i pc d h => match i, h with | 0, h => by cases h; exact s_X9_natural_17 h_X9_isSort h_X9_refuses h_X9_left h_X9_meet hJ | _ + 1, h => by simp at h) n))
noncomputable def b_X9_of_24 (F_X9_in F_X9_ofAll F_X9_refuses : KF) : KC := o_iret
set_option maxRecDepth 100000 in
theorem s_X9_of_24 {l : Launch} {D : va_G} {cI cS cM : ClassId} {F_X9_in F_X9_ofAll F_X9_refuses : KF} (h_X9_in : k_snd l D cI cS cM yX9_in cX9_in 3 (some .boolean) 1 3 F_X9_in) (h_X9_ofAll : k_snd l D cI cS cM yX9_ofAll cX9_ofAll 4 (some .int) 8 2 F_X9_ofAll) (h_X9_refuses : k_snd l D cI cS cM yX9_refuses cX9_refuses 2 (some .int) 1 2 F_X9_refuses) : KS l D cI cS cM yX9_of.cls yX9_of.name cX9_of 2 (some .int) (k_rm 9 0 0) false 24 1 (b_X9_of_24 F_X9_in F_X9_ofAll F_X9_refuses) :=
  s_ireturn dX9_of_24 rfl
noncomputable def b_X9_of_18 (F_X9_in F_X9_ofAll F_X9_refuses : KF) : KC := o_aload 0 <| o_push 4294967294 <| o_cV1 2 9 F_X9_refuses <| b_X9_of_24 F_X9_in F_X9_ofAll F_X9_refuses
set_option maxRecDepth 100000 in
theorem s_X9_of_18 {l : Launch} {D : va_G} {cI cS cM : ClassId} {F_X9_in F_X9_ofAll F_X9_refuses : KF} (h_X9_in : k_snd l D cI cS cM yX9_in cX9_in 3 (some .boolean) 1 3 F_X9_in) (h_X9_ofAll : k_snd l D cI cS cM yX9_ofAll cX9_ofAll 4 (some .int) 8 2 F_X9_ofAll) (h_X9_refuses : k_snd l D cI cS cM yX9_refuses cX9_refuses 2 (some .int) 1 2 F_X9_refuses) : KS l D cI cS cM yX9_of.cls yX9_of.name cX9_of 2 (some .int) (k_rm 9 0 0) false 18 0 (b_X9_of_18 F_X9_in F_X9_ofAll F_X9_refuses) :=
  s_aload_n dX9_of_18 rfl <|
  s_push2 dX9_of_19 (by decide) (by decide) <|
  s_callV1 dX9_of_21 kw_10_1 kw_10_2 kw_10_3 (ci := 9) rfl ok_X9_refuses (by decide) (by decide) h_X9_refuses (by decide) <|
  s_X9_of_24 h_X9_in h_X9_ofAll h_X9_refuses
noncomputable def b_X9_of_10 (F_X9_in F_X9_ofAll F_X9_refuses : KF) : KC := o_aload 0 <| o_iload 1 <| o_cV1 2 9 F_X9_ofAll <| b_X9_of_24 F_X9_in F_X9_ofAll F_X9_refuses
set_option maxRecDepth 100000 in
theorem s_X9_of_10 {l : Launch} {D : va_G} {cI cS cM : ClassId} {F_X9_in F_X9_ofAll F_X9_refuses : KF} (h_X9_in : k_snd l D cI cS cM yX9_in cX9_in 3 (some .boolean) 1 3 F_X9_in) (h_X9_ofAll : k_snd l D cI cS cM yX9_ofAll cX9_ofAll 4 (some .int) 8 2 F_X9_ofAll) (h_X9_refuses : k_snd l D cI cS cM yX9_refuses cX9_refuses 2 (some .int) 1 2 F_X9_refuses) : KS l D cI cS cM yX9_of.cls yX9_of.name cX9_of 2 (some .int) (k_rm 9 0 0) false 10 0 (b_X9_of_10 F_X9_in F_X9_ofAll F_X9_refuses) :=
  s_aload_n dX9_of_10 rfl <|
  s_iload_n dX9_of_11 rfl <|
  s_callV1 dX9_of_12 kw_22_9 kw_22_10 kw_22_11 (ci := 9) rfl ok_X9_ofAll (by decide) (by decide) h_X9_ofAll (by decide) <|
  s_goto dX9_of_15 (by decide) (s_X9_of_24 h_X9_in h_X9_ofAll h_X9_refuses)
noncomputable def b_X9_of_0 (F_X9_in F_X9_ofAll F_X9_refuses : KF) : KC := o_iload 1 <| o_push 0 <| o_push 7 <| o_cS1 3 F_X9_in <| o_c1 g_eq (b_X9_of_18 F_X9_in F_X9_ofAll F_X9_refuses) (b_X9_of_10 F_X9_in F_X9_ofAll F_X9_refuses)
set_option maxRecDepth 100000 in
theorem s_X9_of_0 {l : Launch} {D : va_G} {cI cS cM : ClassId} {F_X9_in F_X9_ofAll F_X9_refuses : KF} (h_X9_in : k_snd l D cI cS cM yX9_in cX9_in 3 (some .boolean) 1 3 F_X9_in) (h_X9_ofAll : k_snd l D cI cS cM yX9_ofAll cX9_ofAll 4 (some .int) 8 2 F_X9_ofAll) (h_X9_refuses : k_snd l D cI cS cM yX9_refuses cX9_refuses 2 (some .int) 1 2 F_X9_refuses) : KS l D cI cS cM yX9_of.cls yX9_of.name cX9_of 2 (some .int) (k_rm 9 0 0) false 0 0 (b_X9_of_0 F_X9_in F_X9_ofAll F_X9_refuses) :=
  s_iload_n dX9_of_0 rfl <|
  s_push1 dX9_of_1 (by decide) (by decide) <|
  s_push2 dX9_of_2 (by decide) (by decide) <|
  s_callS1 dX9_of_4 kw_9_18 kw_9_19 ok_X9_in (by decide) (by decide) h_X9_in (by decide) <|
  s_if_eq dX9_of_7 (by decide) (s_X9_of_18 h_X9_in h_X9_ofAll h_X9_refuses) (s_X9_of_10 h_X9_in h_X9_ofAll h_X9_refuses)
noncomputable def m_X9_of (F_X9_in F_X9_ofAll F_X9_refuses : KF) : KF := k_fun [] (b_X9_of_0 F_X9_in F_X9_ofAll F_X9_refuses)
theorem r_X9_of {l : Launch} {D : va_G} {cI cS cM : ClassId} {F_X9_in F_X9_ofAll F_X9_refuses : KF} (h_X9_in : k_snd l D cI cS cM yX9_in cX9_in 3 (some .boolean) 1 3 F_X9_in) (h_X9_ofAll : k_snd l D cI cS cM yX9_ofAll cX9_ofAll 4 (some .int) 8 2 F_X9_ofAll) (h_X9_refuses : k_snd l D cI cS cM yX9_refuses cX9_refuses 2 (some .int) 1 2 F_X9_refuses) : k_snd l D cI cS cM yX9_of cX9_of 2 (some .int) 9 2 (m_X9_of F_X9_in F_X9_ofAll F_X9_refuses) :=
  k_method (by decide +kernel) (by simp) rfl (s_X9_of_0 h_X9_in h_X9_ofAll h_X9_refuses)
noncomputable def b_X9_part_154 (F_X9_isSort F_X9_in F_X9_refuses F_X9_power F_X9_over F_X9_then F_X9_by : KF) (J : List KC) : KC := o_aload 0 <| o_iload 5 <| o_iload 4 <| o_cV1 3 9 F_X9_by <| o_iret
set_option maxRecDepth 100000 in
theorem s_X9_part_154 {l : Launch} {D : va_G} {cI cS cM : ClassId} {F_X9_isSort F_X9_in F_X9_refuses F_X9_power F_X9_over F_X9_then F_X9_by : KF} (h_X9_isSort : k_snd l D cI cS cM yX9_isSort cX9_isSort 2 (some .boolean) 8 2 F_X9_isSort) (h_X9_in : k_snd l D cI cS cM yX9_in cX9_in 3 (some .boolean) 1 3 F_X9_in) (h_X9_refuses : k_snd l D cI cS cM yX9_refuses cX9_refuses 2 (some .int) 1 2 F_X9_refuses) (h_X9_power : k_snd l D cI cS cM yX9_power cX9_power 5 (some .int) 1 3 F_X9_power) (h_X9_over : k_snd l D cI cS cM yX9_over cX9_over 3 (some .int) 1 2 F_X9_over) (h_X9_then : k_snd l D cI cS cM yX9_then cX9_then 3 (some .int) 1 3 F_X9_then) (h_X9_by : k_snd l D cI cS cM yX9_by cX9_by 4 (some .int) 2 3 F_X9_by) {J : List KC} (hJ : ∀ (i pc d : Nat), ([(66, 0)] : List (Nat × Nat))[i]? = some (pc, d) → KS l D cI cS cM yX9_part.cls yX9_part.name cX9_part 9 (some .int) (k_rm 9 0 0) false pc d (k_jmp J i)) : KS l D cI cS cM yX9_part.cls yX9_part.name cX9_part 9 (some .int) (k_rm 9 0 0) false 154 0 (b_X9_part_154 F_X9_isSort F_X9_in F_X9_refuses F_X9_power F_X9_over F_X9_then F_X9_by J) :=
  s_aload_n dX9_part_154 rfl <|
  s_iload dX9_part_155 <|
  s_iload dX9_part_157 <|
  s_callV1 dX9_part_159 kw_26_2 kw_26_3 kw_26_4 (ci := 9) rfl ok_X9_by (by decide) (by decide) h_X9_by (by decide) <|
  s_ireturn dX9_part_162 rfl
noncomputable def b_X9_part_73 (F_X9_isSort F_X9_in F_X9_refuses F_X9_power F_X9_over F_X9_then F_X9_by : KF) (J : List KC) : KC := o_aload 0 <| o_get 9 15 <| o_iload 4 <| o_div n_div <| o_iload 7 <| o_bin n_mul <| o_iload 3 <| o_bin n_mul <| o_aload 0 <| o_get 9 15 <| o_div n_rem <| o_istore 8 <| o_aload 0 <| o_iload 5 <| o_aload 0 <| o_get 9 29 <| o_push 8 <| o_iload 1 <| o_bin n_mul <| o_aload 0 <| o_get 9 9 <| o_iload 6 <| o_iald <| o_bin n_add <| o_iald <| o_aload 0 <| o_aload 0 <| o_get 9 17 <| o_aload 0 <| o_get 9 15 <| o_iload 8 <| o_bin n_sub <| o_cV1 3 9 F_X9_power <| o_bin n_mul <| o_bin n_add <| o_cV1 2 9 F_X9_over <| o_istore 5 <| o_aload 0 <| o_iload 6 <| o_aload 0 <| o_get 9 14 <| o_iload 2 <| o_iald <| o_cV1 3 9 F_X9_then <| o_istore 6 <| o_iinc 7 1 <| k_jmp J 0
set_option maxRecDepth 100000 in
theorem s_X9_part_73 {l : Launch} {D : va_G} {cI cS cM : ClassId} {F_X9_isSort F_X9_in F_X9_refuses F_X9_power F_X9_over F_X9_then F_X9_by : KF} (h_X9_isSort : k_snd l D cI cS cM yX9_isSort cX9_isSort 2 (some .boolean) 8 2 F_X9_isSort) (h_X9_in : k_snd l D cI cS cM yX9_in cX9_in 3 (some .boolean) 1 3 F_X9_in) (h_X9_refuses : k_snd l D cI cS cM yX9_refuses cX9_refuses 2 (some .int) 1 2 F_X9_refuses) (h_X9_power : k_snd l D cI cS cM yX9_power cX9_power 5 (some .int) 1 3 F_X9_power) (h_X9_over : k_snd l D cI cS cM yX9_over cX9_over 3 (some .int) 1 2 F_X9_over) (h_X9_then : k_snd l D cI cS cM yX9_then cX9_then 3 (some .int) 1 3 F_X9_then) (h_X9_by : k_snd l D cI cS cM yX9_by cX9_by 4 (some .int) 2 3 F_X9_by) {J : List KC} (hJ : ∀ (i pc d : Nat), ([(66, 0)] : List (Nat × Nat))[i]? = some (pc, d) → KS l D cI cS cM yX9_part.cls yX9_part.name cX9_part 9 (some .int) (k_rm 9 0 0) false pc d (k_jmp J i)) : KS l D cI cS cM yX9_part.cls yX9_part.name cX9_part 9 (some .int) (k_rm 9 0 0) false 73 0 (b_X9_part_73 F_X9_isSort F_X9_in F_X9_refuses F_X9_power F_X9_over F_X9_then F_X9_by J) :=
  s_aload_n dX9_part_73 rfl <|
  s_get dX9_part_74 (ci := 9) (sl := 15) (Cn := RX9) (Tf := TX9) (N := 40) rfl (by decide) kiX9 kw_22_15 <|
  s_iload dX9_part_77 <|
  s_idiv dX9_part_79 <|
  s_iload dX9_part_80 <|
  s_imul dX9_part_82 <|
  s_iload_n dX9_part_83 rfl <|
  s_imul dX9_part_84 <|
  s_aload_n dX9_part_85 rfl <|
  s_get dX9_part_86 (ci := 9) (sl := 15) (Cn := RX9) (Tf := TX9) (N := 40) rfl (by decide) kiX9 kw_22_15 <|
  s_irem dX9_part_89 <|
  s_istore dX9_part_90 (by decide) <|
  s_aload_n dX9_part_92 rfl <|
  s_iload dX9_part_93 <|
  s_aload_n dX9_part_95 rfl <|
  s_get dX9_part_96 (ci := 9) (sl := 29) (Cn := RX9) (Tf := TX9) (N := 40) rfl (by decide) kiX9 kw_7_12 <|
  s_push2 dX9_part_99 (by decide) (by decide) <|
  s_iload_n dX9_part_101 rfl <|
  s_imul dX9_part_102 <|
  s_aload_n dX9_part_103 rfl <|
  s_get dX9_part_104 (ci := 9) (sl := 9) (Cn := RX9) (Tf := TX9) (N := 40) rfl (by decide) kiX9 kw_6_22 <|
  s_iload dX9_part_107 <|
  s_iald dX9_part_109 <|
  s_iadd dX9_part_110 <|
  s_iald dX9_part_111 <|
  s_aload_n dX9_part_112 rfl <|
  s_aload_n dX9_part_113 rfl <|
  s_get dX9_part_114 (ci := 9) (sl := 17) (Cn := RX9) (Tf := TX9) (N := 40) rfl (by decide) kiX9 kw_22_17 <|
  s_aload_n dX9_part_117 rfl <|
  s_get dX9_part_118 (ci := 9) (sl := 15) (Cn := RX9) (Tf := TX9) (N := 40) rfl (by decide) kiX9 kw_22_15 <|
  s_iload dX9_part_121 <|
  s_isub dX9_part_123 <|
  s_callV1 dX9_part_124 kw_24_16 kw_24_17 kw_24_18 (ci := 9) rfl ok_X9_power (by decide) (by decide) h_X9_power (by decide) <|
  s_imul dX9_part_127 <|
  s_iadd dX9_part_128 <|
  s_callV1 dX9_part_129 kw_25_14 kw_25_15 kw_25_16 (ci := 9) rfl ok_X9_over (by decide) (by decide) h_X9_over (by decide) <|
  s_istore dX9_part_132 (by decide) <|
  s_aload_n dX9_part_134 rfl <|
  s_iload dX9_part_135 <|
  s_aload_n dX9_part_137 rfl <|
  s_get dX9_part_138 (ci := 9) (sl := 14) (Cn := RX9) (Tf := TX9) (N := 40) rfl (by decide) kiX9 kw_7_2 <|
  s_iload_n dX9_part_141 rfl <|
  s_iald dX9_part_142 <|
  s_callV1 dX9_part_143 kw_23_18 kw_23_19 kw_23_20 (ci := 9) rfl ok_X9_then (by decide) (by decide) h_X9_then (by decide) <|
  s_istore dX9_part_146 (by decide) <|
  s_iinc dX9_part_148 (by decide) (by decide) <|
  s_goto dX9_part_151 (by decide) (hJ 0 _ _ rfl)
noncomputable def b_X9_part_66 (F_X9_isSort F_X9_in F_X9_refuses F_X9_power F_X9_over F_X9_then F_X9_by : KF) (J : List KC) : KC := o_iload 7 <| o_iload 4 <| o_c2 s_lt (b_X9_part_73 F_X9_isSort F_X9_in F_X9_refuses F_X9_power F_X9_over F_X9_then F_X9_by J) (b_X9_part_154 F_X9_isSort F_X9_in F_X9_refuses F_X9_power F_X9_over F_X9_then F_X9_by J)
set_option maxRecDepth 100000 in
theorem s_X9_part_66 {l : Launch} {D : va_G} {cI cS cM : ClassId} {F_X9_isSort F_X9_in F_X9_refuses F_X9_power F_X9_over F_X9_then F_X9_by : KF} (h_X9_isSort : k_snd l D cI cS cM yX9_isSort cX9_isSort 2 (some .boolean) 8 2 F_X9_isSort) (h_X9_in : k_snd l D cI cS cM yX9_in cX9_in 3 (some .boolean) 1 3 F_X9_in) (h_X9_refuses : k_snd l D cI cS cM yX9_refuses cX9_refuses 2 (some .int) 1 2 F_X9_refuses) (h_X9_power : k_snd l D cI cS cM yX9_power cX9_power 5 (some .int) 1 3 F_X9_power) (h_X9_over : k_snd l D cI cS cM yX9_over cX9_over 3 (some .int) 1 2 F_X9_over) (h_X9_then : k_snd l D cI cS cM yX9_then cX9_then 3 (some .int) 1 3 F_X9_then) (h_X9_by : k_snd l D cI cS cM yX9_by cX9_by 4 (some .int) 2 3 F_X9_by) {J : List KC} (hJ : ∀ (i pc d : Nat), ([(66, 0)] : List (Nat × Nat))[i]? = some (pc, d) → KS l D cI cS cM yX9_part.cls yX9_part.name cX9_part 9 (some .int) (k_rm 9 0 0) false pc d (k_jmp J i)) : KS l D cI cS cM yX9_part.cls yX9_part.name cX9_part 9 (some .int) (k_rm 9 0 0) false 66 0 (b_X9_part_66 F_X9_isSort F_X9_in F_X9_refuses F_X9_power F_X9_over F_X9_then F_X9_by J) :=
  s_iload dX9_part_66 <|
  s_iload dX9_part_68 <|
  s_icmp_ge dX9_part_70 (by decide) (s_X9_part_154 h_X9_isSort h_X9_in h_X9_refuses h_X9_power h_X9_over h_X9_then h_X9_by hJ) (s_X9_part_73 h_X9_isSort h_X9_in h_X9_refuses h_X9_power h_X9_over h_X9_then h_X9_by hJ)
noncomputable def b_X9_part_44 (F_X9_isSort F_X9_in F_X9_refuses F_X9_power F_X9_over F_X9_then F_X9_by : KF) (J : List KC) : KC := o_aload 0 <| o_get 9 11 <| o_aload 0 <| o_get 9 14 <| o_iload 2 <| o_iald <| o_iald <| o_istore 4 <| o_push 0 <| o_istore 5 <| o_push 0 <| o_istore 6 <| o_push 0 <| o_istore 7 <| b_X9_part_66 F_X9_isSort F_X9_in F_X9_refuses F_X9_power F_X9_over F_X9_then F_X9_by J
set_option maxRecDepth 100000 in
theorem s_X9_part_44 {l : Launch} {D : va_G} {cI cS cM : ClassId} {F_X9_isSort F_X9_in F_X9_refuses F_X9_power F_X9_over F_X9_then F_X9_by : KF} (h_X9_isSort : k_snd l D cI cS cM yX9_isSort cX9_isSort 2 (some .boolean) 8 2 F_X9_isSort) (h_X9_in : k_snd l D cI cS cM yX9_in cX9_in 3 (some .boolean) 1 3 F_X9_in) (h_X9_refuses : k_snd l D cI cS cM yX9_refuses cX9_refuses 2 (some .int) 1 2 F_X9_refuses) (h_X9_power : k_snd l D cI cS cM yX9_power cX9_power 5 (some .int) 1 3 F_X9_power) (h_X9_over : k_snd l D cI cS cM yX9_over cX9_over 3 (some .int) 1 2 F_X9_over) (h_X9_then : k_snd l D cI cS cM yX9_then cX9_then 3 (some .int) 1 3 F_X9_then) (h_X9_by : k_snd l D cI cS cM yX9_by cX9_by 4 (some .int) 2 3 F_X9_by) {J : List KC} (hJ : ∀ (i pc d : Nat), ([(66, 0)] : List (Nat × Nat))[i]? = some (pc, d) → KS l D cI cS cM yX9_part.cls yX9_part.name cX9_part 9 (some .int) (k_rm 9 0 0) false pc d (k_jmp J i)) : KS l D cI cS cM yX9_part.cls yX9_part.name cX9_part 9 (some .int) (k_rm 9 0 0) false 44 0 (b_X9_part_44 F_X9_isSort F_X9_in F_X9_refuses F_X9_power F_X9_over F_X9_then F_X9_by J) :=
  s_aload_n dX9_part_44 rfl <|
  s_get dX9_part_45 (ci := 9) (sl := 11) (Cn := RX9) (Tf := TX9) (N := 40) rfl (by decide) kiX9 kw_7_0 <|
  s_aload_n dX9_part_48 rfl <|
  s_get dX9_part_49 (ci := 9) (sl := 14) (Cn := RX9) (Tf := TX9) (N := 40) rfl (by decide) kiX9 kw_7_2 <|
  s_iload_n dX9_part_52 rfl <|
  s_iald dX9_part_53 <|
  s_iald dX9_part_54 <|
  s_istore dX9_part_55 (by decide) <|
  s_push1 dX9_part_57 (by decide) (by decide) <|
  s_istore dX9_part_58 (by decide) <|
  s_push1 dX9_part_60 (by decide) (by decide) <|
  s_istore dX9_part_61 (by decide) <|
  s_push1 dX9_part_63 (by decide) (by decide) <|
  s_istore dX9_part_64 (by decide) <|
  s_X9_part_66 h_X9_isSort h_X9_in h_X9_refuses h_X9_power h_X9_over h_X9_then h_X9_by hJ
noncomputable def b_X9_part_37 (F_X9_isSort F_X9_in F_X9_refuses F_X9_power F_X9_over F_X9_then F_X9_by : KF) (J : List KC) : KC := o_aload 0 <| o_push 4294967294 <| o_cV1 2 9 F_X9_refuses <| o_iret
set_option maxRecDepth 100000 in
theorem s_X9_part_37 {l : Launch} {D : va_G} {cI cS cM : ClassId} {F_X9_isSort F_X9_in F_X9_refuses F_X9_power F_X9_over F_X9_then F_X9_by : KF} (h_X9_isSort : k_snd l D cI cS cM yX9_isSort cX9_isSort 2 (some .boolean) 8 2 F_X9_isSort) (h_X9_in : k_snd l D cI cS cM yX9_in cX9_in 3 (some .boolean) 1 3 F_X9_in) (h_X9_refuses : k_snd l D cI cS cM yX9_refuses cX9_refuses 2 (some .int) 1 2 F_X9_refuses) (h_X9_power : k_snd l D cI cS cM yX9_power cX9_power 5 (some .int) 1 3 F_X9_power) (h_X9_over : k_snd l D cI cS cM yX9_over cX9_over 3 (some .int) 1 2 F_X9_over) (h_X9_then : k_snd l D cI cS cM yX9_then cX9_then 3 (some .int) 1 3 F_X9_then) (h_X9_by : k_snd l D cI cS cM yX9_by cX9_by 4 (some .int) 2 3 F_X9_by) {J : List KC} (hJ : ∀ (i pc d : Nat), ([(66, 0)] : List (Nat × Nat))[i]? = some (pc, d) → KS l D cI cS cM yX9_part.cls yX9_part.name cX9_part 9 (some .int) (k_rm 9 0 0) false pc d (k_jmp J i)) : KS l D cI cS cM yX9_part.cls yX9_part.name cX9_part 9 (some .int) (k_rm 9 0 0) false 37 0 (b_X9_part_37 F_X9_isSort F_X9_in F_X9_refuses F_X9_power F_X9_over F_X9_then F_X9_by J) :=
  s_aload_n dX9_part_37 rfl <|
  s_push2 dX9_part_38 (by decide) (by decide) <|
  s_callV1 dX9_part_40 kw_10_1 kw_10_2 kw_10_3 (ci := 9) rfl ok_X9_refuses (by decide) (by decide) h_X9_refuses (by decide) <|
  s_ireturn dX9_part_43 rfl
noncomputable def b_X9_part_16 (F_X9_isSort F_X9_in F_X9_refuses F_X9_power F_X9_over F_X9_then F_X9_by : KF) (J : List KC) : KC := o_iload 3 <| o_push 0 <| o_aload 0 <| o_get 9 11 <| o_aload 0 <| o_get 9 14 <| o_iload 2 <| o_iald <| o_iald <| o_push 1 <| o_bin n_sub <| o_cS1 3 F_X9_in <| o_c1 g_eq (b_X9_part_37 F_X9_isSort F_X9_in F_X9_refuses F_X9_power F_X9_over F_X9_then F_X9_by J) (b_X9_part_44 F_X9_isSort F_X9_in F_X9_refuses F_X9_power F_X9_over F_X9_then F_X9_by J)
set_option maxRecDepth 100000 in
theorem s_X9_part_16 {l : Launch} {D : va_G} {cI cS cM : ClassId} {F_X9_isSort F_X9_in F_X9_refuses F_X9_power F_X9_over F_X9_then F_X9_by : KF} (h_X9_isSort : k_snd l D cI cS cM yX9_isSort cX9_isSort 2 (some .boolean) 8 2 F_X9_isSort) (h_X9_in : k_snd l D cI cS cM yX9_in cX9_in 3 (some .boolean) 1 3 F_X9_in) (h_X9_refuses : k_snd l D cI cS cM yX9_refuses cX9_refuses 2 (some .int) 1 2 F_X9_refuses) (h_X9_power : k_snd l D cI cS cM yX9_power cX9_power 5 (some .int) 1 3 F_X9_power) (h_X9_over : k_snd l D cI cS cM yX9_over cX9_over 3 (some .int) 1 2 F_X9_over) (h_X9_then : k_snd l D cI cS cM yX9_then cX9_then 3 (some .int) 1 3 F_X9_then) (h_X9_by : k_snd l D cI cS cM yX9_by cX9_by 4 (some .int) 2 3 F_X9_by) {J : List KC} (hJ : ∀ (i pc d : Nat), ([(66, 0)] : List (Nat × Nat))[i]? = some (pc, d) → KS l D cI cS cM yX9_part.cls yX9_part.name cX9_part 9 (some .int) (k_rm 9 0 0) false pc d (k_jmp J i)) : KS l D cI cS cM yX9_part.cls yX9_part.name cX9_part 9 (some .int) (k_rm 9 0 0) false 16 0 (b_X9_part_16 F_X9_isSort F_X9_in F_X9_refuses F_X9_power F_X9_over F_X9_then F_X9_by J) :=
  s_iload_n dX9_part_16 rfl <|
  s_push1 dX9_part_17 (by decide) (by decide) <|
  s_aload_n dX9_part_18 rfl <|
  s_get dX9_part_19 (ci := 9) (sl := 11) (Cn := RX9) (Tf := TX9) (N := 40) rfl (by decide) kiX9 kw_7_0 <|
  s_aload_n dX9_part_22 rfl <|
  s_get dX9_part_23 (ci := 9) (sl := 14) (Cn := RX9) (Tf := TX9) (N := 40) rfl (by decide) kiX9 kw_7_2 <|
  s_iload_n dX9_part_26 rfl <|
  s_iald dX9_part_27 <|
  s_iald dX9_part_28 <|
  s_push1 dX9_part_29 (by decide) (by decide) <|
  s_isub dX9_part_30 <|
  s_callS1 dX9_part_31 kw_9_18 kw_9_19 ok_X9_in (by decide) (by decide) h_X9_in (by decide) <|
  s_if_ne dX9_part_34 (by decide) (s_X9_part_44 h_X9_isSort h_X9_in h_X9_refuses h_X9_power h_X9_over h_X9_then h_X9_by hJ) (s_X9_part_37 h_X9_isSort h_X9_in h_X9_refuses h_X9_power h_X9_over h_X9_then h_X9_by hJ)
noncomputable def b_X9_part_8 (F_X9_isSort F_X9_in F_X9_refuses F_X9_power F_X9_over F_X9_then F_X9_by : KF) (J : List KC) : KC := o_aload 0 <| o_iload 2 <| o_cV1 2 9 F_X9_isSort <| o_c1 g_eq (b_X9_part_37 F_X9_isSort F_X9_in F_X9_refuses F_X9_power F_X9_over F_X9_then F_X9_by J) (b_X9_part_16 F_X9_isSort F_X9_in F_X9_refuses F_X9_power F_X9_over F_X9_then F_X9_by J)
set_option maxRecDepth 100000 in
theorem s_X9_part_8 {l : Launch} {D : va_G} {cI cS cM : ClassId} {F_X9_isSort F_X9_in F_X9_refuses F_X9_power F_X9_over F_X9_then F_X9_by : KF} (h_X9_isSort : k_snd l D cI cS cM yX9_isSort cX9_isSort 2 (some .boolean) 8 2 F_X9_isSort) (h_X9_in : k_snd l D cI cS cM yX9_in cX9_in 3 (some .boolean) 1 3 F_X9_in) (h_X9_refuses : k_snd l D cI cS cM yX9_refuses cX9_refuses 2 (some .int) 1 2 F_X9_refuses) (h_X9_power : k_snd l D cI cS cM yX9_power cX9_power 5 (some .int) 1 3 F_X9_power) (h_X9_over : k_snd l D cI cS cM yX9_over cX9_over 3 (some .int) 1 2 F_X9_over) (h_X9_then : k_snd l D cI cS cM yX9_then cX9_then 3 (some .int) 1 3 F_X9_then) (h_X9_by : k_snd l D cI cS cM yX9_by cX9_by 4 (some .int) 2 3 F_X9_by) {J : List KC} (hJ : ∀ (i pc d : Nat), ([(66, 0)] : List (Nat × Nat))[i]? = some (pc, d) → KS l D cI cS cM yX9_part.cls yX9_part.name cX9_part 9 (some .int) (k_rm 9 0 0) false pc d (k_jmp J i)) : KS l D cI cS cM yX9_part.cls yX9_part.name cX9_part 9 (some .int) (k_rm 9 0 0) false 8 0 (b_X9_part_8 F_X9_isSort F_X9_in F_X9_refuses F_X9_power F_X9_over F_X9_then F_X9_by J) :=
  s_aload_n dX9_part_8 rfl <|
  s_iload_n dX9_part_9 rfl <|
  s_callV1 dX9_part_10 kw_28_23 kw_29_0 kw_29_1 (ci := 9) rfl ok_X9_isSort (by decide) (by decide) h_X9_isSort (by decide) <|
  s_if_eq dX9_part_13 (by decide) (s_X9_part_37 h_X9_isSort h_X9_in h_X9_refuses h_X9_power h_X9_over h_X9_then h_X9_by hJ) (s_X9_part_16 h_X9_isSort h_X9_in h_X9_refuses h_X9_power h_X9_over h_X9_then h_X9_by hJ)
noncomputable def b_X9_part_0 (F_X9_isSort F_X9_in F_X9_refuses F_X9_power F_X9_over F_X9_then F_X9_by : KF) (J : List KC) : KC := o_aload 0 <| o_iload 1 <| o_cV1 2 9 F_X9_isSort <| o_c1 g_eq (b_X9_part_37 F_X9_isSort F_X9_in F_X9_refuses F_X9_power F_X9_over F_X9_then F_X9_by J) (b_X9_part_8 F_X9_isSort F_X9_in F_X9_refuses F_X9_power F_X9_over F_X9_then F_X9_by J)
set_option maxRecDepth 100000 in
theorem s_X9_part_0 {l : Launch} {D : va_G} {cI cS cM : ClassId} {F_X9_isSort F_X9_in F_X9_refuses F_X9_power F_X9_over F_X9_then F_X9_by : KF} (h_X9_isSort : k_snd l D cI cS cM yX9_isSort cX9_isSort 2 (some .boolean) 8 2 F_X9_isSort) (h_X9_in : k_snd l D cI cS cM yX9_in cX9_in 3 (some .boolean) 1 3 F_X9_in) (h_X9_refuses : k_snd l D cI cS cM yX9_refuses cX9_refuses 2 (some .int) 1 2 F_X9_refuses) (h_X9_power : k_snd l D cI cS cM yX9_power cX9_power 5 (some .int) 1 3 F_X9_power) (h_X9_over : k_snd l D cI cS cM yX9_over cX9_over 3 (some .int) 1 2 F_X9_over) (h_X9_then : k_snd l D cI cS cM yX9_then cX9_then 3 (some .int) 1 3 F_X9_then) (h_X9_by : k_snd l D cI cS cM yX9_by cX9_by 4 (some .int) 2 3 F_X9_by) {J : List KC} (hJ : ∀ (i pc d : Nat), ([(66, 0)] : List (Nat × Nat))[i]? = some (pc, d) → KS l D cI cS cM yX9_part.cls yX9_part.name cX9_part 9 (some .int) (k_rm 9 0 0) false pc d (k_jmp J i)) : KS l D cI cS cM yX9_part.cls yX9_part.name cX9_part 9 (some .int) (k_rm 9 0 0) false 0 0 (b_X9_part_0 F_X9_isSort F_X9_in F_X9_refuses F_X9_power F_X9_over F_X9_then F_X9_by J) :=
  s_aload_n dX9_part_0 rfl <|
  s_iload_n dX9_part_1 rfl <|
  s_callV1 dX9_part_2 kw_28_23 kw_29_0 kw_29_1 (ci := 9) rfl ok_X9_isSort (by decide) (by decide) h_X9_isSort (by decide) <|
  s_if_eq dX9_part_5 (by decide) (s_X9_part_37 h_X9_isSort h_X9_in h_X9_refuses h_X9_power h_X9_over h_X9_then h_X9_by hJ) (s_X9_part_8 h_X9_isSort h_X9_in h_X9_refuses h_X9_power h_X9_over h_X9_then h_X9_by hJ)
noncomputable def j_X9_part (F_X9_isSort F_X9_in F_X9_refuses F_X9_power F_X9_over F_X9_then F_X9_by : KF) (J : List KC) : List KC := [b_X9_part_66 F_X9_isSort F_X9_in F_X9_refuses F_X9_power F_X9_over F_X9_then F_X9_by J]
noncomputable def m_X9_part (F_X9_isSort F_X9_in F_X9_refuses F_X9_power F_X9_over F_X9_then F_X9_by : KF) (n : Nat) : KF := k_fun [k_u, k_u, k_u, k_u, k_u] (b_X9_part_0 F_X9_isSort F_X9_in F_X9_refuses F_X9_power F_X9_over F_X9_then F_X9_by (k_loop (j_X9_part F_X9_isSort F_X9_in F_X9_refuses F_X9_power F_X9_over F_X9_then F_X9_by) n))
theorem r_X9_part {l : Launch} {D : va_G} {cI cS cM : ClassId} {F_X9_isSort F_X9_in F_X9_refuses F_X9_power F_X9_over F_X9_then F_X9_by : KF} (h_X9_isSort : k_snd l D cI cS cM yX9_isSort cX9_isSort 2 (some .boolean) 8 2 F_X9_isSort) (h_X9_in : k_snd l D cI cS cM yX9_in cX9_in 3 (some .boolean) 1 3 F_X9_in) (h_X9_refuses : k_snd l D cI cS cM yX9_refuses cX9_refuses 2 (some .int) 1 2 F_X9_refuses) (h_X9_power : k_snd l D cI cS cM yX9_power cX9_power 5 (some .int) 1 3 F_X9_power) (h_X9_over : k_snd l D cI cS cM yX9_over cX9_over 3 (some .int) 1 2 F_X9_over) (h_X9_then : k_snd l D cI cS cM yX9_then cX9_then 3 (some .int) 1 3 F_X9_then) (h_X9_by : k_snd l D cI cS cM yX9_by cX9_by 4 (some .int) 2 3 F_X9_by) (n : Nat) : k_snd l D cI cS cM yX9_part cX9_part 9 (some .int) 9 4 (m_X9_part F_X9_isSort F_X9_in F_X9_refuses F_X9_power F_X9_over F_X9_then F_X9_by n) :=
  k_method (by decide +kernel) (by simp) rfl (s_X9_part_0 h_X9_isSort h_X9_in h_X9_refuses h_X9_power h_X9_over h_X9_then h_X9_by (k_loops (hs := [(66, 0)]) (fun J hJ i pc d h => match i, h with | 0, h => by cases h; exact s_X9_part_66 h_X9_isSort h_X9_in h_X9_refuses h_X9_power h_X9_over h_X9_then h_X9_by hJ | _ + 1, h => by simp at h) n))
