noncomputable def b_X9_product_31 (F_X9_isElement F_X9_then F_X9_refuses : KF) : KC := o_iret
set_option maxRecDepth 100000 in
theorem s_X9_product_31 {l : Launch} {D : va_G} {cI cS cM : ClassId} {F_X9_isElement F_X9_then F_X9_refuses : KF} (h_X9_isElement : k_snd l D cI cS cM yX9_isElement cX9_isElement 2 (some .boolean) 8 2 F_X9_isElement) (h_X9_then : k_snd l D cI cS cM yX9_then cX9_then 3 (some .int) 1 3 F_X9_then) (h_X9_refuses : k_snd l D cI cS cM yX9_refuses cX9_refuses 2 (some .int) 1 2 F_X9_refuses) : KS l D cI cS cM yX9_product.cls yX9_product.name cX9_product 3 (some .int) (k_rm 9 0 0) false 31 1 (b_X9_product_31 F_X9_isElement F_X9_then F_X9_refuses) :=
  s_ireturn dX9_product_31 rfl
noncomputable def b_X9_product_25 (F_X9_isElement F_X9_then F_X9_refuses : KF) : KC := o_aload 0 <| o_push 4294967294 <| o_cV1 2 9 F_X9_refuses <| b_X9_product_31 F_X9_isElement F_X9_then F_X9_refuses
set_option maxRecDepth 100000 in
theorem s_X9_product_25 {l : Launch} {D : va_G} {cI cS cM : ClassId} {F_X9_isElement F_X9_then F_X9_refuses : KF} (h_X9_isElement : k_snd l D cI cS cM yX9_isElement cX9_isElement 2 (some .boolean) 8 2 F_X9_isElement) (h_X9_then : k_snd l D cI cS cM yX9_then cX9_then 3 (some .int) 1 3 F_X9_then) (h_X9_refuses : k_snd l D cI cS cM yX9_refuses cX9_refuses 2 (some .int) 1 2 F_X9_refuses) : KS l D cI cS cM yX9_product.cls yX9_product.name cX9_product 3 (some .int) (k_rm 9 0 0) false 25 0 (b_X9_product_25 F_X9_isElement F_X9_then F_X9_refuses) :=
  s_aload_n dX9_product_25 rfl <|
  s_push2 dX9_product_26 (by decide) (by decide) <|
  s_callV1 dX9_product_28 kw_10_1 kw_10_2 kw_10_3 (ci := 9) rfl ok_X9_refuses (by decide) (by decide) h_X9_refuses (by decide) <|
  s_X9_product_31 h_X9_isElement h_X9_then h_X9_refuses
noncomputable def b_X9_product_16 (F_X9_isElement F_X9_then F_X9_refuses : KF) : KC := o_aload 0 <| o_iload 1 <| o_iload 2 <| o_cV1 3 9 F_X9_then <| b_X9_product_31 F_X9_isElement F_X9_then F_X9_refuses
set_option maxRecDepth 100000 in
theorem s_X9_product_16 {l : Launch} {D : va_G} {cI cS cM : ClassId} {F_X9_isElement F_X9_then F_X9_refuses : KF} (h_X9_isElement : k_snd l D cI cS cM yX9_isElement cX9_isElement 2 (some .boolean) 8 2 F_X9_isElement) (h_X9_then : k_snd l D cI cS cM yX9_then cX9_then 3 (some .int) 1 3 F_X9_then) (h_X9_refuses : k_snd l D cI cS cM yX9_refuses cX9_refuses 2 (some .int) 1 2 F_X9_refuses) : KS l D cI cS cM yX9_product.cls yX9_product.name cX9_product 3 (some .int) (k_rm 9 0 0) false 16 0 (b_X9_product_16 F_X9_isElement F_X9_then F_X9_refuses) :=
  s_aload_n dX9_product_16 rfl <|
  s_iload_n dX9_product_17 rfl <|
  s_iload_n dX9_product_18 rfl <|
  s_callV1 dX9_product_19 kw_23_18 kw_23_19 kw_23_20 (ci := 9) rfl ok_X9_then (by decide) (by decide) h_X9_then (by decide) <|
  s_goto dX9_product_22 (by decide) (s_X9_product_31 h_X9_isElement h_X9_then h_X9_refuses)
noncomputable def b_X9_product_8 (F_X9_isElement F_X9_then F_X9_refuses : KF) : KC := o_aload 0 <| o_iload 2 <| o_cV1 2 9 F_X9_isElement <| o_c1 g_eq (b_X9_product_25 F_X9_isElement F_X9_then F_X9_refuses) (b_X9_product_16 F_X9_isElement F_X9_then F_X9_refuses)
set_option maxRecDepth 100000 in
theorem s_X9_product_8 {l : Launch} {D : va_G} {cI cS cM : ClassId} {F_X9_isElement F_X9_then F_X9_refuses : KF} (h_X9_isElement : k_snd l D cI cS cM yX9_isElement cX9_isElement 2 (some .boolean) 8 2 F_X9_isElement) (h_X9_then : k_snd l D cI cS cM yX9_then cX9_then 3 (some .int) 1 3 F_X9_then) (h_X9_refuses : k_snd l D cI cS cM yX9_refuses cX9_refuses 2 (some .int) 1 2 F_X9_refuses) : KS l D cI cS cM yX9_product.cls yX9_product.name cX9_product 3 (some .int) (k_rm 9 0 0) false 8 0 (b_X9_product_8 F_X9_isElement F_X9_then F_X9_refuses) :=
  s_aload_n dX9_product_8 rfl <|
  s_iload_n dX9_product_9 rfl <|
  s_callV1 dX9_product_10 kw_27_14 kw_27_15 kw_27_16 (ci := 9) rfl ok_X9_isElement (by decide) (by decide) h_X9_isElement (by decide) <|
  s_if_eq dX9_product_13 (by decide) (s_X9_product_25 h_X9_isElement h_X9_then h_X9_refuses) (s_X9_product_16 h_X9_isElement h_X9_then h_X9_refuses)
noncomputable def b_X9_product_0 (F_X9_isElement F_X9_then F_X9_refuses : KF) : KC := o_aload 0 <| o_iload 1 <| o_cV1 2 9 F_X9_isElement <| o_c1 g_eq (b_X9_product_25 F_X9_isElement F_X9_then F_X9_refuses) (b_X9_product_8 F_X9_isElement F_X9_then F_X9_refuses)
set_option maxRecDepth 100000 in
theorem s_X9_product_0 {l : Launch} {D : va_G} {cI cS cM : ClassId} {F_X9_isElement F_X9_then F_X9_refuses : KF} (h_X9_isElement : k_snd l D cI cS cM yX9_isElement cX9_isElement 2 (some .boolean) 8 2 F_X9_isElement) (h_X9_then : k_snd l D cI cS cM yX9_then cX9_then 3 (some .int) 1 3 F_X9_then) (h_X9_refuses : k_snd l D cI cS cM yX9_refuses cX9_refuses 2 (some .int) 1 2 F_X9_refuses) : KS l D cI cS cM yX9_product.cls yX9_product.name cX9_product 3 (some .int) (k_rm 9 0 0) false 0 0 (b_X9_product_0 F_X9_isElement F_X9_then F_X9_refuses) :=
  s_aload_n dX9_product_0 rfl <|
  s_iload_n dX9_product_1 rfl <|
  s_callV1 dX9_product_2 kw_27_14 kw_27_15 kw_27_16 (ci := 9) rfl ok_X9_isElement (by decide) (by decide) h_X9_isElement (by decide) <|
  s_if_eq dX9_product_5 (by decide) (s_X9_product_25 h_X9_isElement h_X9_then h_X9_refuses) (s_X9_product_8 h_X9_isElement h_X9_then h_X9_refuses)
noncomputable def m_X9_product (F_X9_isElement F_X9_then F_X9_refuses : KF) : KF := k_fun [] (b_X9_product_0 F_X9_isElement F_X9_then F_X9_refuses)
theorem r_X9_product {l : Launch} {D : va_G} {cI cS cM : ClassId} {F_X9_isElement F_X9_then F_X9_refuses : KF} (h_X9_isElement : k_snd l D cI cS cM yX9_isElement cX9_isElement 2 (some .boolean) 8 2 F_X9_isElement) (h_X9_then : k_snd l D cI cS cM yX9_then cX9_then 3 (some .int) 1 3 F_X9_then) (h_X9_refuses : k_snd l D cI cS cM yX9_refuses cX9_refuses 2 (some .int) 1 2 F_X9_refuses) : k_snd l D cI cS cM yX9_product cX9_product 3 (some .int) 9 3 (m_X9_product F_X9_isElement F_X9_then F_X9_refuses) :=
  k_method (by decide +kernel) (by simp) rfl (s_X9_product_0 h_X9_isElement h_X9_then h_X9_refuses)
noncomputable def b_X9_sort_32 (F_X9_isSort F_X9_in F_X9_ofSort F_X9_refuses : KF) : KC := o_iret
set_option maxRecDepth 100000 in
theorem s_X9_sort_32 {l : Launch} {D : va_G} {cI cS cM : ClassId} {F_X9_isSort F_X9_in F_X9_ofSort F_X9_refuses : KF} (h_X9_isSort : k_snd l D cI cS cM yX9_isSort cX9_isSort 2 (some .boolean) 8 2 F_X9_isSort) (h_X9_in : k_snd l D cI cS cM yX9_in cX9_in 3 (some .boolean) 1 3 F_X9_in) (h_X9_ofSort : k_snd l D cI cS cM yX9_ofSort cX9_ofSort 3 (some .int) 3 3 F_X9_ofSort) (h_X9_refuses : k_snd l D cI cS cM yX9_refuses cX9_refuses 2 (some .int) 1 2 F_X9_refuses) : KS l D cI cS cM yX9_sort.cls yX9_sort.name cX9_sort 3 (some .int) (k_rm 9 0 0) false 32 1 (b_X9_sort_32 F_X9_isSort F_X9_in F_X9_ofSort F_X9_refuses) :=
  s_ireturn dX9_sort_32 rfl
noncomputable def b_X9_sort_26 (F_X9_isSort F_X9_in F_X9_ofSort F_X9_refuses : KF) : KC := o_aload 0 <| o_push 4294967294 <| o_cV1 2 9 F_X9_refuses <| b_X9_sort_32 F_X9_isSort F_X9_in F_X9_ofSort F_X9_refuses
set_option maxRecDepth 100000 in
theorem s_X9_sort_26 {l : Launch} {D : va_G} {cI cS cM : ClassId} {F_X9_isSort F_X9_in F_X9_ofSort F_X9_refuses : KF} (h_X9_isSort : k_snd l D cI cS cM yX9_isSort cX9_isSort 2 (some .boolean) 8 2 F_X9_isSort) (h_X9_in : k_snd l D cI cS cM yX9_in cX9_in 3 (some .boolean) 1 3 F_X9_in) (h_X9_ofSort : k_snd l D cI cS cM yX9_ofSort cX9_ofSort 3 (some .int) 3 3 F_X9_ofSort) (h_X9_refuses : k_snd l D cI cS cM yX9_refuses cX9_refuses 2 (some .int) 1 2 F_X9_refuses) : KS l D cI cS cM yX9_sort.cls yX9_sort.name cX9_sort 3 (some .int) (k_rm 9 0 0) false 26 0 (b_X9_sort_26 F_X9_isSort F_X9_in F_X9_ofSort F_X9_refuses) :=
  s_aload_n dX9_sort_26 rfl <|
  s_push2 dX9_sort_27 (by decide) (by decide) <|
  s_callV1 dX9_sort_29 kw_10_1 kw_10_2 kw_10_3 (ci := 9) rfl ok_X9_refuses (by decide) (by decide) h_X9_refuses (by decide) <|
  s_X9_sort_32 h_X9_isSort h_X9_in h_X9_ofSort h_X9_refuses
noncomputable def b_X9_sort_17 (F_X9_isSort F_X9_in F_X9_ofSort F_X9_refuses : KF) : KC := o_aload 0 <| o_iload 1 <| o_iload 2 <| o_cV1 3 9 F_X9_ofSort <| b_X9_sort_32 F_X9_isSort F_X9_in F_X9_ofSort F_X9_refuses
set_option maxRecDepth 100000 in
theorem s_X9_sort_17 {l : Launch} {D : va_G} {cI cS cM : ClassId} {F_X9_isSort F_X9_in F_X9_ofSort F_X9_refuses : KF} (h_X9_isSort : k_snd l D cI cS cM yX9_isSort cX9_isSort 2 (some .boolean) 8 2 F_X9_isSort) (h_X9_in : k_snd l D cI cS cM yX9_in cX9_in 3 (some .boolean) 1 3 F_X9_in) (h_X9_ofSort : k_snd l D cI cS cM yX9_ofSort cX9_ofSort 3 (some .int) 3 3 F_X9_ofSort) (h_X9_refuses : k_snd l D cI cS cM yX9_refuses cX9_refuses 2 (some .int) 1 2 F_X9_refuses) : KS l D cI cS cM yX9_sort.cls yX9_sort.name cX9_sort 3 (some .int) (k_rm 9 0 0) false 17 0 (b_X9_sort_17 F_X9_isSort F_X9_in F_X9_ofSort F_X9_refuses) :=
  s_aload_n dX9_sort_17 rfl <|
  s_iload_n dX9_sort_18 rfl <|
  s_iload_n dX9_sort_19 rfl <|
  s_callV1 dX9_sort_20 kw_29_3 kw_29_4 kw_29_5 (ci := 9) rfl ok_X9_ofSort (by decide) (by decide) h_X9_ofSort (by decide) <|
  s_goto dX9_sort_23 (by decide) (s_X9_sort_32 h_X9_isSort h_X9_in h_X9_ofSort h_X9_refuses)
noncomputable def b_X9_sort_8 (F_X9_isSort F_X9_in F_X9_ofSort F_X9_refuses : KF) : KC := o_iload 2 <| o_push 0 <| o_push 5 <| o_cS1 3 F_X9_in <| o_c1 g_eq (b_X9_sort_26 F_X9_isSort F_X9_in F_X9_ofSort F_X9_refuses) (b_X9_sort_17 F_X9_isSort F_X9_in F_X9_ofSort F_X9_refuses)
set_option maxRecDepth 100000 in
theorem s_X9_sort_8 {l : Launch} {D : va_G} {cI cS cM : ClassId} {F_X9_isSort F_X9_in F_X9_ofSort F_X9_refuses : KF} (h_X9_isSort : k_snd l D cI cS cM yX9_isSort cX9_isSort 2 (some .boolean) 8 2 F_X9_isSort) (h_X9_in : k_snd l D cI cS cM yX9_in cX9_in 3 (some .boolean) 1 3 F_X9_in) (h_X9_ofSort : k_snd l D cI cS cM yX9_ofSort cX9_ofSort 3 (some .int) 3 3 F_X9_ofSort) (h_X9_refuses : k_snd l D cI cS cM yX9_refuses cX9_refuses 2 (some .int) 1 2 F_X9_refuses) : KS l D cI cS cM yX9_sort.cls yX9_sort.name cX9_sort 3 (some .int) (k_rm 9 0 0) false 8 0 (b_X9_sort_8 F_X9_isSort F_X9_in F_X9_ofSort F_X9_refuses) :=
  s_iload_n dX9_sort_8 rfl <|
  s_push1 dX9_sort_9 (by decide) (by decide) <|
  s_push1 dX9_sort_10 (by decide) (by decide) <|
  s_callS1 dX9_sort_11 kw_9_18 kw_9_19 ok_X9_in (by decide) (by decide) h_X9_in (by decide) <|
  s_if_eq dX9_sort_14 (by decide) (s_X9_sort_26 h_X9_isSort h_X9_in h_X9_ofSort h_X9_refuses) (s_X9_sort_17 h_X9_isSort h_X9_in h_X9_ofSort h_X9_refuses)
noncomputable def b_X9_sort_0 (F_X9_isSort F_X9_in F_X9_ofSort F_X9_refuses : KF) : KC := o_aload 0 <| o_iload 1 <| o_cV1 2 9 F_X9_isSort <| o_c1 g_eq (b_X9_sort_26 F_X9_isSort F_X9_in F_X9_ofSort F_X9_refuses) (b_X9_sort_8 F_X9_isSort F_X9_in F_X9_ofSort F_X9_refuses)
set_option maxRecDepth 100000 in
theorem s_X9_sort_0 {l : Launch} {D : va_G} {cI cS cM : ClassId} {F_X9_isSort F_X9_in F_X9_ofSort F_X9_refuses : KF} (h_X9_isSort : k_snd l D cI cS cM yX9_isSort cX9_isSort 2 (some .boolean) 8 2 F_X9_isSort) (h_X9_in : k_snd l D cI cS cM yX9_in cX9_in 3 (some .boolean) 1 3 F_X9_in) (h_X9_ofSort : k_snd l D cI cS cM yX9_ofSort cX9_ofSort 3 (some .int) 3 3 F_X9_ofSort) (h_X9_refuses : k_snd l D cI cS cM yX9_refuses cX9_refuses 2 (some .int) 1 2 F_X9_refuses) : KS l D cI cS cM yX9_sort.cls yX9_sort.name cX9_sort 3 (some .int) (k_rm 9 0 0) false 0 0 (b_X9_sort_0 F_X9_isSort F_X9_in F_X9_ofSort F_X9_refuses) :=
  s_aload_n dX9_sort_0 rfl <|
  s_iload_n dX9_sort_1 rfl <|
  s_callV1 dX9_sort_2 kw_28_23 kw_29_0 kw_29_1 (ci := 9) rfl ok_X9_isSort (by decide) (by decide) h_X9_isSort (by decide) <|
  s_if_eq dX9_sort_5 (by decide) (s_X9_sort_26 h_X9_isSort h_X9_in h_X9_ofSort h_X9_refuses) (s_X9_sort_8 h_X9_isSort h_X9_in h_X9_ofSort h_X9_refuses)
noncomputable def m_X9_sort (F_X9_isSort F_X9_in F_X9_ofSort F_X9_refuses : KF) : KF := k_fun [] (b_X9_sort_0 F_X9_isSort F_X9_in F_X9_ofSort F_X9_refuses)
theorem r_X9_sort {l : Launch} {D : va_G} {cI cS cM : ClassId} {F_X9_isSort F_X9_in F_X9_ofSort F_X9_refuses : KF} (h_X9_isSort : k_snd l D cI cS cM yX9_isSort cX9_isSort 2 (some .boolean) 8 2 F_X9_isSort) (h_X9_in : k_snd l D cI cS cM yX9_in cX9_in 3 (some .boolean) 1 3 F_X9_in) (h_X9_ofSort : k_snd l D cI cS cM yX9_ofSort cX9_ofSort 3 (some .int) 3 3 F_X9_ofSort) (h_X9_refuses : k_snd l D cI cS cM yX9_refuses cX9_refuses 2 (some .int) 1 2 F_X9_refuses) : k_snd l D cI cS cM yX9_sort cX9_sort 3 (some .int) 9 3 (m_X9_sort F_X9_isSort F_X9_in F_X9_ofSort F_X9_refuses) :=
  k_method (by decide +kernel) (by simp) rfl (s_X9_sort_0 h_X9_isSort h_X9_in h_X9_ofSort h_X9_refuses)
noncomputable def b_X9_spread_36 (F_X9_isSort F_X9_refuses : KF) : KC := o_iret
set_option maxRecDepth 100000 in
theorem s_X9_spread_36 {l : Launch} {D : va_G} {cI cS cM : ClassId} {F_X9_isSort F_X9_refuses : KF} (h_X9_isSort : k_snd l D cI cS cM yX9_isSort cX9_isSort 2 (some .boolean) 8 2 F_X9_isSort) (h_X9_refuses : k_snd l D cI cS cM yX9_refuses cX9_refuses 2 (some .int) 1 2 F_X9_refuses) : KS l D cI cS cM yX9_spread.cls yX9_spread.name cX9_spread 3 (some .int) (k_rm 9 0 0) false 36 1 (b_X9_spread_36 F_X9_isSort F_X9_refuses) :=
  s_ireturn dX9_spread_36 rfl
noncomputable def b_X9_spread_30 (F_X9_isSort F_X9_refuses : KF) : KC := o_aload 0 <| o_push 4294967294 <| o_cV1 2 9 F_X9_refuses <| b_X9_spread_36 F_X9_isSort F_X9_refuses
set_option maxRecDepth 100000 in
theorem s_X9_spread_30 {l : Launch} {D : va_G} {cI cS cM : ClassId} {F_X9_isSort F_X9_refuses : KF} (h_X9_isSort : k_snd l D cI cS cM yX9_isSort cX9_isSort 2 (some .boolean) 8 2 F_X9_isSort) (h_X9_refuses : k_snd l D cI cS cM yX9_refuses cX9_refuses 2 (some .int) 1 2 F_X9_refuses) : KS l D cI cS cM yX9_spread.cls yX9_spread.name cX9_spread 3 (some .int) (k_rm 9 0 0) false 30 0 (b_X9_spread_30 F_X9_isSort F_X9_refuses) :=
  s_aload_n dX9_spread_30 rfl <|
  s_push2 dX9_spread_31 (by decide) (by decide) <|
  s_callV1 dX9_spread_33 kw_10_1 kw_10_2 kw_10_3 (ci := 9) rfl ok_X9_refuses (by decide) (by decide) h_X9_refuses (by decide) <|
  s_X9_spread_36 h_X9_isSort h_X9_refuses
noncomputable def b_X9_spread_16 (F_X9_isSort F_X9_refuses : KF) : KC := o_aload 0 <| o_get 9 27 <| o_push 8 <| o_iload 1 <| o_bin n_mul <| o_iload 2 <| o_bin n_add <| o_iald <| b_X9_spread_36 F_X9_isSort F_X9_refuses
set_option maxRecDepth 100000 in
theorem s_X9_spread_16 {l : Launch} {D : va_G} {cI cS cM : ClassId} {F_X9_isSort F_X9_refuses : KF} (h_X9_isSort : k_snd l D cI cS cM yX9_isSort cX9_isSort 2 (some .boolean) 8 2 F_X9_isSort) (h_X9_refuses : k_snd l D cI cS cM yX9_refuses cX9_refuses 2 (some .int) 1 2 F_X9_refuses) : KS l D cI cS cM yX9_spread.cls yX9_spread.name cX9_spread 3 (some .int) (k_rm 9 0 0) false 16 0 (b_X9_spread_16 F_X9_isSort F_X9_refuses) :=
  s_aload_n dX9_spread_16 rfl <|
  s_get dX9_spread_17 (ci := 9) (sl := 27) (Cn := RX9) (Tf := TX9) (N := 40) rfl (by decide) kiX9 kw_7_10 <|
  s_push2 dX9_spread_20 (by decide) (by decide) <|
  s_iload_n dX9_spread_22 rfl <|
  s_imul dX9_spread_23 <|
  s_iload_n dX9_spread_24 rfl <|
  s_iadd dX9_spread_25 <|
  s_iald dX9_spread_26 <|
  s_goto dX9_spread_27 (by decide) (s_X9_spread_36 h_X9_isSort h_X9_refuses)
noncomputable def b_X9_spread_8 (F_X9_isSort F_X9_refuses : KF) : KC := o_aload 0 <| o_iload 2 <| o_cV1 2 9 F_X9_isSort <| o_c1 g_eq (b_X9_spread_30 F_X9_isSort F_X9_refuses) (b_X9_spread_16 F_X9_isSort F_X9_refuses)
set_option maxRecDepth 100000 in
theorem s_X9_spread_8 {l : Launch} {D : va_G} {cI cS cM : ClassId} {F_X9_isSort F_X9_refuses : KF} (h_X9_isSort : k_snd l D cI cS cM yX9_isSort cX9_isSort 2 (some .boolean) 8 2 F_X9_isSort) (h_X9_refuses : k_snd l D cI cS cM yX9_refuses cX9_refuses 2 (some .int) 1 2 F_X9_refuses) : KS l D cI cS cM yX9_spread.cls yX9_spread.name cX9_spread 3 (some .int) (k_rm 9 0 0) false 8 0 (b_X9_spread_8 F_X9_isSort F_X9_refuses) :=
  s_aload_n dX9_spread_8 rfl <|
  s_iload_n dX9_spread_9 rfl <|
  s_callV1 dX9_spread_10 kw_28_23 kw_29_0 kw_29_1 (ci := 9) rfl ok_X9_isSort (by decide) (by decide) h_X9_isSort (by decide) <|
  s_if_eq dX9_spread_13 (by decide) (s_X9_spread_30 h_X9_isSort h_X9_refuses) (s_X9_spread_16 h_X9_isSort h_X9_refuses)
noncomputable def b_X9_spread_0 (F_X9_isSort F_X9_refuses : KF) : KC := o_aload 0 <| o_iload 1 <| o_cV1 2 9 F_X9_isSort <| o_c1 g_eq (b_X9_spread_30 F_X9_isSort F_X9_refuses) (b_X9_spread_8 F_X9_isSort F_X9_refuses)
set_option maxRecDepth 100000 in
theorem s_X9_spread_0 {l : Launch} {D : va_G} {cI cS cM : ClassId} {F_X9_isSort F_X9_refuses : KF} (h_X9_isSort : k_snd l D cI cS cM yX9_isSort cX9_isSort 2 (some .boolean) 8 2 F_X9_isSort) (h_X9_refuses : k_snd l D cI cS cM yX9_refuses cX9_refuses 2 (some .int) 1 2 F_X9_refuses) : KS l D cI cS cM yX9_spread.cls yX9_spread.name cX9_spread 3 (some .int) (k_rm 9 0 0) false 0 0 (b_X9_spread_0 F_X9_isSort F_X9_refuses) :=
  s_aload_n dX9_spread_0 rfl <|
  s_iload_n dX9_spread_1 rfl <|
  s_callV1 dX9_spread_2 kw_28_23 kw_29_0 kw_29_1 (ci := 9) rfl ok_X9_isSort (by decide) (by decide) h_X9_isSort (by decide) <|
  s_if_eq dX9_spread_5 (by decide) (s_X9_spread_30 h_X9_isSort h_X9_refuses) (s_X9_spread_8 h_X9_isSort h_X9_refuses)
noncomputable def m_X9_spread (F_X9_isSort F_X9_refuses : KF) : KF := k_fun [] (b_X9_spread_0 F_X9_isSort F_X9_refuses)
theorem r_X9_spread {l : Launch} {D : va_G} {cI cS cM : ClassId} {F_X9_isSort F_X9_refuses : KF} (h_X9_isSort : k_snd l D cI cS cM yX9_isSort cX9_isSort 2 (some .boolean) 8 2 F_X9_isSort) (h_X9_refuses : k_snd l D cI cS cM yX9_refuses cX9_refuses 2 (some .int) 1 2 F_X9_refuses) : k_snd l D cI cS cM yX9_spread cX9_spread 3 (some .int) 9 3 (m_X9_spread F_X9_isSort F_X9_refuses) :=
  k_method (by decide +kernel) (by simp) rfl (s_X9_spread_0 h_X9_isSort h_X9_refuses)
noncomputable def b_X9_times_49 (F_X9_isSort F_X9_refuses : KF) : KC := o_iret
set_option maxRecDepth 100000 in
theorem s_X9_times_49 {l : Launch} {D : va_G} {cI cS cM : ClassId} {F_X9_isSort F_X9_refuses : KF} (h_X9_isSort : k_snd l D cI cS cM yX9_isSort cX9_isSort 2 (some .boolean) 8 2 F_X9_isSort) (h_X9_refuses : k_snd l D cI cS cM yX9_refuses cX9_refuses 2 (some .int) 1 2 F_X9_refuses) : KS l D cI cS cM yX9_times.cls yX9_times.name cX9_times 4 (some .int) (k_rm 9 0 0) false 49 1 (b_X9_times_49 F_X9_isSort F_X9_refuses) :=
  s_ireturn dX9_times_49 rfl
noncomputable def b_X9_times_43 (F_X9_isSort F_X9_refuses : KF) : KC := o_aload 0 <| o_push 4294967294 <| o_cV1 2 9 F_X9_refuses <| b_X9_times_49 F_X9_isSort F_X9_refuses
set_option maxRecDepth 100000 in
theorem s_X9_times_43 {l : Launch} {D : va_G} {cI cS cM : ClassId} {F_X9_isSort F_X9_refuses : KF} (h_X9_isSort : k_snd l D cI cS cM yX9_isSort cX9_isSort 2 (some .boolean) 8 2 F_X9_isSort) (h_X9_refuses : k_snd l D cI cS cM yX9_refuses cX9_refuses 2 (some .int) 1 2 F_X9_refuses) : KS l D cI cS cM yX9_times.cls yX9_times.name cX9_times 4 (some .int) (k_rm 9 0 0) false 43 0 (b_X9_times_43 F_X9_isSort F_X9_refuses) :=
  s_aload_n dX9_times_43 rfl <|
  s_push2 dX9_times_44 (by decide) (by decide) <|
  s_callV1 dX9_times_46 kw_10_1 kw_10_2 kw_10_3 (ci := 9) rfl ok_X9_refuses (by decide) (by decide) h_X9_refuses (by decide) <|
  s_X9_times_49 h_X9_isSort h_X9_refuses
noncomputable def b_X9_times_24 (F_X9_isSort F_X9_refuses : KF) : KC := o_aload 0 <| o_get 9 18 <| o_push 64 <| o_iload 1 <| o_bin n_mul <| o_push 8 <| o_iload 2 <| o_bin n_mul <| o_bin n_add <| o_iload 3 <| o_bin n_add <| o_iald <| b_X9_times_49 F_X9_isSort F_X9_refuses
set_option maxRecDepth 100000 in
theorem s_X9_times_24 {l : Launch} {D : va_G} {cI cS cM : ClassId} {F_X9_isSort F_X9_refuses : KF} (h_X9_isSort : k_snd l D cI cS cM yX9_isSort cX9_isSort 2 (some .boolean) 8 2 F_X9_isSort) (h_X9_refuses : k_snd l D cI cS cM yX9_refuses cX9_refuses 2 (some .int) 1 2 F_X9_refuses) : KS l D cI cS cM yX9_times.cls yX9_times.name cX9_times 4 (some .int) (k_rm 9 0 0) false 24 0 (b_X9_times_24 F_X9_isSort F_X9_refuses) :=
  s_aload_n dX9_times_24 rfl <|
  s_get dX9_times_25 (ci := 9) (sl := 18) (Cn := RX9) (Tf := TX9) (N := 40) rfl (by decide) kiX9 kw_7_3 <|
  s_push2 dX9_times_28 (by decide) (by decide) <|
  s_iload_n dX9_times_30 rfl <|
  s_imul dX9_times_31 <|
  s_push2 dX9_times_32 (by decide) (by decide) <|
  s_iload_n dX9_times_34 rfl <|
  s_imul dX9_times_35 <|
  s_iadd dX9_times_36 <|
  s_iload_n dX9_times_37 rfl <|
  s_iadd dX9_times_38 <|
  s_iald dX9_times_39 <|
  s_goto dX9_times_40 (by decide) (s_X9_times_49 h_X9_isSort h_X9_refuses)
noncomputable def b_X9_times_16 (F_X9_isSort F_X9_refuses : KF) : KC := o_aload 0 <| o_iload 3 <| o_cV1 2 9 F_X9_isSort <| o_c1 g_eq (b_X9_times_43 F_X9_isSort F_X9_refuses) (b_X9_times_24 F_X9_isSort F_X9_refuses)
set_option maxRecDepth 100000 in
theorem s_X9_times_16 {l : Launch} {D : va_G} {cI cS cM : ClassId} {F_X9_isSort F_X9_refuses : KF} (h_X9_isSort : k_snd l D cI cS cM yX9_isSort cX9_isSort 2 (some .boolean) 8 2 F_X9_isSort) (h_X9_refuses : k_snd l D cI cS cM yX9_refuses cX9_refuses 2 (some .int) 1 2 F_X9_refuses) : KS l D cI cS cM yX9_times.cls yX9_times.name cX9_times 4 (some .int) (k_rm 9 0 0) false 16 0 (b_X9_times_16 F_X9_isSort F_X9_refuses) :=
  s_aload_n dX9_times_16 rfl <|
  s_iload_n dX9_times_17 rfl <|
  s_callV1 dX9_times_18 kw_28_23 kw_29_0 kw_29_1 (ci := 9) rfl ok_X9_isSort (by decide) (by decide) h_X9_isSort (by decide) <|
  s_if_eq dX9_times_21 (by decide) (s_X9_times_43 h_X9_isSort h_X9_refuses) (s_X9_times_24 h_X9_isSort h_X9_refuses)
noncomputable def b_X9_times_8 (F_X9_isSort F_X9_refuses : KF) : KC := o_aload 0 <| o_iload 2 <| o_cV1 2 9 F_X9_isSort <| o_c1 g_eq (b_X9_times_43 F_X9_isSort F_X9_refuses) (b_X9_times_16 F_X9_isSort F_X9_refuses)
set_option maxRecDepth 100000 in
theorem s_X9_times_8 {l : Launch} {D : va_G} {cI cS cM : ClassId} {F_X9_isSort F_X9_refuses : KF} (h_X9_isSort : k_snd l D cI cS cM yX9_isSort cX9_isSort 2 (some .boolean) 8 2 F_X9_isSort) (h_X9_refuses : k_snd l D cI cS cM yX9_refuses cX9_refuses 2 (some .int) 1 2 F_X9_refuses) : KS l D cI cS cM yX9_times.cls yX9_times.name cX9_times 4 (some .int) (k_rm 9 0 0) false 8 0 (b_X9_times_8 F_X9_isSort F_X9_refuses) :=
  s_aload_n dX9_times_8 rfl <|
  s_iload_n dX9_times_9 rfl <|
  s_callV1 dX9_times_10 kw_28_23 kw_29_0 kw_29_1 (ci := 9) rfl ok_X9_isSort (by decide) (by decide) h_X9_isSort (by decide) <|
  s_if_eq dX9_times_13 (by decide) (s_X9_times_43 h_X9_isSort h_X9_refuses) (s_X9_times_16 h_X9_isSort h_X9_refuses)
noncomputable def b_X9_times_0 (F_X9_isSort F_X9_refuses : KF) : KC := o_aload 0 <| o_iload 1 <| o_cV1 2 9 F_X9_isSort <| o_c1 g_eq (b_X9_times_43 F_X9_isSort F_X9_refuses) (b_X9_times_8 F_X9_isSort F_X9_refuses)
set_option maxRecDepth 100000 in
theorem s_X9_times_0 {l : Launch} {D : va_G} {cI cS cM : ClassId} {F_X9_isSort F_X9_refuses : KF} (h_X9_isSort : k_snd l D cI cS cM yX9_isSort cX9_isSort 2 (some .boolean) 8 2 F_X9_isSort) (h_X9_refuses : k_snd l D cI cS cM yX9_refuses cX9_refuses 2 (some .int) 1 2 F_X9_refuses) : KS l D cI cS cM yX9_times.cls yX9_times.name cX9_times 4 (some .int) (k_rm 9 0 0) false 0 0 (b_X9_times_0 F_X9_isSort F_X9_refuses) :=
  s_aload_n dX9_times_0 rfl <|
  s_iload_n dX9_times_1 rfl <|
  s_callV1 dX9_times_2 kw_28_23 kw_29_0 kw_29_1 (ci := 9) rfl ok_X9_isSort (by decide) (by decide) h_X9_isSort (by decide) <|
  s_if_eq dX9_times_5 (by decide) (s_X9_times_43 h_X9_isSort h_X9_refuses) (s_X9_times_8 h_X9_isSort h_X9_refuses)
noncomputable def m_X9_times (F_X9_isSort F_X9_refuses : KF) : KF := k_fun [] (b_X9_times_0 F_X9_isSort F_X9_refuses)
theorem r_X9_times {l : Launch} {D : va_G} {cI cS cM : ClassId} {F_X9_isSort F_X9_refuses : KF} (h_X9_isSort : k_snd l D cI cS cM yX9_isSort cX9_isSort 2 (some .boolean) 8 2 F_X9_isSort) (h_X9_refuses : k_snd l D cI cS cM yX9_refuses cX9_refuses 2 (some .int) 1 2 F_X9_refuses) : k_snd l D cI cS cM yX9_times cX9_times 4 (some .int) 9 4 (m_X9_times F_X9_isSort F_X9_refuses) :=
  k_method (by decide +kernel) (by simp) rfl (s_X9_times_0 h_X9_isSort h_X9_refuses)
noncomputable def b_X9_turned_127 (F_X9_isSort F_X9_refuses F_X9_multiply : KF) (J : List KC) : KC := o_iload 3 <| o_iret
set_option maxRecDepth 100000 in
theorem s_X9_turned_127 {l : Launch} {D : va_G} {cI cS cM : ClassId} {F_X9_isSort F_X9_refuses F_X9_multiply : KF} (h_X9_isSort : k_snd l D cI cS cM yX9_isSort cX9_isSort 2 (some .boolean) 8 2 F_X9_isSort) (h_X9_refuses : k_snd l D cI cS cM yX9_refuses cX9_refuses 2 (some .int) 1 2 F_X9_refuses) (h_X9_multiply : k_snd l D cI cS cM yX9_multiply cX9_multiply 4 none 1 3 F_X9_multiply) {J : List KC} (hJ : ∀ (i pc d : Nat), ([(51, 0), (62, 0)] : List (Nat × Nat))[i]? = some (pc, d) → KS l D cI cS cM yX9_turned.cls yX9_turned.name cX9_turned 6 (some .int) (k_rm 9 0 0) false pc d (k_jmp J i)) : KS l D cI cS cM yX9_turned.cls yX9_turned.name cX9_turned 6 (some .int) (k_rm 9 0 0) false 127 0 (b_X9_turned_127 F_X9_isSort F_X9_refuses F_X9_multiply J) :=
  s_iload_n dX9_turned_127 rfl <|
  s_ireturn dX9_turned_128 rfl
noncomputable def b_X9_turned_122 (F_X9_isSort F_X9_refuses F_X9_multiply : KF) (J : List KC) : KC := o_bin n_add <| o_istore 3 <| k_jmp J 0
set_option maxRecDepth 100000 in
theorem s_X9_turned_122 {l : Launch} {D : va_G} {cI cS cM : ClassId} {F_X9_isSort F_X9_refuses F_X9_multiply : KF} (h_X9_isSort : k_snd l D cI cS cM yX9_isSort cX9_isSort 2 (some .boolean) 8 2 F_X9_isSort) (h_X9_refuses : k_snd l D cI cS cM yX9_refuses cX9_refuses 2 (some .int) 1 2 F_X9_refuses) (h_X9_multiply : k_snd l D cI cS cM yX9_multiply cX9_multiply 4 none 1 3 F_X9_multiply) {J : List KC} (hJ : ∀ (i pc d : Nat), ([(51, 0), (62, 0)] : List (Nat × Nat))[i]? = some (pc, d) → KS l D cI cS cM yX9_turned.cls yX9_turned.name cX9_turned 6 (some .int) (k_rm 9 0 0) false pc d (k_jmp J i)) : KS l D cI cS cM yX9_turned.cls yX9_turned.name cX9_turned 6 (some .int) (k_rm 9 0 0) false 122 2 (b_X9_turned_122 F_X9_isSort F_X9_refuses F_X9_multiply J) :=
  s_iadd dX9_turned_122 <|
  s_istore_n dX9_turned_123 rfl (by decide) <|
  s_goto dX9_turned_124 (by decide) (hJ 0 _ _ rfl)
noncomputable def b_X9_turned_121 (F_X9_isSort F_X9_refuses F_X9_multiply : KF) (J : List KC) : KC := o_push 1 <| b_X9_turned_122 F_X9_isSort F_X9_refuses F_X9_multiply J
set_option maxRecDepth 100000 in
theorem s_X9_turned_121 {l : Launch} {D : va_G} {cI cS cM : ClassId} {F_X9_isSort F_X9_refuses F_X9_multiply : KF} (h_X9_isSort : k_snd l D cI cS cM yX9_isSort cX9_isSort 2 (some .boolean) 8 2 F_X9_isSort) (h_X9_refuses : k_snd l D cI cS cM yX9_refuses cX9_refuses 2 (some .int) 1 2 F_X9_refuses) (h_X9_multiply : k_snd l D cI cS cM yX9_multiply cX9_multiply 4 none 1 3 F_X9_multiply) {J : List KC} (hJ : ∀ (i pc d : Nat), ([(51, 0), (62, 0)] : List (Nat × Nat))[i]? = some (pc, d) → KS l D cI cS cM yX9_turned.cls yX9_turned.name cX9_turned 6 (some .int) (k_rm 9 0 0) false pc d (k_jmp J i)) : KS l D cI cS cM yX9_turned.cls yX9_turned.name cX9_turned 6 (some .int) (k_rm 9 0 0) false 121 1 (b_X9_turned_121 F_X9_isSort F_X9_refuses F_X9_multiply J) :=
  s_push1 dX9_turned_121 (by decide) (by decide) <|
  s_X9_turned_122 h_X9_isSort h_X9_refuses h_X9_multiply hJ
noncomputable def b_X9_turned_117 (F_X9_isSort F_X9_refuses F_X9_multiply : KF) (J : List KC) : KC := o_push 0 <| b_X9_turned_122 F_X9_isSort F_X9_refuses F_X9_multiply J
set_option maxRecDepth 100000 in
theorem s_X9_turned_117 {l : Launch} {D : va_G} {cI cS cM : ClassId} {F_X9_isSort F_X9_refuses F_X9_multiply : KF} (h_X9_isSort : k_snd l D cI cS cM yX9_isSort cX9_isSort 2 (some .boolean) 8 2 F_X9_isSort) (h_X9_refuses : k_snd l D cI cS cM yX9_refuses cX9_refuses 2 (some .int) 1 2 F_X9_refuses) (h_X9_multiply : k_snd l D cI cS cM yX9_multiply cX9_multiply 4 none 1 3 F_X9_multiply) {J : List KC} (hJ : ∀ (i pc d : Nat), ([(51, 0), (62, 0)] : List (Nat × Nat))[i]? = some (pc, d) → KS l D cI cS cM yX9_turned.cls yX9_turned.name cX9_turned 6 (some .int) (k_rm 9 0 0) false pc d (k_jmp J i)) : KS l D cI cS cM yX9_turned.cls yX9_turned.name cX9_turned 6 (some .int) (k_rm 9 0 0) false 117 1 (b_X9_turned_117 F_X9_isSort F_X9_refuses F_X9_multiply J) :=
  s_push1 dX9_turned_117 (by decide) (by decide) <|
  s_goto dX9_turned_118 (by decide) (s_X9_turned_122 h_X9_isSort h_X9_refuses h_X9_multiply hJ)
noncomputable def b_X9_turned_111 (F_X9_isSort F_X9_refuses F_X9_multiply : KF) (J : List KC) : KC := o_iload 3 <| o_iload 4 <| o_c1 g_eq (b_X9_turned_121 F_X9_isSort F_X9_refuses F_X9_multiply J) (b_X9_turned_117 F_X9_isSort F_X9_refuses F_X9_multiply J)
set_option maxRecDepth 100000 in
theorem s_X9_turned_111 {l : Launch} {D : va_G} {cI cS cM : ClassId} {F_X9_isSort F_X9_refuses F_X9_multiply : KF} (h_X9_isSort : k_snd l D cI cS cM yX9_isSort cX9_isSort 2 (some .boolean) 8 2 F_X9_isSort) (h_X9_refuses : k_snd l D cI cS cM yX9_refuses cX9_refuses 2 (some .int) 1 2 F_X9_refuses) (h_X9_multiply : k_snd l D cI cS cM yX9_multiply cX9_multiply 4 none 1 3 F_X9_multiply) {J : List KC} (hJ : ∀ (i pc d : Nat), ([(51, 0), (62, 0)] : List (Nat × Nat))[i]? = some (pc, d) → KS l D cI cS cM yX9_turned.cls yX9_turned.name cX9_turned 6 (some .int) (k_rm 9 0 0) false pc d (k_jmp J i)) : KS l D cI cS cM yX9_turned.cls yX9_turned.name cX9_turned 6 (some .int) (k_rm 9 0 0) false 111 0 (b_X9_turned_111 F_X9_isSort F_X9_refuses F_X9_multiply J) :=
  s_iload_n dX9_turned_111 rfl <|
  s_iload dX9_turned_112 <|
  s_if_eq dX9_turned_114 (by decide) (s_X9_turned_121 h_X9_isSort h_X9_refuses h_X9_multiply hJ) (s_X9_turned_117 h_X9_isSort h_X9_refuses h_X9_multiply hJ)
noncomputable def b_X9_turned_103 (F_X9_isSort F_X9_refuses F_X9_multiply : KF) (J : List KC) : KC := o_istore 4 <| o_iinc 5 1 <| k_jmp J 1
set_option maxRecDepth 100000 in
theorem s_X9_turned_103 {l : Launch} {D : va_G} {cI cS cM : ClassId} {F_X9_isSort F_X9_refuses F_X9_multiply : KF} (h_X9_isSort : k_snd l D cI cS cM yX9_isSort cX9_isSort 2 (some .boolean) 8 2 F_X9_isSort) (h_X9_refuses : k_snd l D cI cS cM yX9_refuses cX9_refuses 2 (some .int) 1 2 F_X9_refuses) (h_X9_multiply : k_snd l D cI cS cM yX9_multiply cX9_multiply 4 none 1 3 F_X9_multiply) {J : List KC} (hJ : ∀ (i pc d : Nat), ([(51, 0), (62, 0)] : List (Nat × Nat))[i]? = some (pc, d) → KS l D cI cS cM yX9_turned.cls yX9_turned.name cX9_turned 6 (some .int) (k_rm 9 0 0) false pc d (k_jmp J i)) : KS l D cI cS cM yX9_turned.cls yX9_turned.name cX9_turned 6 (some .int) (k_rm 9 0 0) false 103 1 (b_X9_turned_103 F_X9_isSort F_X9_refuses F_X9_multiply J) :=
  s_istore dX9_turned_103 (by decide) <|
  s_iinc dX9_turned_105 (by decide) (by decide) <|
  s_goto dX9_turned_108 (by decide) (hJ 1 _ _ rfl)
noncomputable def b_X9_turned_102 (F_X9_isSort F_X9_refuses F_X9_multiply : KF) (J : List KC) : KC := o_push 0 <| b_X9_turned_103 F_X9_isSort F_X9_refuses F_X9_multiply J
set_option maxRecDepth 100000 in
theorem s_X9_turned_102 {l : Launch} {D : va_G} {cI cS cM : ClassId} {F_X9_isSort F_X9_refuses F_X9_multiply : KF} (h_X9_isSort : k_snd l D cI cS cM yX9_isSort cX9_isSort 2 (some .boolean) 8 2 F_X9_isSort) (h_X9_refuses : k_snd l D cI cS cM yX9_refuses cX9_refuses 2 (some .int) 1 2 F_X9_refuses) (h_X9_multiply : k_snd l D cI cS cM yX9_multiply cX9_multiply 4 none 1 3 F_X9_multiply) {J : List KC} (hJ : ∀ (i pc d : Nat), ([(51, 0), (62, 0)] : List (Nat × Nat))[i]? = some (pc, d) → KS l D cI cS cM yX9_turned.cls yX9_turned.name cX9_turned 6 (some .int) (k_rm 9 0 0) false pc d (k_jmp J i)) : KS l D cI cS cM yX9_turned.cls yX9_turned.name cX9_turned 6 (some .int) (k_rm 9 0 0) false 102 0 (b_X9_turned_102 F_X9_isSort F_X9_refuses F_X9_multiply J) :=
  s_push1 dX9_turned_102 (by decide) (by decide) <|
  s_X9_turned_103 h_X9_isSort h_X9_refuses h_X9_multiply hJ
noncomputable def b_X9_turned_98 (F_X9_isSort F_X9_refuses F_X9_multiply : KF) (J : List KC) : KC := o_push 1 <| b_X9_turned_103 F_X9_isSort F_X9_refuses F_X9_multiply J
set_option maxRecDepth 100000 in
theorem s_X9_turned_98 {l : Launch} {D : va_G} {cI cS cM : ClassId} {F_X9_isSort F_X9_refuses F_X9_multiply : KF} (h_X9_isSort : k_snd l D cI cS cM yX9_isSort cX9_isSort 2 (some .boolean) 8 2 F_X9_isSort) (h_X9_refuses : k_snd l D cI cS cM yX9_refuses cX9_refuses 2 (some .int) 1 2 F_X9_refuses) (h_X9_multiply : k_snd l D cI cS cM yX9_multiply cX9_multiply 4 none 1 3 F_X9_multiply) {J : List KC} (hJ : ∀ (i pc d : Nat), ([(51, 0), (62, 0)] : List (Nat × Nat))[i]? = some (pc, d) → KS l D cI cS cM yX9_turned.cls yX9_turned.name cX9_turned 6 (some .int) (k_rm 9 0 0) false pc d (k_jmp J i)) : KS l D cI cS cM yX9_turned.cls yX9_turned.name cX9_turned 6 (some .int) (k_rm 9 0 0) false 98 0 (b_X9_turned_98 F_X9_isSort F_X9_refuses F_X9_multiply J) :=
  s_push1 dX9_turned_98 (by decide) (by decide) <|
  s_goto dX9_turned_99 (by decide) (s_X9_turned_103 h_X9_isSort h_X9_refuses h_X9_multiply hJ)
noncomputable def b_X9_turned_76 (F_X9_isSort F_X9_refuses F_X9_multiply : KF) (J : List KC) : KC := o_aload 0 <| o_get 9 29 <| o_push 8 <| o_iload 3 <| o_bin n_mul <| o_iload 5 <| o_bin n_add <| o_iald <| o_aload 0 <| o_get 9 30 <| o_iload 5 <| o_iald <| o_c2 Nat.beq (b_X9_turned_98 F_X9_isSort F_X9_refuses F_X9_multiply J) (b_X9_turned_102 F_X9_isSort F_X9_refuses F_X9_multiply J)
set_option maxRecDepth 100000 in
theorem s_X9_turned_76 {l : Launch} {D : va_G} {cI cS cM : ClassId} {F_X9_isSort F_X9_refuses F_X9_multiply : KF} (h_X9_isSort : k_snd l D cI cS cM yX9_isSort cX9_isSort 2 (some .boolean) 8 2 F_X9_isSort) (h_X9_refuses : k_snd l D cI cS cM yX9_refuses cX9_refuses 2 (some .int) 1 2 F_X9_refuses) (h_X9_multiply : k_snd l D cI cS cM yX9_multiply cX9_multiply 4 none 1 3 F_X9_multiply) {J : List KC} (hJ : ∀ (i pc d : Nat), ([(51, 0), (62, 0)] : List (Nat × Nat))[i]? = some (pc, d) → KS l D cI cS cM yX9_turned.cls yX9_turned.name cX9_turned 6 (some .int) (k_rm 9 0 0) false pc d (k_jmp J i)) : KS l D cI cS cM yX9_turned.cls yX9_turned.name cX9_turned 6 (some .int) (k_rm 9 0 0) false 76 0 (b_X9_turned_76 F_X9_isSort F_X9_refuses F_X9_multiply J) :=
  s_aload_n dX9_turned_76 rfl <|
  s_get dX9_turned_77 (ci := 9) (sl := 29) (Cn := RX9) (Tf := TX9) (N := 40) rfl (by decide) kiX9 kw_7_12 <|
  s_push2 dX9_turned_80 (by decide) (by decide) <|
  s_iload_n dX9_turned_82 rfl <|
  s_imul dX9_turned_83 <|
  s_iload dX9_turned_84 <|
  s_iadd dX9_turned_86 <|
  s_iald dX9_turned_87 <|
  s_aload_n dX9_turned_88 rfl <|
  s_get dX9_turned_89 (ci := 9) (sl := 30) (Cn := RX9) (Tf := TX9) (N := 40) rfl (by decide) kiX9 kw_7_13 <|
  s_iload dX9_turned_92 <|
  s_iald dX9_turned_94 <|
  s_icmp_ne dX9_turned_95 (by decide) (s_X9_turned_102 h_X9_isSort h_X9_refuses h_X9_multiply hJ) (s_X9_turned_98 h_X9_isSort h_X9_refuses h_X9_multiply hJ)
noncomputable def b_X9_turned_71 (F_X9_isSort F_X9_refuses F_X9_multiply : KF) (J : List KC) : KC := o_iload 4 <| o_c1 g_eq (b_X9_turned_102 F_X9_isSort F_X9_refuses F_X9_multiply J) (b_X9_turned_76 F_X9_isSort F_X9_refuses F_X9_multiply J)
set_option maxRecDepth 100000 in
theorem s_X9_turned_71 {l : Launch} {D : va_G} {cI cS cM : ClassId} {F_X9_isSort F_X9_refuses F_X9_multiply : KF} (h_X9_isSort : k_snd l D cI cS cM yX9_isSort cX9_isSort 2 (some .boolean) 8 2 F_X9_isSort) (h_X9_refuses : k_snd l D cI cS cM yX9_refuses cX9_refuses 2 (some .int) 1 2 F_X9_refuses) (h_X9_multiply : k_snd l D cI cS cM yX9_multiply cX9_multiply 4 none 1 3 F_X9_multiply) {J : List KC} (hJ : ∀ (i pc d : Nat), ([(51, 0), (62, 0)] : List (Nat × Nat))[i]? = some (pc, d) → KS l D cI cS cM yX9_turned.cls yX9_turned.name cX9_turned 6 (some .int) (k_rm 9 0 0) false pc d (k_jmp J i)) : KS l D cI cS cM yX9_turned.cls yX9_turned.name cX9_turned 6 (some .int) (k_rm 9 0 0) false 71 0 (b_X9_turned_71 F_X9_isSort F_X9_refuses F_X9_multiply J) :=
  s_iload dX9_turned_71 <|
  s_if_eq dX9_turned_73 (by decide) (s_X9_turned_102 h_X9_isSort h_X9_refuses h_X9_multiply hJ) (s_X9_turned_76 h_X9_isSort h_X9_refuses h_X9_multiply hJ)
noncomputable def b_X9_turned_62 (F_X9_isSort F_X9_refuses F_X9_multiply : KF) (J : List KC) : KC := o_iload 5 <| o_aload 0 <| o_get 9 12 <| o_c2 s_lt (b_X9_turned_71 F_X9_isSort F_X9_refuses F_X9_multiply J) (b_X9_turned_111 F_X9_isSort F_X9_refuses F_X9_multiply J)
set_option maxRecDepth 100000 in
theorem s_X9_turned_62 {l : Launch} {D : va_G} {cI cS cM : ClassId} {F_X9_isSort F_X9_refuses F_X9_multiply : KF} (h_X9_isSort : k_snd l D cI cS cM yX9_isSort cX9_isSort 2 (some .boolean) 8 2 F_X9_isSort) (h_X9_refuses : k_snd l D cI cS cM yX9_refuses cX9_refuses 2 (some .int) 1 2 F_X9_refuses) (h_X9_multiply : k_snd l D cI cS cM yX9_multiply cX9_multiply 4 none 1 3 F_X9_multiply) {J : List KC} (hJ : ∀ (i pc d : Nat), ([(51, 0), (62, 0)] : List (Nat × Nat))[i]? = some (pc, d) → KS l D cI cS cM yX9_turned.cls yX9_turned.name cX9_turned 6 (some .int) (k_rm 9 0 0) false pc d (k_jmp J i)) : KS l D cI cS cM yX9_turned.cls yX9_turned.name cX9_turned 6 (some .int) (k_rm 9 0 0) false 62 0 (b_X9_turned_62 F_X9_isSort F_X9_refuses F_X9_multiply J) :=
  s_iload dX9_turned_62 <|
  s_aload_n dX9_turned_64 rfl <|
  s_get dX9_turned_65 (ci := 9) (sl := 12) (Cn := RX9) (Tf := TX9) (N := 40) rfl (by decide) kiX9 kw_22_14 <|
  s_icmp_ge dX9_turned_68 (by decide) (s_X9_turned_111 h_X9_isSort h_X9_refuses h_X9_multiply hJ) (s_X9_turned_71 h_X9_isSort h_X9_refuses h_X9_multiply hJ)
noncomputable def b_X9_turned_56 (F_X9_isSort F_X9_refuses F_X9_multiply : KF) (J : List KC) : KC := o_push 1 <| o_istore 4 <| o_push 0 <| o_istore 5 <| b_X9_turned_62 F_X9_isSort F_X9_refuses F_X9_multiply J
set_option maxRecDepth 100000 in
theorem s_X9_turned_56 {l : Launch} {D : va_G} {cI cS cM : ClassId} {F_X9_isSort F_X9_refuses F_X9_multiply : KF} (h_X9_isSort : k_snd l D cI cS cM yX9_isSort cX9_isSort 2 (some .boolean) 8 2 F_X9_isSort) (h_X9_refuses : k_snd l D cI cS cM yX9_refuses cX9_refuses 2 (some .int) 1 2 F_X9_refuses) (h_X9_multiply : k_snd l D cI cS cM yX9_multiply cX9_multiply 4 none 1 3 F_X9_multiply) {J : List KC} (hJ : ∀ (i pc d : Nat), ([(51, 0), (62, 0)] : List (Nat × Nat))[i]? = some (pc, d) → KS l D cI cS cM yX9_turned.cls yX9_turned.name cX9_turned 6 (some .int) (k_rm 9 0 0) false pc d (k_jmp J i)) : KS l D cI cS cM yX9_turned.cls yX9_turned.name cX9_turned 6 (some .int) (k_rm 9 0 0) false 56 0 (b_X9_turned_56 F_X9_isSort F_X9_refuses F_X9_multiply J) :=
  s_push1 dX9_turned_56 (by decide) (by decide) <|
  s_istore dX9_turned_57 (by decide) <|
  s_push1 dX9_turned_59 (by decide) (by decide) <|
  s_istore dX9_turned_60 (by decide) <|
  s_X9_turned_62 h_X9_isSort h_X9_refuses h_X9_multiply hJ
noncomputable def b_X9_turned_51 (F_X9_isSort F_X9_refuses F_X9_multiply : KF) (J : List KC) : KC := o_iload 4 <| o_c1 g_eq (b_X9_turned_56 F_X9_isSort F_X9_refuses F_X9_multiply J) (b_X9_turned_127 F_X9_isSort F_X9_refuses F_X9_multiply J)
set_option maxRecDepth 100000 in
theorem s_X9_turned_51 {l : Launch} {D : va_G} {cI cS cM : ClassId} {F_X9_isSort F_X9_refuses F_X9_multiply : KF} (h_X9_isSort : k_snd l D cI cS cM yX9_isSort cX9_isSort 2 (some .boolean) 8 2 F_X9_isSort) (h_X9_refuses : k_snd l D cI cS cM yX9_refuses cX9_refuses 2 (some .int) 1 2 F_X9_refuses) (h_X9_multiply : k_snd l D cI cS cM yX9_multiply cX9_multiply 4 none 1 3 F_X9_multiply) {J : List KC} (hJ : ∀ (i pc d : Nat), ([(51, 0), (62, 0)] : List (Nat × Nat))[i]? = some (pc, d) → KS l D cI cS cM yX9_turned.cls yX9_turned.name cX9_turned 6 (some .int) (k_rm 9 0 0) false pc d (k_jmp J i)) : KS l D cI cS cM yX9_turned.cls yX9_turned.name cX9_turned 6 (some .int) (k_rm 9 0 0) false 51 0 (b_X9_turned_51 F_X9_isSort F_X9_refuses F_X9_multiply J) :=
  s_iload dX9_turned_51 <|
  s_if_ne dX9_turned_53 (by decide) (s_X9_turned_127 h_X9_isSort h_X9_refuses h_X9_multiply hJ) (s_X9_turned_56 h_X9_isSort h_X9_refuses h_X9_multiply hJ)
noncomputable def b_X9_turned_40 (F_X9_isSort F_X9_refuses F_X9_multiply : KF) (J : List KC) : KC := o_aload 0 <| o_iload 1 <| o_iload 2 <| o_cV0 3 9 F_X9_multiply <| o_push 0 <| o_istore 3 <| o_push 0 <| o_istore 4 <| b_X9_turned_51 F_X9_isSort F_X9_refuses F_X9_multiply J
set_option maxRecDepth 100000 in
theorem s_X9_turned_40 {l : Launch} {D : va_G} {cI cS cM : ClassId} {F_X9_isSort F_X9_refuses F_X9_multiply : KF} (h_X9_isSort : k_snd l D cI cS cM yX9_isSort cX9_isSort 2 (some .boolean) 8 2 F_X9_isSort) (h_X9_refuses : k_snd l D cI cS cM yX9_refuses cX9_refuses 2 (some .int) 1 2 F_X9_refuses) (h_X9_multiply : k_snd l D cI cS cM yX9_multiply cX9_multiply 4 none 1 3 F_X9_multiply) {J : List KC} (hJ : ∀ (i pc d : Nat), ([(51, 0), (62, 0)] : List (Nat × Nat))[i]? = some (pc, d) → KS l D cI cS cM yX9_turned.cls yX9_turned.name cX9_turned 6 (some .int) (k_rm 9 0 0) false pc d (k_jmp J i)) : KS l D cI cS cM yX9_turned.cls yX9_turned.name cX9_turned 6 (some .int) (k_rm 9 0 0) false 40 0 (b_X9_turned_40 F_X9_isSort F_X9_refuses F_X9_multiply J) :=
  s_aload_n dX9_turned_40 rfl <|
  s_iload_n dX9_turned_41 rfl <|
  s_iload_n dX9_turned_42 rfl <|
  s_callV0 dX9_turned_43 kw_33_19 kw_33_20 kw_33_21 (ci := 9) rfl ok_X9_multiply (by decide) (by decide) h_X9_multiply (by decide) <|
  s_push1 dX9_turned_46 (by decide) (by decide) <|
  s_istore_n dX9_turned_47 rfl (by decide) <|
  s_push1 dX9_turned_48 (by decide) (by decide) <|
  s_istore dX9_turned_49 (by decide) <|
  s_X9_turned_51 h_X9_isSort h_X9_refuses h_X9_multiply hJ
noncomputable def b_X9_turned_33 (F_X9_isSort F_X9_refuses F_X9_multiply : KF) (J : List KC) : KC := o_aload 0 <| o_push 4294967293 <| o_cV1 2 9 F_X9_refuses <| o_iret
set_option maxRecDepth 100000 in
theorem s_X9_turned_33 {l : Launch} {D : va_G} {cI cS cM : ClassId} {F_X9_isSort F_X9_refuses F_X9_multiply : KF} (h_X9_isSort : k_snd l D cI cS cM yX9_isSort cX9_isSort 2 (some .boolean) 8 2 F_X9_isSort) (h_X9_refuses : k_snd l D cI cS cM yX9_refuses cX9_refuses 2 (some .int) 1 2 F_X9_refuses) (h_X9_multiply : k_snd l D cI cS cM yX9_multiply cX9_multiply 4 none 1 3 F_X9_multiply) {J : List KC} (hJ : ∀ (i pc d : Nat), ([(51, 0), (62, 0)] : List (Nat × Nat))[i]? = some (pc, d) → KS l D cI cS cM yX9_turned.cls yX9_turned.name cX9_turned 6 (some .int) (k_rm 9 0 0) false pc d (k_jmp J i)) : KS l D cI cS cM yX9_turned.cls yX9_turned.name cX9_turned 6 (some .int) (k_rm 9 0 0) false 33 0 (b_X9_turned_33 F_X9_isSort F_X9_refuses F_X9_multiply J) :=
  s_aload_n dX9_turned_33 rfl <|
  s_push2 dX9_turned_34 (by decide) (by decide) <|
  s_callV1 dX9_turned_36 kw_10_1 kw_10_2 kw_10_3 (ci := 9) rfl ok_X9_refuses (by decide) (by decide) h_X9_refuses (by decide) <|
  s_ireturn dX9_turned_39 rfl
noncomputable def b_X9_turned_23 (F_X9_isSort F_X9_refuses F_X9_multiply : KF) (J : List KC) : KC := o_aload 0 <| o_get 9 28 <| o_iload 2 <| o_iald <| o_push 1 <| o_c2 Nat.beq (b_X9_turned_40 F_X9_isSort F_X9_refuses F_X9_multiply J) (b_X9_turned_33 F_X9_isSort F_X9_refuses F_X9_multiply J)
set_option maxRecDepth 100000 in
theorem s_X9_turned_23 {l : Launch} {D : va_G} {cI cS cM : ClassId} {F_X9_isSort F_X9_refuses F_X9_multiply : KF} (h_X9_isSort : k_snd l D cI cS cM yX9_isSort cX9_isSort 2 (some .boolean) 8 2 F_X9_isSort) (h_X9_refuses : k_snd l D cI cS cM yX9_refuses cX9_refuses 2 (some .int) 1 2 F_X9_refuses) (h_X9_multiply : k_snd l D cI cS cM yX9_multiply cX9_multiply 4 none 1 3 F_X9_multiply) {J : List KC} (hJ : ∀ (i pc d : Nat), ([(51, 0), (62, 0)] : List (Nat × Nat))[i]? = some (pc, d) → KS l D cI cS cM yX9_turned.cls yX9_turned.name cX9_turned 6 (some .int) (k_rm 9 0 0) false pc d (k_jmp J i)) : KS l D cI cS cM yX9_turned.cls yX9_turned.name cX9_turned 6 (some .int) (k_rm 9 0 0) false 23 0 (b_X9_turned_23 F_X9_isSort F_X9_refuses F_X9_multiply J) :=
  s_aload_n dX9_turned_23 rfl <|
  s_get dX9_turned_24 (ci := 9) (sl := 28) (Cn := RX9) (Tf := TX9) (N := 40) rfl (by decide) kiX9 kw_7_11 <|
  s_iload_n dX9_turned_27 rfl <|
  s_iald dX9_turned_28 <|
  s_push1 dX9_turned_29 (by decide) (by decide) <|
  s_icmp_eq dX9_turned_30 (by decide) (s_X9_turned_40 h_X9_isSort h_X9_refuses h_X9_multiply hJ) (s_X9_turned_33 h_X9_isSort h_X9_refuses h_X9_multiply hJ)
noncomputable def b_X9_turned_16 (F_X9_isSort F_X9_refuses F_X9_multiply : KF) (J : List KC) : KC := o_aload 0 <| o_push 4294967294 <| o_cV1 2 9 F_X9_refuses <| o_iret
set_option maxRecDepth 100000 in
theorem s_X9_turned_16 {l : Launch} {D : va_G} {cI cS cM : ClassId} {F_X9_isSort F_X9_refuses F_X9_multiply : KF} (h_X9_isSort : k_snd l D cI cS cM yX9_isSort cX9_isSort 2 (some .boolean) 8 2 F_X9_isSort) (h_X9_refuses : k_snd l D cI cS cM yX9_refuses cX9_refuses 2 (some .int) 1 2 F_X9_refuses) (h_X9_multiply : k_snd l D cI cS cM yX9_multiply cX9_multiply 4 none 1 3 F_X9_multiply) {J : List KC} (hJ : ∀ (i pc d : Nat), ([(51, 0), (62, 0)] : List (Nat × Nat))[i]? = some (pc, d) → KS l D cI cS cM yX9_turned.cls yX9_turned.name cX9_turned 6 (some .int) (k_rm 9 0 0) false pc d (k_jmp J i)) : KS l D cI cS cM yX9_turned.cls yX9_turned.name cX9_turned 6 (some .int) (k_rm 9 0 0) false 16 0 (b_X9_turned_16 F_X9_isSort F_X9_refuses F_X9_multiply J) :=
  s_aload_n dX9_turned_16 rfl <|
  s_push2 dX9_turned_17 (by decide) (by decide) <|
  s_callV1 dX9_turned_19 kw_10_1 kw_10_2 kw_10_3 (ci := 9) rfl ok_X9_refuses (by decide) (by decide) h_X9_refuses (by decide) <|
  s_ireturn dX9_turned_22 rfl
noncomputable def b_X9_turned_8 (F_X9_isSort F_X9_refuses F_X9_multiply : KF) (J : List KC) : KC := o_aload 0 <| o_iload 2 <| o_cV1 2 9 F_X9_isSort <| o_c1 g_eq (b_X9_turned_16 F_X9_isSort F_X9_refuses F_X9_multiply J) (b_X9_turned_23 F_X9_isSort F_X9_refuses F_X9_multiply J)
set_option maxRecDepth 100000 in
theorem s_X9_turned_8 {l : Launch} {D : va_G} {cI cS cM : ClassId} {F_X9_isSort F_X9_refuses F_X9_multiply : KF} (h_X9_isSort : k_snd l D cI cS cM yX9_isSort cX9_isSort 2 (some .boolean) 8 2 F_X9_isSort) (h_X9_refuses : k_snd l D cI cS cM yX9_refuses cX9_refuses 2 (some .int) 1 2 F_X9_refuses) (h_X9_multiply : k_snd l D cI cS cM yX9_multiply cX9_multiply 4 none 1 3 F_X9_multiply) {J : List KC} (hJ : ∀ (i pc d : Nat), ([(51, 0), (62, 0)] : List (Nat × Nat))[i]? = some (pc, d) → KS l D cI cS cM yX9_turned.cls yX9_turned.name cX9_turned 6 (some .int) (k_rm 9 0 0) false pc d (k_jmp J i)) : KS l D cI cS cM yX9_turned.cls yX9_turned.name cX9_turned 6 (some .int) (k_rm 9 0 0) false 8 0 (b_X9_turned_8 F_X9_isSort F_X9_refuses F_X9_multiply J) :=
  s_aload_n dX9_turned_8 rfl <|
  s_iload_n dX9_turned_9 rfl <|
  s_callV1 dX9_turned_10 kw_28_23 kw_29_0 kw_29_1 (ci := 9) rfl ok_X9_isSort (by decide) (by decide) h_X9_isSort (by decide) <|
  s_if_ne dX9_turned_13 (by decide) (s_X9_turned_23 h_X9_isSort h_X9_refuses h_X9_multiply hJ) (s_X9_turned_16 h_X9_isSort h_X9_refuses h_X9_multiply hJ)
noncomputable def b_X9_turned_0 (F_X9_isSort F_X9_refuses F_X9_multiply : KF) (J : List KC) : KC := o_aload 0 <| o_iload 1 <| o_cV1 2 9 F_X9_isSort <| o_c1 g_eq (b_X9_turned_16 F_X9_isSort F_X9_refuses F_X9_multiply J) (b_X9_turned_8 F_X9_isSort F_X9_refuses F_X9_multiply J)
set_option maxRecDepth 100000 in
theorem s_X9_turned_0 {l : Launch} {D : va_G} {cI cS cM : ClassId} {F_X9_isSort F_X9_refuses F_X9_multiply : KF} (h_X9_isSort : k_snd l D cI cS cM yX9_isSort cX9_isSort 2 (some .boolean) 8 2 F_X9_isSort) (h_X9_refuses : k_snd l D cI cS cM yX9_refuses cX9_refuses 2 (some .int) 1 2 F_X9_refuses) (h_X9_multiply : k_snd l D cI cS cM yX9_multiply cX9_multiply 4 none 1 3 F_X9_multiply) {J : List KC} (hJ : ∀ (i pc d : Nat), ([(51, 0), (62, 0)] : List (Nat × Nat))[i]? = some (pc, d) → KS l D cI cS cM yX9_turned.cls yX9_turned.name cX9_turned 6 (some .int) (k_rm 9 0 0) false pc d (k_jmp J i)) : KS l D cI cS cM yX9_turned.cls yX9_turned.name cX9_turned 6 (some .int) (k_rm 9 0 0) false 0 0 (b_X9_turned_0 F_X9_isSort F_X9_refuses F_X9_multiply J) :=
  s_aload_n dX9_turned_0 rfl <|
  s_iload_n dX9_turned_1 rfl <|
  s_callV1 dX9_turned_2 kw_28_23 kw_29_0 kw_29_1 (ci := 9) rfl ok_X9_isSort (by decide) (by decide) h_X9_isSort (by decide) <|
  s_if_eq dX9_turned_5 (by decide) (s_X9_turned_16 h_X9_isSort h_X9_refuses h_X9_multiply hJ) (s_X9_turned_8 h_X9_isSort h_X9_refuses h_X9_multiply hJ)
noncomputable def j_X9_turned (F_X9_isSort F_X9_refuses F_X9_multiply : KF) (J : List KC) : List KC := [b_X9_turned_51 F_X9_isSort F_X9_refuses F_X9_multiply J, b_X9_turned_62 F_X9_isSort F_X9_refuses F_X9_multiply J]
noncomputable def m_X9_turned (F_X9_isSort F_X9_refuses F_X9_multiply : KF) (n : Nat) : KF := k_fun [k_u, k_u, k_u] (b_X9_turned_0 F_X9_isSort F_X9_refuses F_X9_multiply (k_loop (j_X9_turned F_X9_isSort F_X9_refuses F_X9_multiply) n))
theorem r_X9_turned {l : Launch} {D : va_G} {cI cS cM : ClassId} {F_X9_isSort F_X9_refuses F_X9_multiply : KF} (h_X9_isSort : k_snd l D cI cS cM yX9_isSort cX9_isSort 2 (some .boolean) 8 2 F_X9_isSort) (h_X9_refuses : k_snd l D cI cS cM yX9_refuses cX9_refuses 2 (some .int) 1 2 F_X9_refuses) (h_X9_multiply : k_snd l D cI cS cM yX9_multiply cX9_multiply 4 none 1 3 F_X9_multiply) (n : Nat) : k_snd l D cI cS cM yX9_turned cX9_turned 6 (some .int) 9 3 (m_X9_turned F_X9_isSort F_X9_refuses F_X9_multiply n) :=
  k_method (by decide +kernel) (by simp) rfl (s_X9_turned_0 h_X9_isSort h_X9_refuses h_X9_multiply (k_loops (hs := [(51, 0), (62, 0)]) (fun J hJ i pc d h => match i, h with | 0, h => by cases h; exact s_X9_turned_51 h_X9_isSort h_X9_refuses h_X9_multiply hJ | 1, h => by cases h; exact s_X9_turned_62 h_X9_isSort h_X9_refuses h_X9_multiply hJ | _ + 2, h => by simp at h) n))
noncomputable def b_X9_value_36 (F_X9_isSort F_X9_refuses : KF) : KC := o_iret
set_option maxRecDepth 100000 in
theorem s_X9_value_36 {l : Launch} {D : va_G} {cI cS cM : ClassId} {F_X9_isSort F_X9_refuses : KF} (h_X9_isSort : k_snd l D cI cS cM yX9_isSort cX9_isSort 2 (some .boolean) 8 2 F_X9_isSort) (h_X9_refuses : k_snd l D cI cS cM yX9_refuses cX9_refuses 2 (some .int) 1 2 F_X9_refuses) : KS l D cI cS cM yX9_value.cls yX9_value.name cX9_value 3 (some .int) (k_rm 9 0 0) false 36 1 (b_X9_value_36 F_X9_isSort F_X9_refuses) :=
  s_ireturn dX9_value_36 rfl
noncomputable def b_X9_value_30 (F_X9_isSort F_X9_refuses : KF) : KC := o_aload 0 <| o_push 4294967294 <| o_cV1 2 9 F_X9_refuses <| b_X9_value_36 F_X9_isSort F_X9_refuses
set_option maxRecDepth 100000 in
theorem s_X9_value_30 {l : Launch} {D : va_G} {cI cS cM : ClassId} {F_X9_isSort F_X9_refuses : KF} (h_X9_isSort : k_snd l D cI cS cM yX9_isSort cX9_isSort 2 (some .boolean) 8 2 F_X9_isSort) (h_X9_refuses : k_snd l D cI cS cM yX9_refuses cX9_refuses 2 (some .int) 1 2 F_X9_refuses) : KS l D cI cS cM yX9_value.cls yX9_value.name cX9_value 3 (some .int) (k_rm 9 0 0) false 30 0 (b_X9_value_30 F_X9_isSort F_X9_refuses) :=
  s_aload_n dX9_value_30 rfl <|
  s_push2 dX9_value_31 (by decide) (by decide) <|
  s_callV1 dX9_value_33 kw_10_1 kw_10_2 kw_10_3 (ci := 9) rfl ok_X9_refuses (by decide) (by decide) h_X9_refuses (by decide) <|
  s_X9_value_36 h_X9_isSort h_X9_refuses
noncomputable def b_X9_value_16 (F_X9_isSort F_X9_refuses : KF) : KC := o_aload 0 <| o_get 9 29 <| o_push 8 <| o_iload 1 <| o_bin n_mul <| o_iload 2 <| o_bin n_add <| o_iald <| b_X9_value_36 F_X9_isSort F_X9_refuses
set_option maxRecDepth 100000 in
theorem s_X9_value_16 {l : Launch} {D : va_G} {cI cS cM : ClassId} {F_X9_isSort F_X9_refuses : KF} (h_X9_isSort : k_snd l D cI cS cM yX9_isSort cX9_isSort 2 (some .boolean) 8 2 F_X9_isSort) (h_X9_refuses : k_snd l D cI cS cM yX9_refuses cX9_refuses 2 (some .int) 1 2 F_X9_refuses) : KS l D cI cS cM yX9_value.cls yX9_value.name cX9_value 3 (some .int) (k_rm 9 0 0) false 16 0 (b_X9_value_16 F_X9_isSort F_X9_refuses) :=
  s_aload_n dX9_value_16 rfl <|
  s_get dX9_value_17 (ci := 9) (sl := 29) (Cn := RX9) (Tf := TX9) (N := 40) rfl (by decide) kiX9 kw_7_12 <|
  s_push2 dX9_value_20 (by decide) (by decide) <|
  s_iload_n dX9_value_22 rfl <|
  s_imul dX9_value_23 <|
  s_iload_n dX9_value_24 rfl <|
  s_iadd dX9_value_25 <|
  s_iald dX9_value_26 <|
  s_goto dX9_value_27 (by decide) (s_X9_value_36 h_X9_isSort h_X9_refuses)
noncomputable def b_X9_value_8 (F_X9_isSort F_X9_refuses : KF) : KC := o_aload 0 <| o_iload 2 <| o_cV1 2 9 F_X9_isSort <| o_c1 g_eq (b_X9_value_30 F_X9_isSort F_X9_refuses) (b_X9_value_16 F_X9_isSort F_X9_refuses)
set_option maxRecDepth 100000 in
theorem s_X9_value_8 {l : Launch} {D : va_G} {cI cS cM : ClassId} {F_X9_isSort F_X9_refuses : KF} (h_X9_isSort : k_snd l D cI cS cM yX9_isSort cX9_isSort 2 (some .boolean) 8 2 F_X9_isSort) (h_X9_refuses : k_snd l D cI cS cM yX9_refuses cX9_refuses 2 (some .int) 1 2 F_X9_refuses) : KS l D cI cS cM yX9_value.cls yX9_value.name cX9_value 3 (some .int) (k_rm 9 0 0) false 8 0 (b_X9_value_8 F_X9_isSort F_X9_refuses) :=
  s_aload_n dX9_value_8 rfl <|
  s_iload_n dX9_value_9 rfl <|
  s_callV1 dX9_value_10 kw_28_23 kw_29_0 kw_29_1 (ci := 9) rfl ok_X9_isSort (by decide) (by decide) h_X9_isSort (by decide) <|
  s_if_eq dX9_value_13 (by decide) (s_X9_value_30 h_X9_isSort h_X9_refuses) (s_X9_value_16 h_X9_isSort h_X9_refuses)
noncomputable def b_X9_value_0 (F_X9_isSort F_X9_refuses : KF) : KC := o_aload 0 <| o_iload 1 <| o_cV1 2 9 F_X9_isSort <| o_c1 g_eq (b_X9_value_30 F_X9_isSort F_X9_refuses) (b_X9_value_8 F_X9_isSort F_X9_refuses)
set_option maxRecDepth 100000 in
theorem s_X9_value_0 {l : Launch} {D : va_G} {cI cS cM : ClassId} {F_X9_isSort F_X9_refuses : KF} (h_X9_isSort : k_snd l D cI cS cM yX9_isSort cX9_isSort 2 (some .boolean) 8 2 F_X9_isSort) (h_X9_refuses : k_snd l D cI cS cM yX9_refuses cX9_refuses 2 (some .int) 1 2 F_X9_refuses) : KS l D cI cS cM yX9_value.cls yX9_value.name cX9_value 3 (some .int) (k_rm 9 0 0) false 0 0 (b_X9_value_0 F_X9_isSort F_X9_refuses) :=
  s_aload_n dX9_value_0 rfl <|
  s_iload_n dX9_value_1 rfl <|
  s_callV1 dX9_value_2 kw_28_23 kw_29_0 kw_29_1 (ci := 9) rfl ok_X9_isSort (by decide) (by decide) h_X9_isSort (by decide) <|
  s_if_eq dX9_value_5 (by decide) (s_X9_value_30 h_X9_isSort h_X9_refuses) (s_X9_value_8 h_X9_isSort h_X9_refuses)
noncomputable def m_X9_value (F_X9_isSort F_X9_refuses : KF) : KF := k_fun [] (b_X9_value_0 F_X9_isSort F_X9_refuses)
theorem r_X9_value {l : Launch} {D : va_G} {cI cS cM : ClassId} {F_X9_isSort F_X9_refuses : KF} (h_X9_isSort : k_snd l D cI cS cM yX9_isSort cX9_isSort 2 (some .boolean) 8 2 F_X9_isSort) (h_X9_refuses : k_snd l D cI cS cM yX9_refuses cX9_refuses 2 (some .int) 1 2 F_X9_refuses) : k_snd l D cI cS cM yX9_value cX9_value 3 (some .int) 9 3 (m_X9_value F_X9_isSort F_X9_refuses) :=
  k_method (by decide +kernel) (by simp) rfl (s_X9_value_0 h_X9_isSort h_X9_refuses)
noncomputable def b_X9_within_31 (F_X9_isSort F_X9_refuses F_X9_multiply F_X9_meet : KF) : KC := o_aload 0 <| o_iload 1 <| o_iload 2 <| o_cV0 3 9 F_X9_multiply <| o_aload 0 <| o_iload 3 <| o_cV1 2 9 F_X9_meet <| o_iret
set_option maxRecDepth 100000 in
theorem s_X9_within_31 {l : Launch} {D : va_G} {cI cS cM : ClassId} {F_X9_isSort F_X9_refuses F_X9_multiply F_X9_meet : KF} (h_X9_isSort : k_snd l D cI cS cM yX9_isSort cX9_isSort 2 (some .boolean) 8 2 F_X9_isSort) (h_X9_refuses : k_snd l D cI cS cM yX9_refuses cX9_refuses 2 (some .int) 1 2 F_X9_refuses) (h_X9_multiply : k_snd l D cI cS cM yX9_multiply cX9_multiply 4 none 1 3 F_X9_multiply) (h_X9_meet : k_snd l D cI cS cM yX9_meet cX9_meet 4 (some .int) 3 2 F_X9_meet) : KS l D cI cS cM yX9_within.cls yX9_within.name cX9_within 4 (some .int) (k_rm 9 0 0) false 31 0 (b_X9_within_31 F_X9_isSort F_X9_refuses F_X9_multiply F_X9_meet) :=
  s_aload_n dX9_within_31 rfl <|
  s_iload_n dX9_within_32 rfl <|
  s_iload_n dX9_within_33 rfl <|
  s_callV0 dX9_within_34 kw_33_19 kw_33_20 kw_33_21 (ci := 9) rfl ok_X9_multiply (by decide) (by decide) h_X9_multiply (by decide) <|
  s_aload_n dX9_within_37 rfl <|
  s_iload_n dX9_within_38 rfl <|
  s_callV1 dX9_within_39 kw_33_23 kw_34_0 kw_34_1 (ci := 9) rfl ok_X9_meet (by decide) (by decide) h_X9_meet (by decide) <|
  s_ireturn dX9_within_42 rfl
noncomputable def b_X9_within_24 (F_X9_isSort F_X9_refuses F_X9_multiply F_X9_meet : KF) : KC := o_aload 0 <| o_push 4294967294 <| o_cV1 2 9 F_X9_refuses <| o_iret
set_option maxRecDepth 100000 in
theorem s_X9_within_24 {l : Launch} {D : va_G} {cI cS cM : ClassId} {F_X9_isSort F_X9_refuses F_X9_multiply F_X9_meet : KF} (h_X9_isSort : k_snd l D cI cS cM yX9_isSort cX9_isSort 2 (some .boolean) 8 2 F_X9_isSort) (h_X9_refuses : k_snd l D cI cS cM yX9_refuses cX9_refuses 2 (some .int) 1 2 F_X9_refuses) (h_X9_multiply : k_snd l D cI cS cM yX9_multiply cX9_multiply 4 none 1 3 F_X9_multiply) (h_X9_meet : k_snd l D cI cS cM yX9_meet cX9_meet 4 (some .int) 3 2 F_X9_meet) : KS l D cI cS cM yX9_within.cls yX9_within.name cX9_within 4 (some .int) (k_rm 9 0 0) false 24 0 (b_X9_within_24 F_X9_isSort F_X9_refuses F_X9_multiply F_X9_meet) :=
  s_aload_n dX9_within_24 rfl <|
  s_push2 dX9_within_25 (by decide) (by decide) <|
  s_callV1 dX9_within_27 kw_10_1 kw_10_2 kw_10_3 (ci := 9) rfl ok_X9_refuses (by decide) (by decide) h_X9_refuses (by decide) <|
  s_ireturn dX9_within_30 rfl
noncomputable def b_X9_within_16 (F_X9_isSort F_X9_refuses F_X9_multiply F_X9_meet : KF) : KC := o_aload 0 <| o_iload 3 <| o_cV1 2 9 F_X9_isSort <| o_c1 g_eq (b_X9_within_24 F_X9_isSort F_X9_refuses F_X9_multiply F_X9_meet) (b_X9_within_31 F_X9_isSort F_X9_refuses F_X9_multiply F_X9_meet)
set_option maxRecDepth 100000 in
theorem s_X9_within_16 {l : Launch} {D : va_G} {cI cS cM : ClassId} {F_X9_isSort F_X9_refuses F_X9_multiply F_X9_meet : KF} (h_X9_isSort : k_snd l D cI cS cM yX9_isSort cX9_isSort 2 (some .boolean) 8 2 F_X9_isSort) (h_X9_refuses : k_snd l D cI cS cM yX9_refuses cX9_refuses 2 (some .int) 1 2 F_X9_refuses) (h_X9_multiply : k_snd l D cI cS cM yX9_multiply cX9_multiply 4 none 1 3 F_X9_multiply) (h_X9_meet : k_snd l D cI cS cM yX9_meet cX9_meet 4 (some .int) 3 2 F_X9_meet) : KS l D cI cS cM yX9_within.cls yX9_within.name cX9_within 4 (some .int) (k_rm 9 0 0) false 16 0 (b_X9_within_16 F_X9_isSort F_X9_refuses F_X9_multiply F_X9_meet) :=
  s_aload_n dX9_within_16 rfl <|
  s_iload_n dX9_within_17 rfl <|
  s_callV1 dX9_within_18 kw_28_23 kw_29_0 kw_29_1 (ci := 9) rfl ok_X9_isSort (by decide) (by decide) h_X9_isSort (by decide) <|
  s_if_ne dX9_within_21 (by decide) (s_X9_within_31 h_X9_isSort h_X9_refuses h_X9_multiply h_X9_meet) (s_X9_within_24 h_X9_isSort h_X9_refuses h_X9_multiply h_X9_meet)
noncomputable def b_X9_within_8 (F_X9_isSort F_X9_refuses F_X9_multiply F_X9_meet : KF) : KC := o_aload 0 <| o_iload 2 <| o_cV1 2 9 F_X9_isSort <| o_c1 g_eq (b_X9_within_24 F_X9_isSort F_X9_refuses F_X9_multiply F_X9_meet) (b_X9_within_16 F_X9_isSort F_X9_refuses F_X9_multiply F_X9_meet)
set_option maxRecDepth 100000 in
theorem s_X9_within_8 {l : Launch} {D : va_G} {cI cS cM : ClassId} {F_X9_isSort F_X9_refuses F_X9_multiply F_X9_meet : KF} (h_X9_isSort : k_snd l D cI cS cM yX9_isSort cX9_isSort 2 (some .boolean) 8 2 F_X9_isSort) (h_X9_refuses : k_snd l D cI cS cM yX9_refuses cX9_refuses 2 (some .int) 1 2 F_X9_refuses) (h_X9_multiply : k_snd l D cI cS cM yX9_multiply cX9_multiply 4 none 1 3 F_X9_multiply) (h_X9_meet : k_snd l D cI cS cM yX9_meet cX9_meet 4 (some .int) 3 2 F_X9_meet) : KS l D cI cS cM yX9_within.cls yX9_within.name cX9_within 4 (some .int) (k_rm 9 0 0) false 8 0 (b_X9_within_8 F_X9_isSort F_X9_refuses F_X9_multiply F_X9_meet) :=
  s_aload_n dX9_within_8 rfl <|
  s_iload_n dX9_within_9 rfl <|
  s_callV1 dX9_within_10 kw_28_23 kw_29_0 kw_29_1 (ci := 9) rfl ok_X9_isSort (by decide) (by decide) h_X9_isSort (by decide) <|
  s_if_eq dX9_within_13 (by decide) (s_X9_within_24 h_X9_isSort h_X9_refuses h_X9_multiply h_X9_meet) (s_X9_within_16 h_X9_isSort h_X9_refuses h_X9_multiply h_X9_meet)
noncomputable def b_X9_within_0 (F_X9_isSort F_X9_refuses F_X9_multiply F_X9_meet : KF) : KC := o_aload 0 <| o_iload 1 <| o_cV1 2 9 F_X9_isSort <| o_c1 g_eq (b_X9_within_24 F_X9_isSort F_X9_refuses F_X9_multiply F_X9_meet) (b_X9_within_8 F_X9_isSort F_X9_refuses F_X9_multiply F_X9_meet)
set_option maxRecDepth 100000 in
theorem s_X9_within_0 {l : Launch} {D : va_G} {cI cS cM : ClassId} {F_X9_isSort F_X9_refuses F_X9_multiply F_X9_meet : KF} (h_X9_isSort : k_snd l D cI cS cM yX9_isSort cX9_isSort 2 (some .boolean) 8 2 F_X9_isSort) (h_X9_refuses : k_snd l D cI cS cM yX9_refuses cX9_refuses 2 (some .int) 1 2 F_X9_refuses) (h_X9_multiply : k_snd l D cI cS cM yX9_multiply cX9_multiply 4 none 1 3 F_X9_multiply) (h_X9_meet : k_snd l D cI cS cM yX9_meet cX9_meet 4 (some .int) 3 2 F_X9_meet) : KS l D cI cS cM yX9_within.cls yX9_within.name cX9_within 4 (some .int) (k_rm 9 0 0) false 0 0 (b_X9_within_0 F_X9_isSort F_X9_refuses F_X9_multiply F_X9_meet) :=
  s_aload_n dX9_within_0 rfl <|
  s_iload_n dX9_within_1 rfl <|
  s_callV1 dX9_within_2 kw_28_23 kw_29_0 kw_29_1 (ci := 9) rfl ok_X9_isSort (by decide) (by decide) h_X9_isSort (by decide) <|
  s_if_eq dX9_within_5 (by decide) (s_X9_within_24 h_X9_isSort h_X9_refuses h_X9_multiply h_X9_meet) (s_X9_within_8 h_X9_isSort h_X9_refuses h_X9_multiply h_X9_meet)
noncomputable def m_X9_within (F_X9_isSort F_X9_refuses F_X9_multiply F_X9_meet : KF) : KF := k_fun [] (b_X9_within_0 F_X9_isSort F_X9_refuses F_X9_multiply F_X9_meet)
theorem r_X9_within {l : Launch} {D : va_G} {cI cS cM : ClassId} {F_X9_isSort F_X9_refuses F_X9_multiply F_X9_meet : KF} (h_X9_isSort : k_snd l D cI cS cM yX9_isSort cX9_isSort 2 (some .boolean) 8 2 F_X9_isSort) (h_X9_refuses : k_snd l D cI cS cM yX9_refuses cX9_refuses 2 (some .int) 1 2 F_X9_refuses) (h_X9_multiply : k_snd l D cI cS cM yX9_multiply cX9_multiply 4 none 1 3 F_X9_multiply) (h_X9_meet : k_snd l D cI cS cM yX9_meet cX9_meet 4 (some .int) 3 2 F_X9_meet) : k_snd l D cI cS cM yX9_within cX9_within 4 (some .int) 9 4 (m_X9_within F_X9_isSort F_X9_refuses F_X9_multiply F_X9_meet) :=
  k_method (by decide +kernel) (by simp) rfl (s_X9_within_0 h_X9_isSort h_X9_refuses h_X9_multiply h_X9_meet)
