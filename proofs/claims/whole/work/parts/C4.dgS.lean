theorem sn_CXr_X8_learnRows : SND_CXr_X8_learnRows f_X8_learnRows := by
  unfold SND_CXr_X8_learnRows
  intros
  rename_i h
  have e := Nat.eq_of_beq_eq_true (pq_some h).1
  have e2 := Nat.eq_of_beq_eq_true (pq_some (pq_some h).2).1
  subst e
  subst e2
  rfl
theorem sn_CMt_X9_lay : SND_CMt_X9_lay f_X9_lay := by
  unfold SND_CMt_X9_lay
  intros
  rename_i h
  have e := Nat.eq_of_beq_eq_true (pq_some h).1
  subst e
  rfl
theorem sn_CXr_X8_isBelow : SND_CXr_X8_isBelow f_X8_isBelow := T_CXr_X8_isBelow
theorem sn_CXr_X8_refused : SND_CXr_X8_refused f_X8_refused := T_CXr_X8_refused sn_CXr_X8_isBelow
theorem sn_CXr_X8_told : SND_CXr_X8_told f_X8_told := T_CXr_X8_told sn_CXr_X8_refused
theorem sn_CXr_X3_countOfDegreeOne_21 : SND_CXr_X3_countOfDegreeOne_21 f_X3_countOfDegreeOne := T_CXr_X3_countOfDegreeOne_21
theorem sn_CXr_X6_countAlone_22 : SND_CXr_X6_countAlone_22 f_X6_countAlone := T_CXr_X6_countAlone_22
theorem sn_CXr_X8_wholeAnswer : SND_CXr_X8_wholeAnswer f_X8_wholeAnswer := T_CXr_X8_wholeAnswer sn_CXr_X3_countOfDegreeOne_21 sn_CXr_X6_countAlone_22
theorem sn_CXr_X6_powerSort_22 : SND_CXr_X6_powerSort_22 f_X6_powerSort := T_CXr_X6_powerSort_22
theorem sn_CXr_X8_sortAnswer : SND_CXr_X8_sortAnswer f_X8_sortAnswer := T_CXr_X8_sortAnswer sn_CXr_X6_powerSort_22
theorem sn_CXr_X2_left_39 : SND_CXr_X2_left_39 f_X2_left := T_CXr_X2_left_39
theorem sn_CXr_X2_divided_39 : SND_CXr_X2_divided_39 f_X2_divided := T_CXr_X2_divided_39 sn_CXr_X2_left_39
theorem sn_CXr_X3_mirrorSign_21 : SND_CXr_X3_mirrorSign_21 f_X3_mirrorSign := T_CXr_X3_mirrorSign_21 sn_CXr_X6_powerSort_22 sn_CXr_X2_divided_39
theorem sn_CXr_X8_digest : SND_CXr_X8_digest f_X8_digest := T_CXr_X8_digest sn_CXr_X8_learnRows sn_CXr_X8_told sn_CXr_X8_wholeAnswer sn_CXr_X8_sortAnswer sn_CXr_X3_mirrorSign_21
theorem sn_CMt_X9_in : SND_CMt_X9_in f_X9_in := T_CMt_X9_in
theorem sn_CMt_X9_toldOf : SND_CMt_X9_toldOf f_X9_toldOf := T_CMt_X9_toldOf
theorem sn_CMt_X9_refuses : SND_CMt_X9_refuses f_X9_refuses := T_CMt_X9_refuses
theorem sn_CMt_X9_told : SND_CMt_X9_told f_X9_told := T_CMt_X9_told sn_CMt_X9_in sn_CMt_X9_toldOf sn_CMt_X9_refuses
theorem sn_CMt_X9_mix : SND_CMt_X9_mix f_X9_mix := T_CMt_X9_mix
theorem sn_CMt_X9_ofAll : SND_CMt_X9_ofAll f_X9_ofAll := T_CMt_X9_ofAll sn_CMt_X9_lay
theorem sn_CMt_X9_to : SND_CMt_X9_to f_X9_to := T_CMt_X9_to
theorem sn_CMt_X9_left : SND_CMt_X9_left f_X9_left := T_CMt_X9_left sn_CMt_X9_to
theorem sn_CMt_X9_then : SND_CMt_X9_then f_X9_then := T_CMt_X9_then
theorem sn_CMt_X9_starOf : SND_CMt_X9_starOf f_X9_starOf := T_CMt_X9_starOf
theorem sn_CMt_X9_ofSort : SND_CMt_X9_ofSort f_X9_ofSort := T_CMt_X9_ofSort sn_CMt_X9_left sn_CMt_X9_then sn_CMt_X9_starOf
theorem sn_CMt_X9_over : SND_CMt_X9_over f_X9_over := T_CMt_X9_over
theorem sn_CMt_X9_by : SND_CMt_X9_by f_X9_by := T_CMt_X9_by sn_CMt_X9_over
theorem sn_CMt_X9_mirrorOf : SND_CMt_X9_mirrorOf f_X9_mirrorOf := T_CMt_X9_mirrorOf sn_CMt_X9_ofSort sn_CMt_X9_over sn_CMt_X9_by
theorem sn_CMt_X9_digest : SND_CMt_X9_digest f_X9_digest := T_CMt_X9_digest sn_CMt_X9_toldOf sn_CMt_X9_mix sn_CMt_X9_ofAll sn_CMt_X9_ofSort sn_CMt_X9_mirrorOf
