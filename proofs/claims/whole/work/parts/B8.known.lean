theorem sn_CM_X9_lay : SND_CM_X9_lay f_X9_lay := by
  unfold SND_CM_X9_lay
  intros
  rename_i h
  have e := Nat.eq_of_beq_eq_true (pq_some h).1
  subst e
  rfl
theorem sn_CX_X8_learnSorts : SND_CX_X8_learnSorts f_X8_learnSorts := by
  unfold SND_CX_X8_learnSorts
  intros
  rename_i h
  have e := Nat.eq_of_beq_eq_true (pq_some h).1
  subst e
  rfl
theorem sn_CX_X8_learnRows : SND_CX_X8_learnRows f_X8_learnRows := by
  unfold SND_CX_X8_learnRows
  intros
  rename_i h
  have e := Nat.eq_of_beq_eq_true (pq_some h).1
  have e2 := Nat.eq_of_beq_eq_true (pq_some (pq_some h).2).1
  subst e
  subst e2
  rfl
