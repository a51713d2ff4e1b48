/-! ===== nothing stands behind the last element ===== -/
noncomputable def chkZ (r : List Nat) : Option Unit := kseq (kget 0 r 1) fun n => kseq (kget 0 r 2) fun codes => kseq (kget 0 r 20) fun prod => eqs (Nat.shiftRight codes (Nat.mul 17 n)) 0 <| eqs (Nat.shiftRight prod (Nat.mul 960 n)) 0 <| alN n fun x => pq (Nat.blt (pk 960 prod x) (Nat.pow 2 (Nat.mul 8 n))) (some ())
theorem zZ_0 : (chkZ rg_0).isSome = true := by decide +kernel
theorem zZ_1 : (chkZ rg_1).isSome = true := by decide +kernel
theorem zZ_2 : (chkZ rg_2).isSome = true := by decide +kernel
theorem zZ_3 : (chkZ rg_3).isSome = true := by decide +kernel
theorem zZ_4 : (chkZ rg_4).isSome = true := by decide +kernel
theorem zZ_5 : (chkZ rg_5).isSome = true := by decide +kernel
theorem zZ_6 : (chkZ rg_6).isSome = true := by decide +kernel
theorem zZ_7 : (chkZ rg_7).isSome = true := by decide +kernel
theorem zZ_8 : (chkZ rg_8).isSome = true := by decide +kernel
theorem zZ_9 : (chkZ rg_9).isSome = true := by decide +kernel
theorem zZ_10 : (chkZ rg_10).isSome = true := by decide +kernel
theorem zZ_11 : (chkZ rg_11).isSome = true := by decide +kernel
theorem zZ_12 : (chkZ rg_12).isSome = true := by decide +kernel
theorem zZ_13 : (chkZ rg_13).isSome = true := by decide +kernel
theorem zZ_14 : (chkZ rg_14).isSome = true := by decide +kernel
theorem zZ_15 : (chkZ rg_15).isSome = true := by decide +kernel
theorem zZ_16 : (chkZ rg_16).isSome = true := by decide +kernel
theorem zZ_17 : (chkZ rg_17).isSome = true := by decide +kernel
theorem zZ_18 : (chkZ rg_18).isSome = true := by decide +kernel
theorem zZ_19 : (chkZ rg_19).isSome = true := by decide +kernel
theorem zZ_20 : (chkZ rg_20).isSome = true := by decide +kernel
theorem zZ_21 : (chkZ rg_21).isSome = true := by decide +kernel
theorem zZ_22 : (chkZ rg_22).isSome = true := by decide +kernel
theorem zZ_23 : (chkZ rg_23).isSome = true := by decide +kernel
theorem zZ_24 : (chkZ rg_24).isSome = true := by decide +kernel
theorem zZ_25 : (chkZ rg_25).isSome = true := by decide +kernel
theorem zZ_26 : (chkZ rg_26).isSome = true := by decide +kernel
theorem zZ_27 : (chkZ rg_27).isSome = true := by decide +kernel
theorem zZ_28 : (chkZ rg_28).isSome = true := by decide +kernel
theorem zZ_29 : (chkZ rg_29).isSome = true := by decide +kernel
theorem zZ_30 : (chkZ rg_30).isSome = true := by decide +kernel
theorem zZ_31 : (chkZ rg_31).isSome = true := by decide +kernel
theorem zZ_32 : (chkZ rg_32).isSome = true := by decide +kernel
theorem zZ_33 : (chkZ rg_33).isSome = true := by decide +kernel
theorem zZ_34 : (chkZ rg_34).isSome = true := by decide +kernel
theorem zZ_35 : (chkZ rg_35).isSome = true := by decide +kernel
theorem zZ_36 : (chkZ rg_36).isSome = true := by decide +kernel
theorem zZ_37 : (chkZ rg_37).isSome = true := by decide +kernel
theorem zZ_38 : (chkZ rg_38).isSome = true := by decide +kernel
theorem zZ_39 : (chkZ rg_39).isSome = true := by decide +kernel
theorem zZ_40 : (chkZ rg_40).isSome = true := by decide +kernel
theorem zZ_41 : (chkZ rg_41).isSome = true := by decide +kernel
theorem zZ_42 : (chkZ rg_42).isSome = true := by decide +kernel
theorem zZ_43 : (chkZ rg_43).isSome = true := by decide +kernel
theorem zZ_44 : (chkZ rg_44).isSome = true := by decide +kernel
theorem zZ_45 : (chkZ rg_45).isSome = true := by decide +kernel
theorem zZ_46 : (chkZ rg_46).isSome = true := by decide +kernel
theorem zZ_47 : (chkZ rg_47).isSome = true := by decide +kernel
theorem zZ_48 : (chkZ rg_48).isSome = true := by decide +kernel
theorem zZ_49 : (chkZ rg_49).isSome = true := by decide +kernel
theorem zZ_50 : (chkZ rg_50).isSome = true := by decide +kernel
theorem zZ_51 : (chkZ rg_51).isSome = true := by decide +kernel
theorem zZ_52 : (chkZ rg_52).isSome = true := by decide +kernel
theorem zZ_53 : (chkZ rg_53).isSome = true := by decide +kernel
theorem zZ_54 : (chkZ rg_54).isSome = true := by decide +kernel
theorem zZ_55 : (chkZ rg_55).isSome = true := by decide +kernel
theorem zZ_56 : (chkZ rg_56).isSome = true := by decide +kernel
theorem zZ_57 : (chkZ rg_57).isSome = true := by decide +kernel
theorem zZ_58 : (chkZ rg_58).isSome = true := by decide +kernel
theorem zZ_59 : (chkZ rg_59).isSome = true := by decide +kernel
theorem zZ_60 : (chkZ rg_60).isSome = true := by decide +kernel
theorem zZ_61 : (chkZ rg_61).isSome = true := by decide +kernel
theorem zZ_62 : (chkZ rg_62).isSome = true := by decide +kernel
theorem zZ_63 : (chkZ rg_63).isSome = true := by decide +kernel
theorem zZ_64 : (chkZ rg_64).isSome = true := by decide +kernel
theorem zZ_65 : (chkZ rg_65).isSome = true := by decide +kernel
theorem zZ_66 : (chkZ rg_66).isSome = true := by decide +kernel
theorem zZ_67 : (chkZ rg_67).isSome = true := by decide +kernel
theorem zZ_68 : (chkZ rg_68).isSome = true := by decide +kernel
theorem zZ_69 : (chkZ rg_69).isSome = true := by decide +kernel
theorem zZ_70 : (chkZ rg_70).isSome = true := by decide +kernel
theorem zZ_71 : (chkZ rg_71).isSome = true := by decide +kernel
theorem zZ_72 : (chkZ rg_72).isSome = true := by decide +kernel
theorem zZ_73 : (chkZ rg_73).isSome = true := by decide +kernel
theorem zZ_74 : (chkZ rg_74).isSome = true := by decide +kernel
theorem zZ_75 : (chkZ rg_75).isSome = true := by decide +kernel
theorem zZ_76 : (chkZ rg_76).isSome = true := by decide +kernel
theorem zZ_77 : (chkZ rg_77).isSome = true := by decide +kernel
theorem zZ_78 : (chkZ rg_78).isSome = true := by decide +kernel
theorem zZ_79 : (chkZ rg_79).isSome = true := by decide +kernel
theorem zZ_80 : (chkZ rg_80).isSome = true := by decide +kernel
theorem zZ_81 : (chkZ rg_81).isSome = true := by decide +kernel
theorem zZ_82 : (chkZ rg_82).isSome = true := by decide +kernel
theorem zZ_83 : (chkZ rg_83).isSome = true := by decide +kernel
theorem zZ_84 : (chkZ rg_84).isSome = true := by decide +kernel
theorem zZ_85 : (chkZ rg_85).isSome = true := by decide +kernel
theorem zZ_86 : (chkZ rg_86).isSome = true := by decide +kernel
theorem zZ_87 : (chkZ rg_87).isSome = true := by decide +kernel
theorem zZ_88 : (chkZ rg_88).isSome = true := by decide +kernel
theorem zZ_89 : (chkZ rg_89).isSome = true := by decide +kernel
theorem zZ_90 : (chkZ rg_90).isSome = true := by decide +kernel
theorem zZ_91 : (chkZ rg_91).isSome = true := by decide +kernel
theorem zZ_92 : (chkZ rg_92).isSome = true := by decide +kernel
theorem zZ_93 : (chkZ rg_93).isSome = true := by decide +kernel
theorem zZ_94 : (chkZ rg_94).isSome = true := by decide +kernel
theorem zZ_95 : (chkZ rg_95).isSome = true := by decide +kernel
theorem zZ_96 : (chkZ rg_96).isSome = true := by decide +kernel
theorem zZ_97 : (chkZ rg_97).isSome = true := by decide +kernel
theorem zZ_98 : (chkZ rg_98).isSome = true := by decide +kernel
theorem zZ_99 : (chkZ rg_99).isSome = true := by decide +kernel
theorem zZ_100 : (chkZ rg_100).isSome = true := by decide +kernel
theorem zZ_101 : (chkZ rg_101).isSome = true := by decide +kernel
theorem zZ_102 : (chkZ rg_102).isSome = true := by decide +kernel
theorem zZ_103 : (chkZ rg_103).isSome = true := by decide +kernel
theorem zZ_104 : (chkZ rg_104).isSome = true := by decide +kernel
theorem zZ_105 : (chkZ rg_105).isSome = true := by decide +kernel
theorem zZ_106 : (chkZ rg_106).isSome = true := by decide +kernel
theorem zZ_107 : (chkZ rg_107).isSome = true := by decide +kernel
theorem zZ_108 : (chkZ rg_108).isSome = true := by decide +kernel
theorem zZ_109 : (chkZ rg_109).isSome = true := by decide +kernel
theorem zZ_110 : (chkZ rg_110).isSome = true := by decide +kernel
theorem zZ_111 : (chkZ rg_111).isSome = true := by decide +kernel
theorem zZ_112 : (chkZ rg_112).isSome = true := by decide +kernel
theorem zZ_113 : (chkZ rg_113).isSome = true := by decide +kernel
theorem zZ_114 : (chkZ rg_114).isSome = true := by decide +kernel
theorem zZ_115 : (chkZ rg_115).isSome = true := by decide +kernel
theorem zZ_116 : (chkZ rg_116).isSome = true := by decide +kernel
theorem zZ_117 : (chkZ rg_117).isSome = true := by decide +kernel
theorem zZ_118 : (chkZ rg_118).isSome = true := by decide +kernel
theorem zZ_119 : (chkZ rg_119).isSome = true := by decide +kernel
theorem zZ_120 : (chkZ rg_120).isSome = true := by decide +kernel
theorem zZ_121 : (chkZ rg_121).isSome = true := by decide +kernel
theorem zZ_122 : (chkZ rg_122).isSome = true := by decide +kernel
theorem zZ_123 : (chkZ rg_123).isSome = true := by decide +kernel
theorem zZ_124 : (chkZ rg_124).isSome = true := by decide +kernel
theorem zZ_125 : (chkZ rg_125).isSome = true := by decide +kernel
theorem zZ_126 : (chkZ rg_126).isSome = true := by decide +kernel
theorem zZ_127 : (chkZ rg_127).isSome = true := by decide +kernel
theorem zZ_128 : (chkZ rg_128).isSome = true := by decide +kernel
theorem zZ_129 : (chkZ rg_129).isSome = true := by decide +kernel
theorem zZ_130 : (chkZ rg_130).isSome = true := by decide +kernel
theorem zZ_131 : (chkZ rg_131).isSome = true := by decide +kernel
theorem zZ_132 : (chkZ rg_132).isSome = true := by decide +kernel
theorem zZ_133 : (chkZ rg_133).isSome = true := by decide +kernel
theorem zZ_134 : (chkZ rg_134).isSome = true := by decide +kernel
theorem zZ_135 : (chkZ rg_135).isSome = true := by decide +kernel
theorem zZ_136 : (chkZ rg_136).isSome = true := by decide +kernel
theorem zZ_137 : (chkZ rg_137).isSome = true := by decide +kernel
theorem zZ_138 : (chkZ rg_138).isSome = true := by decide +kernel
theorem zZ_139 : (chkZ rg_139).isSome = true := by decide +kernel
theorem zZ_140 : (chkZ rg_140).isSome = true := by decide +kernel
theorem zZ_141 : (chkZ rg_141).isSome = true := by decide +kernel
theorem zZ_142 : (chkZ rg_142).isSome = true := by decide +kernel
theorem zZ_143 : (chkZ rg_143).isSome = true := by decide +kernel
theorem zZ_144 : (chkZ rg_144).isSome = true := by decide +kernel
theorem zZ_145 : (chkZ rg_145).isSome = true := by decide +kernel
theorem zZ_146 : (chkZ rg_146).isSome = true := by decide +kernel
theorem zZ_147 : (chkZ rg_147).isSome = true := by decide +kernel
theorem zZ_148 : (chkZ rg_148).isSome = true := by decide +kernel
theorem zZ_149 : (chkZ rg_149).isSome = true := by decide +kernel
theorem zZ_150 : (chkZ rg_150).isSome = true := by decide +kernel
theorem zZ_151 : (chkZ rg_151).isSome = true := by decide +kernel
theorem zZ_152 : (chkZ rg_152).isSome = true := by decide +kernel
theorem zZ_153 : (chkZ rg_153).isSome = true := by decide +kernel
theorem zZ_154 : (chkZ rg_154).isSome = true := by decide +kernel
theorem zZ_155 : (chkZ rg_155).isSome = true := by decide +kernel
theorem zZ_156 : (chkZ rg_156).isSome = true := by decide +kernel
theorem zZ_157 : (chkZ rg_157).isSome = true := by decide +kernel
theorem zZ_158 : (chkZ rg_158).isSome = true := by decide +kernel
theorem zZ_159 : (chkZ rg_159).isSome = true := by decide +kernel
theorem zZ_160 : (chkZ rg_160).isSome = true := by decide +kernel
theorem zZ_161 : (chkZ rg_161).isSome = true := by decide +kernel
theorem zZ_162 : (chkZ rg_162).isSome = true := by decide +kernel
theorem zZ_163 : (chkZ rg_163).isSome = true := by decide +kernel
theorem zZ_164 : (chkZ rg_164).isSome = true := by decide +kernel
theorem zZ_165 : (chkZ rg_165).isSome = true := by decide +kernel
theorem zZ_166 : (chkZ rg_166).isSome = true := by decide +kernel
theorem zZ_167 : (chkZ rg_167).isSome = true := by decide +kernel
theorem zZ_168 : (chkZ rg_168).isSome = true := by decide +kernel
theorem zZ_169 : (chkZ rg_169).isSome = true := by decide +kernel
theorem zZ_170 : (chkZ rg_170).isSome = true := by decide +kernel
theorem zZ_171 : (chkZ rg_171).isSome = true := by decide +kernel
theorem zZ_172 : (chkZ rg_172).isSome = true := by decide +kernel
theorem zZ_173 : (chkZ rg_173).isSome = true := by decide +kernel
theorem zZ_174 : (chkZ rg_174).isSome = true := by decide +kernel
theorem zZ_175 : (chkZ rg_175).isSome = true := by decide +kernel
theorem zZ_176 : (chkZ rg_176).isSome = true := by decide +kernel
theorem zZ_177 : (chkZ rg_177).isSome = true := by decide +kernel
theorem zZ_178 : (chkZ rg_178).isSome = true := by decide +kernel
theorem zZ_179 : (chkZ rg_179).isSome = true := by decide +kernel
theorem zZ_180 : (chkZ rg_180).isSome = true := by decide +kernel
theorem zZ_181 : (chkZ rg_181).isSome = true := by decide +kernel
theorem zZ_182 : (chkZ rg_182).isSome = true := by decide +kernel
theorem zZ_183 : (chkZ rg_183).isSome = true := by decide +kernel
theorem zZ_184 : (chkZ rg_184).isSome = true := by decide +kernel
theorem zZ_185 : (chkZ rg_185).isSome = true := by decide +kernel
theorem zZ_186 : (chkZ rg_186).isSome = true := by decide +kernel
theorem zZ_187 : (chkZ rg_187).isSome = true := by decide +kernel
theorem zZ_188 : (chkZ rg_188).isSome = true := by decide +kernel
theorem zZ_189 : (chkZ rg_189).isSome = true := by decide +kernel
theorem zZ_190 : (chkZ rg_190).isSome = true := by decide +kernel
theorem zZ_191 : (chkZ rg_191).isSome = true := by decide +kernel
theorem zZ_192 : (chkZ rg_192).isSome = true := by decide +kernel
theorem zZ_193 : (chkZ rg_193).isSome = true := by decide +kernel
theorem zZ_194 : (chkZ rg_194).isSome = true := by decide +kernel
set_option maxRecDepth 100000 in
theorem allZ : ∀ g, g < 195 → (chkZ (RGS.getD g [])).isSome = true := fun g hg => allUp_at (P := fun g => (chkZ (RGS.getD g [])).isSome = true) 195 0 ⟨zZ_0, zZ_1, zZ_2, zZ_3, zZ_4, zZ_5, zZ_6, zZ_7, zZ_8, zZ_9, zZ_10, zZ_11, zZ_12, zZ_13, zZ_14, zZ_15, zZ_16, zZ_17, zZ_18, zZ_19, zZ_20, zZ_21, zZ_22, zZ_23, zZ_24, zZ_25, zZ_26, zZ_27, zZ_28, zZ_29, zZ_30, zZ_31, zZ_32, zZ_33, zZ_34, zZ_35, zZ_36, zZ_37, zZ_38, zZ_39, zZ_40, zZ_41, zZ_42, zZ_43, zZ_44, zZ_45, zZ_46, zZ_47, zZ_48, zZ_49, zZ_50, zZ_51, zZ_52, zZ_53, zZ_54, zZ_55, zZ_56, zZ_57, zZ_58, zZ_59, zZ_60, zZ_61, zZ_62, zZ_63, zZ_64, zZ_65, zZ_66, zZ_67, zZ_68, zZ_69, zZ_70, zZ_71, zZ_72, zZ_73, zZ_74, zZ_75, zZ_76, zZ_77, zZ_78, zZ_79, zZ_80, zZ_81, zZ_82, zZ_83, zZ_84, zZ_85, zZ_86, zZ_87, zZ_88, zZ_89, zZ_90, zZ_91, zZ_92, zZ_93, zZ_94, zZ_95, zZ_96, zZ_97, zZ_98, zZ_99, zZ_100, zZ_101, zZ_102, zZ_103, zZ_104, zZ_105, zZ_106, zZ_107, zZ_108, zZ_109, zZ_110, zZ_111, zZ_112, zZ_113, zZ_114, zZ_115, zZ_116, zZ_117, zZ_118, zZ_119, zZ_120, zZ_121, zZ_122, zZ_123, zZ_124, zZ_125, zZ_126, zZ_127, zZ_128, zZ_129, zZ_130, zZ_131, zZ_132, zZ_133, zZ_134, zZ_135, zZ_136, zZ_137, zZ_138, zZ_139, zZ_140, zZ_141, zZ_142, zZ_143, zZ_144, zZ_145, zZ_146, zZ_147, zZ_148, zZ_149, zZ_150, zZ_151, zZ_152, zZ_153, zZ_154, zZ_155, zZ_156, zZ_157, zZ_158, zZ_159, zZ_160, zZ_161, zZ_162, zZ_163, zZ_164, zZ_165, zZ_166, zZ_167, zZ_168, zZ_169, zZ_170, zZ_171, zZ_172, zZ_173, zZ_174, zZ_175, zZ_176, zZ_177, zZ_178, zZ_179, zZ_180, zZ_181, zZ_182, zZ_183, zZ_184, zZ_185, zZ_186, zZ_187, zZ_188, zZ_189, zZ_190, zZ_191, zZ_192, zZ_193, zZ_194, trivial⟩ g (Nat.zero_le _) (by omega)
theorem shr0 {A k j : Nat} (h : Nat.shiftRight A k = 0) (hj : k ≤ j) : A.testBit j = false := by
  have h : A >>> k = 0 := h
  have e : (A >>> k).testBit (j - k) = A.testBit j := by
    rw [Nat.testBit_shiftRight, show k + (j - k) = j by omega]
  rw [← e, h]
  exact Nat.zero_testBit _
theorem pk_zero {w A i : Nat} (h : ∀ b, b < w → A.testBit (w * i + b) = false) : pk w A i = 0 := by
  apply Nat.eq_of_testBit_eq
  intro b
  rw [pk_bit, Nat.zero_testBit]
  by_cases hb : b < w
  · rw [h b hb]
    simp
  · simp [hb]
theorem row_zero {g : Nat} (hg : g < 195) : (∀ i, rn (rw_ g) ≤ i → pk 17 ((rw_ g).getD 2 0) i = 0) ∧ ∀ x y, y < 120 → (rn (rw_ g) ≤ x ∨ rn (rw_ g) ≤ y) → pk 8 ((rw_ g).getD 20 0) (120 * x + y) = 0 := by
  have h := isS (allZ g hg)
  unfold chkZ at h
  have h := ps_some h
  have h := ps_some h
  have h := ps_some h
  simp only [kget_eq] at h
  obtain ⟨h1, h⟩ := eqs_some h
  obtain ⟨h2, h⟩ := eqs_some h
  have h1 : Nat.shiftRight ((rw_ g).getD 2 0) (17 * rn (rw_ g)) = 0 := h1
  have h2 : Nat.shiftRight ((rw_ g).getD 20 0) (960 * rn (rw_ g)) = 0 := h2
  refine ⟨fun i hi => pk_zero (fun b hb => shr0 h1 ?_), fun x y hy hxy => pk_zero (fun b hb => ?_)⟩
  · have : 17 * rn (rw_ g) ≤ 17 * i := Nat.mul_le_mul_left _ hi
    omega
  · by_cases hx : rn (rw_ g) ≤ x
    · refine shr0 h2 ?_
      have : 960 * rn (rw_ g) ≤ 960 * x := Nat.mul_le_mul_left _ hx
      omega
    · have hy2 : rn (rw_ g) ≤ y := by omega
      have h3 := blt_t (pq_some (alN_some _ h x (show x < rn (rw_ g) by omega))).1
      have h3 : pk 960 ((rw_ g).getD 20 0) x < 2 ^ (8 * rn (rw_ g)) := h3
      have h4 : (pk 960 ((rw_ g).getD 20 0) x).testBit (8 * y + b) = false := Nat.testBit_lt_two_pow (Nat.lt_of_lt_of_le h3 (Nat.pow_le_pow_right (by omega) (by omega)))
      rw [pk_bit] at h4
      have h5 : 8 * y + b < 960 := by omega
      simp [h5] at h4
      rw [show 8 * (120 * x + y) + b = 960 * x + (8 * y + b) by omega]
      exact h4
