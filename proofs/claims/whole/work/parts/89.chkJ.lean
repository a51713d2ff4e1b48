/-! ===== the certificates, checked ===== -/
def tbb (m i : Nat) : Bool := Nat.beq (Nat.mod (Nat.shiftRight m i) 2) 1
noncomputable def ixc (r : List Nat) (N c : Nat) : Nat := pk 8 (kget 0 r 4) (keyc N c)
/-- the place of a number in a set, tested -/
noncomputable def atc {β : Type} (r : List Nat) (N c : Nat) (k : Nat → Option β) : Option β := pn (ixc r N c) fun i => pq (Nat.blt i (kget 0 r 1)) <| pq (Nat.beq (pk 17 (kget 0 r 2) i) (Nat.succ c)) <| k i
noncomputable def mskF (r rS : List Nat) (N n : Nat) : Option Nat := Nat.rec (some 0) (fun z ih => po1 ih fun m => pn (pk 17 (kget 0 r 2) z) fun c => atc rS N c fun i => kseq (Nat.lor m (Nat.shiftLeft 1 i)) fun m => some m) n
noncomputable def trF (r : List Nat) (u v : Nat) (l : List Nat) : Nat → Option Nat := List.rec (fun m => some m) (fun e _ ih m => pq (tbb m (Nat.mod e 128)) <| pn (pk 8 (kget 0 r 20) (Nat.add (Nat.mul 120 (Nat.mod e 128)) (Bool.rec v u (Nat.blt e 128)))) fun y => kseq (Nat.lor m (Nat.shiftLeft 1 y)) fun m => ih m) l
noncomputable def wdF (r r' : List Nat) (N n c : Nat) (f : Nat) : Nat → Nat → Option Nat := Nat.rec (fun _ _ => none) (fun _ ih W x => pg_eq (some x) (pn (Nat.mod W 128) fun l => po1 (pg_eq (some c) (pn l fun z => pq (Nat.blt z n) <| pn (pk 17 (kget 0 r 2) z) fun d => some d) l) fun d => atc r' N d fun i => pn (pk 8 (kget 0 r' 20) (Nat.add (Nat.mul 120 x) i)) fun x => kseq (Nat.div W 128) fun W => ih W x) W) f
noncomputable def entF (r : List Nat) (N n sN mask c y E : Nat) : Option Unit := kseq (Nat.mod E 256) fun g => kseq (Nat.mod (Nat.div E 256) 340282366920938463463374607431768211456) fun W1 => kseq (Nat.div E 87112285931760246646623899502532662132736) fun W2 =>
  pq (Nat.blt g 195) <| eqs N (kget 0 (kget [] RGS g) 0) <| eqs sN (kget 0 (kget [] JDS g) 0) <| eqs (Nat.land mask (kget 0 (kget [] JDS g) 3)) mask <| pq (tbb (kget 0 (kget [] JDS g) 3) y) <|
  po1 (wdF r (kget [] RGS g) N n c 20 W1 0) fun a => eqs a (kget 0 (kget [] JDS g) 1) <| po1 (wdF r (kget [] RGS g) N n c 20 W2 0) fun b => eqs b (kget 0 (kget [] JDS g) 2) <| some ()
noncomputable def chkJ (g : Nat) : Option Unit := kseq (kget 0 (kget [] RGS g) 0) fun N => kseq (kget 0 (kget [] RGS g) 1) fun n => kseq (kget 0 (kget [] JDS g) 0) fun sN => kseq (kget 0 (kget [] JDS g) 1) fun u => kseq (kget 0 (kget [] JDS g) 2) fun v => kseq (kget 0 (kget [] JDS g) 3) fun mask =>
  eqs N (kget 0 (kget [] RGS sN) 0) <| pq (Nat.blt u n) <| pq (Nat.blt v n) <| pq (Nat.blt sN 195) <|
  po1 (mskF (kget [] RGS g) (kget [] RGS sN) N n) fun m => eqs m mask <|
  po1 (trF (kget [] RGS g) u v (kget [] JTS g) 1) fun m => eqs m (Nat.sub (Nat.pow 2 n) 1) <|
  alN (kget 0 (kget [] RGS sN) 1) fun y => pb (tbb mask y) (some ()) (pn (pk 17 (kget 0 (kget [] RGS sN) 2) y) fun c => entF (kget [] RGS g) N n sN mask c y (kget 0 (kget [] JES g) y))
theorem zJ_0 : (chkJ 0).isSome = true := by decide +kernel
theorem zJ_1 : (chkJ 1).isSome = true := by decide +kernel
theorem zJ_2 : (chkJ 2).isSome = true := by decide +kernel
theorem zJ_3 : (chkJ 3).isSome = true := by decide +kernel
theorem zJ_4 : (chkJ 4).isSome = true := by decide +kernel
theorem zJ_5 : (chkJ 5).isSome = true := by decide +kernel
theorem zJ_6 : (chkJ 6).isSome = true := by decide +kernel
theorem zJ_7 : (chkJ 7).isSome = true := by decide +kernel
theorem zJ_8 : (chkJ 8).isSome = true := by decide +kernel
theorem zJ_9 : (chkJ 9).isSome = true := by decide +kernel
theorem zJ_10 : (chkJ 10).isSome = true := by decide +kernel
theorem zJ_11 : (chkJ 11).isSome = true := by decide +kernel
theorem zJ_12 : (chkJ 12).isSome = true := by decide +kernel
theorem zJ_13 : (chkJ 13).isSome = true := by decide +kernel
theorem zJ_14 : (chkJ 14).isSome = true := by decide +kernel
theorem zJ_15 : (chkJ 15).isSome = true := by decide +kernel
theorem zJ_16 : (chkJ 16).isSome = true := by decide +kernel
theorem zJ_17 : (chkJ 17).isSome = true := by decide +kernel
theorem zJ_18 : (chkJ 18).isSome = true := by decide +kernel
theorem zJ_19 : (chkJ 19).isSome = true := by decide +kernel
theorem zJ_20 : (chkJ 20).isSome = true := by decide +kernel
theorem zJ_21 : (chkJ 21).isSome = true := by decide +kernel
theorem zJ_22 : (chkJ 22).isSome = true := by decide +kernel
theorem zJ_23 : (chkJ 23).isSome = true := by decide +kernel
theorem zJ_24 : (chkJ 24).isSome = true := by decide +kernel
theorem zJ_25 : (chkJ 25).isSome = true := by decide +kernel
theorem zJ_26 : (chkJ 26).isSome = true := by decide +kernel
theorem zJ_27 : (chkJ 27).isSome = true := by decide +kernel
theorem zJ_28 : (chkJ 28).isSome = true := by decide +kernel
theorem zJ_29 : (chkJ 29).isSome = true := by decide +kernel
theorem zJ_30 : (chkJ 30).isSome = true := by decide +kernel
theorem zJ_31 : (chkJ 31).isSome = true := by decide +kernel
theorem zJ_32 : (chkJ 32).isSome = true := by decide +kernel
theorem zJ_33 : (chkJ 33).isSome = true := by decide +kernel
theorem zJ_34 : (chkJ 34).isSome = true := by decide +kernel
theorem zJ_35 : (chkJ 35).isSome = true := by decide +kernel
theorem zJ_36 : (chkJ 36).isSome = true := by decide +kernel
theorem zJ_37 : (chkJ 37).isSome = true := by decide +kernel
theorem zJ_38 : (chkJ 38).isSome = true := by decide +kernel
theorem zJ_39 : (chkJ 39).isSome = true := by decide +kernel
theorem zJ_40 : (chkJ 40).isSome = true := by decide +kernel
theorem zJ_41 : (chkJ 41).isSome = true := by decide +kernel
theorem zJ_42 : (chkJ 42).isSome = true := by decide +kernel
theorem zJ_43 : (chkJ 43).isSome = true := by decide +kernel
theorem zJ_44 : (chkJ 44).isSome = true := by decide +kernel
theorem zJ_45 : (chkJ 45).isSome = true := by decide +kernel
theorem zJ_46 : (chkJ 46).isSome = true := by decide +kernel
theorem zJ_47 : (chkJ 47).isSome = true := by decide +kernel
theorem zJ_48 : (chkJ 48).isSome = true := by decide +kernel
theorem zJ_49 : (chkJ 49).isSome = true := by decide +kernel
theorem zJ_50 : (chkJ 50).isSome = true := by decide +kernel
theorem zJ_51 : (chkJ 51).isSome = true := by decide +kernel
theorem zJ_52 : (chkJ 52).isSome = true := by decide +kernel
theorem zJ_53 : (chkJ 53).isSome = true := by decide +kernel
theorem zJ_54 : (chkJ 54).isSome = true := by decide +kernel
theorem zJ_55 : (chkJ 55).isSome = true := by decide +kernel
theorem zJ_56 : (chkJ 56).isSome = true := by decide +kernel
theorem zJ_57 : (chkJ 57).isSome = true := by decide +kernel
theorem zJ_58 : (chkJ 58).isSome = true := by decide +kernel
theorem zJ_59 : (chkJ 59).isSome = true := by decide +kernel
theorem zJ_60 : (chkJ 60).isSome = true := by decide +kernel
theorem zJ_61 : (chkJ 61).isSome = true := by decide +kernel
theorem zJ_62 : (chkJ 62).isSome = true := by decide +kernel
theorem zJ_63 : (chkJ 63).isSome = true := by decide +kernel
theorem zJ_64 : (chkJ 64).isSome = true := by decide +kernel
theorem zJ_65 : (chkJ 65).isSome = true := by decide +kernel
theorem zJ_66 : (chkJ 66).isSome = true := by decide +kernel
theorem zJ_67 : (chkJ 67).isSome = true := by decide +kernel
theorem zJ_68 : (chkJ 68).isSome = true := by decide +kernel
theorem zJ_69 : (chkJ 69).isSome = true := by decide +kernel
theorem zJ_70 : (chkJ 70).isSome = true := by decide +kernel
theorem zJ_71 : (chkJ 71).isSome = true := by decide +kernel
theorem zJ_72 : (chkJ 72).isSome = true := by decide +kernel
theorem zJ_73 : (chkJ 73).isSome = true := by decide +kernel
theorem zJ_74 : (chkJ 74).isSome = true := by decide +kernel
theorem zJ_75 : (chkJ 75).isSome = true := by decide +kernel
theorem zJ_76 : (chkJ 76).isSome = true := by decide +kernel
theorem zJ_77 : (chkJ 77).isSome = true := by decide +kernel
theorem zJ_78 : (chkJ 78).isSome = true := by decide +kernel
theorem zJ_79 : (chkJ 79).isSome = true := by decide +kernel
theorem zJ_80 : (chkJ 80).isSome = true := by decide +kernel
theorem zJ_81 : (chkJ 81).isSome = true := by decide +kernel
theorem zJ_82 : (chkJ 82).isSome = true := by decide +kernel
theorem zJ_83 : (chkJ 83).isSome = true := by decide +kernel
theorem zJ_84 : (chkJ 84).isSome = true := by decide +kernel
theorem zJ_85 : (chkJ 85).isSome = true := by decide +kernel
theorem zJ_86 : (chkJ 86).isSome = true := by decide +kernel
theorem zJ_87 : (chkJ 87).isSome = true := by decide +kernel
theorem zJ_88 : (chkJ 88).isSome = true := by decide +kernel
theorem zJ_89 : (chkJ 89).isSome = true := by decide +kernel
theorem zJ_90 : (chkJ 90).isSome = true := by decide +kernel
theorem zJ_91 : (chkJ 91).isSome = true := by decide +kernel
theorem zJ_92 : (chkJ 92).isSome = true := by decide +kernel
theorem zJ_93 : (chkJ 93).isSome = true := by decide +kernel
theorem zJ_94 : (chkJ 94).isSome = true := by decide +kernel
theorem zJ_95 : (chkJ 95).isSome = true := by decide +kernel
theorem zJ_96 : (chkJ 96).isSome = true := by decide +kernel
theorem zJ_97 : (chkJ 97).isSome = true := by decide +kernel
theorem zJ_98 : (chkJ 98).isSome = true := by decide +kernel
theorem zJ_99 : (chkJ 99).isSome = true := by decide +kernel
theorem zJ_100 : (chkJ 100).isSome = true := by decide +kernel
theorem zJ_101 : (chkJ 101).isSome = true := by decide +kernel
theorem zJ_102 : (chkJ 102).isSome = true := by decide +kernel
theorem zJ_103 : (chkJ 103).isSome = true := by decide +kernel
theorem zJ_104 : (chkJ 104).isSome = true := by decide +kernel
theorem zJ_105 : (chkJ 105).isSome = true := by decide +kernel
theorem zJ_106 : (chkJ 106).isSome = true := by decide +kernel
theorem zJ_107 : (chkJ 107).isSome = true := by decide +kernel
theorem zJ_108 : (chkJ 108).isSome = true := by decide +kernel
theorem zJ_109 : (chkJ 109).isSome = true := by decide +kernel
theorem zJ_110 : (chkJ 110).isSome = true := by decide +kernel
theorem zJ_111 : (chkJ 111).isSome = true := by decide +kernel
theorem zJ_112 : (chkJ 112).isSome = true := by decide +kernel
theorem zJ_113 : (chkJ 113).isSome = true := by decide +kernel
theorem zJ_114 : (chkJ 114).isSome = true := by decide +kernel
theorem zJ_115 : (chkJ 115).isSome = true := by decide +kernel
theorem zJ_116 : (chkJ 116).isSome = true := by decide +kernel
theorem zJ_117 : (chkJ 117).isSome = true := by decide +kernel
theorem zJ_118 : (chkJ 118).isSome = true := by decide +kernel
theorem zJ_119 : (chkJ 119).isSome = true := by decide +kernel
theorem zJ_120 : (chkJ 120).isSome = true := by decide +kernel
theorem zJ_121 : (chkJ 121).isSome = true := by decide +kernel
theorem zJ_122 : (chkJ 122).isSome = true := by decide +kernel
theorem zJ_123 : (chkJ 123).isSome = true := by decide +kernel
theorem zJ_124 : (chkJ 124).isSome = true := by decide +kernel
theorem zJ_125 : (chkJ 125).isSome = true := by decide +kernel
theorem zJ_126 : (chkJ 126).isSome = true := by decide +kernel
theorem zJ_127 : (chkJ 127).isSome = true := by decide +kernel
theorem zJ_128 : (chkJ 128).isSome = true := by decide +kernel
theorem zJ_129 : (chkJ 129).isSome = true := by decide +kernel
theorem zJ_130 : (chkJ 130).isSome = true := by decide +kernel
theorem zJ_131 : (chkJ 131).isSome = true := by decide +kernel
theorem zJ_132 : (chkJ 132).isSome = true := by decide +kernel
theorem zJ_133 : (chkJ 133).isSome = true := by decide +kernel
theorem zJ_134 : (chkJ 134).isSome = true := by decide +kernel
theorem zJ_135 : (chkJ 135).isSome = true := by decide +kernel
theorem zJ_136 : (chkJ 136).isSome = true := by decide +kernel
theorem zJ_137 : (chkJ 137).isSome = true := by decide +kernel
theorem zJ_138 : (chkJ 138).isSome = true := by decide +kernel
theorem zJ_139 : (chkJ 139).isSome = true := by decide +kernel
theorem zJ_140 : (chkJ 140).isSome = true := by decide +kernel
theorem zJ_141 : (chkJ 141).isSome = true := by decide +kernel
theorem zJ_142 : (chkJ 142).isSome = true := by decide +kernel
theorem zJ_143 : (chkJ 143).isSome = true := by decide +kernel
theorem zJ_144 : (chkJ 144).isSome = true := by decide +kernel
theorem zJ_145 : (chkJ 145).isSome = true := by decide +kernel
theorem zJ_146 : (chkJ 146).isSome = true := by decide +kernel
theorem zJ_147 : (chkJ 147).isSome = true := by decide +kernel
theorem zJ_148 : (chkJ 148).isSome = true := by decide +kernel
theorem zJ_149 : (chkJ 149).isSome = true := by decide +kernel
theorem zJ_150 : (chkJ 150).isSome = true := by decide +kernel
theorem zJ_151 : (chkJ 151).isSome = true := by decide +kernel
theorem zJ_152 : (chkJ 152).isSome = true := by decide +kernel
theorem zJ_153 : (chkJ 153).isSome = true := by decide +kernel
theorem zJ_154 : (chkJ 154).isSome = true := by decide +kernel
theorem zJ_155 : (chkJ 155).isSome = true := by decide +kernel
theorem zJ_156 : (chkJ 156).isSome = true := by decide +kernel
theorem zJ_157 : (chkJ 157).isSome = true := by decide +kernel
theorem zJ_158 : (chkJ 158).isSome = true := by decide +kernel
theorem zJ_159 : (chkJ 159).isSome = true := by decide +kernel
theorem zJ_160 : (chkJ 160).isSome = true := by decide +kernel
theorem zJ_161 : (chkJ 161).isSome = true := by decide +kernel
theorem zJ_162 : (chkJ 162).isSome = true := by decide +kernel
theorem zJ_163 : (chkJ 163).isSome = true := by decide +kernel
theorem zJ_164 : (chkJ 164).isSome = true := by decide +kernel
theorem zJ_165 : (chkJ 165).isSome = true := by decide +kernel
theorem zJ_166 : (chkJ 166).isSome = true := by decide +kernel
theorem zJ_167 : (chkJ 167).isSome = true := by decide +kernel
theorem zJ_168 : (chkJ 168).isSome = true := by decide +kernel
theorem zJ_169 : (chkJ 169).isSome = true := by decide +kernel
theorem zJ_170 : (chkJ 170).isSome = true := by decide +kernel
theorem zJ_171 : (chkJ 171).isSome = true := by decide +kernel
theorem zJ_172 : (chkJ 172).isSome = true := by decide +kernel
theorem zJ_173 : (chkJ 173).isSome = true := by decide +kernel
theorem zJ_174 : (chkJ 174).isSome = true := by decide +kernel
theorem zJ_175 : (chkJ 175).isSome = true := by decide +kernel
theorem zJ_176 : (chkJ 176).isSome = true := by decide +kernel
theorem zJ_177 : (chkJ 177).isSome = true := by decide +kernel
theorem zJ_178 : (chkJ 178).isSome = true := by decide +kernel
theorem zJ_179 : (chkJ 179).isSome = true := by decide +kernel
theorem zJ_180 : (chkJ 180).isSome = true := by decide +kernel
theorem zJ_181 : (chkJ 181).isSome = true := by decide +kernel
theorem zJ_182 : (chkJ 182).isSome = true := by decide +kernel
theorem zJ_183 : (chkJ 183).isSome = true := by decide +kernel
theorem zJ_184 : (chkJ 184).isSome = true := by decide +kernel
theorem zJ_185 : (chkJ 185).isSome = true := by decide +kernel
theorem zJ_186 : (chkJ 186).isSome = true := by decide +kernel
theorem zJ_187 : (chkJ 187).isSome = true := by decide +kernel
theorem zJ_188 : (chkJ 188).isSome = true := by decide +kernel
theorem zJ_189 : (chkJ 189).isSome = true := by decide +kernel
theorem zJ_190 : (chkJ 190).isSome = true := by decide +kernel
theorem zJ_191 : (chkJ 191).isSome = true := by decide +kernel
theorem zJ_192 : (chkJ 192).isSome = true := by decide +kernel
theorem zJ_193 : (chkJ 193).isSome = true := by decide +kernel
theorem zJ_194 : (chkJ 194).isSome = true := by decide +kernel
def allUp (P : Nat → Prop) : Nat → Nat → Prop
  | 0, _ => True
  | k + 1, i => P i ∧ allUp P k (i + 1)
theorem allUp_at {P : Nat → Prop} : ∀ (k i : Nat), allUp P k i → ∀ j, i ≤ j → j < i + k → P j
  | 0, i, _, j, h1, h2 => by omega
  | k + 1, i, h, j, h1, h2 => by
    by_cases e : j = i
    · rw [e]; exact h.1
    · exact allUp_at k (i + 1) h.2 j (by omega) (by omega)
set_option maxRecDepth 100000 in
theorem allJ : ∀ g, g < 195 → (chkJ g).isSome = true := fun g hg => allUp_at (P := fun g => (chkJ g).isSome = true) 195 0 ⟨zJ_0, zJ_1, zJ_2, zJ_3, zJ_4, zJ_5, zJ_6, zJ_7, zJ_8, zJ_9, zJ_10, zJ_11, zJ_12, zJ_13, zJ_14, zJ_15, zJ_16, zJ_17, zJ_18, zJ_19, zJ_20, zJ_21, zJ_22, zJ_23, zJ_24, zJ_25, zJ_26, zJ_27, zJ_28, zJ_29, zJ_30, zJ_31, zJ_32, zJ_33, zJ_34, zJ_35, zJ_36, zJ_37, zJ_38, zJ_39, zJ_40, zJ_41, zJ_42, zJ_43, zJ_44, zJ_45, zJ_46, zJ_47, zJ_48, zJ_49, zJ_50, zJ_51, zJ_52, zJ_53, zJ_54, zJ_55, zJ_56, zJ_57, zJ_58, zJ_59, zJ_60, zJ_61, zJ_62, zJ_63, zJ_64, zJ_65, zJ_66, zJ_67, zJ_68, zJ_69, zJ_70, zJ_71, zJ_72, zJ_73, zJ_74, zJ_75, zJ_76, zJ_77, zJ_78, zJ_79, zJ_80, zJ_81, zJ_82, zJ_83, zJ_84, zJ_85, zJ_86, zJ_87, zJ_88, zJ_89, zJ_90, zJ_91, zJ_92, zJ_93, zJ_94, zJ_95, zJ_96, zJ_97, zJ_98, zJ_99, zJ_100, zJ_101, zJ_102, zJ_103, zJ_104, zJ_105, zJ_106, zJ_107, zJ_108, zJ_109, zJ_110, zJ_111, zJ_112, zJ_113, zJ_114, zJ_115, zJ_116, zJ_117, zJ_118, zJ_119, zJ_120, zJ_121, zJ_122, zJ_123, zJ_124, zJ_125, zJ_126, zJ_127, zJ_128, zJ_129, zJ_130, zJ_131, zJ_132, zJ_133, zJ_134, zJ_135, zJ_136, zJ_137, zJ_138, zJ_139, zJ_140, zJ_141, zJ_142, zJ_143, zJ_144, zJ_145, zJ_146, zJ_147, zJ_148, zJ_149, zJ_150, zJ_151, zJ_152, zJ_153, zJ_154, zJ_155, zJ_156, zJ_157, zJ_158, zJ_159, zJ_160, zJ_161, zJ_162, zJ_163, zJ_164, zJ_165, zJ_166, zJ_167, zJ_168, zJ_169, zJ_170, zJ_171, zJ_172, zJ_173, zJ_174, zJ_175, zJ_176, zJ_177, zJ_178, zJ_179, zJ_180, zJ_181, zJ_182, zJ_183, zJ_184, zJ_185, zJ_186, zJ_187, zJ_188, zJ_189, zJ_190, zJ_191, zJ_192, zJ_193, zJ_194, trivial⟩ g (Nat.zero_le _) (by omega)
set_option maxRecDepth 100000 in
theorem allG : ∀ g, g < 195 → (chkG (RGS.getD g [])).isSome = true := fun g hg => allUp_at (P := fun g => (chkG (RGS.getD g [])).isSome = true) 195 0 ⟨zG_0, zG_1, zG_2, zG_3, zG_4, zG_5, zG_6, zG_7, zG_8, zG_9, zG_10, zG_11, zG_12, zG_13, zG_14, zG_15, zG_16, zG_17, zG_18, zG_19, zG_20, zG_21, zG_22, zG_23, zG_24, zG_25, zG_26, zG_27, zG_28, zG_29, zG_30, zG_31, zG_32, zG_33, zG_34, zG_35, zG_36, zG_37, zG_38, zG_39, zG_40, zG_41, zG_42, zG_43, zG_44, zG_45, zG_46, zG_47, zG_48, zG_49, zG_50, zG_51, zG_52, zG_53, zG_54, zG_55, zG_56, zG_57, zG_58, zG_59, zG_60, zG_61, zG_62, zG_63, zG_64, zG_65, zG_66, zG_67, zG_68, zG_69, zG_70, zG_71, zG_72, zG_73, zG_74, zG_75, zG_76, zG_77, zG_78, zG_79, zG_80, zG_81, zG_82, zG_83, zG_84, zG_85, zG_86, zG_87, zG_88, zG_89, zG_90, zG_91, zG_92, zG_93, zG_94, zG_95, zG_96, zG_97, zG_98, zG_99, zG_100, zG_101, zG_102, zG_103, zG_104, zG_105, zG_106, zG_107, zG_108, zG_109, zG_110, zG_111, zG_112, zG_113, zG_114, zG_115, zG_116, zG_117, zG_118, zG_119, zG_120, zG_121, zG_122, zG_123, zG_124, zG_125, zG_126, zG_127, zG_128, zG_129, zG_130, zG_131, zG_132, zG_133, zG_134, zG_135, zG_136, zG_137, zG_138, zG_139, zG_140, zG_141, zG_142, zG_143, zG_144, zG_145, zG_146, zG_147, zG_148, zG_149, zG_150, zG_151, zG_152, zG_153, zG_154, zG_155, zG_156, zG_157, zG_158, zG_159, zG_160, zG_161, zG_162, zG_163, zG_164, zG_165, zG_166, zG_167, zG_168, zG_169, zG_170, zG_171, zG_172, zG_173, zG_174, zG_175, zG_176, zG_177, zG_178, zG_179, zG_180, zG_181, zG_182, zG_183, zG_184, zG_185, zG_186, zG_187, zG_188, zG_189, zG_190, zG_191, zG_192, zG_193, zG_194, trivial⟩ g (Nat.zero_le _) (by omega)
set_option maxRecDepth 100000 in
theorem allA : ∀ g, g < 195 → (chkA (RGS.getD g [])).isSome = true := fun g hg => allUp_at (P := fun g => (chkA (RGS.getD g [])).isSome = true) 195 0 ⟨zA_0, zA_1, zA_2, zA_3, zA_4, zA_5, zA_6, zA_7, zA_8, zA_9, zA_10, zA_11, zA_12, zA_13, zA_14, zA_15, zA_16, zA_17, zA_18, zA_19, zA_20, zA_21, zA_22, zA_23, zA_24, zA_25, zA_26, zA_27, zA_28, zA_29, zA_30, zA_31, zA_32, zA_33, zA_34, zA_35, zA_36, zA_37, zA_38, zA_39, zA_40, zA_41, zA_42, zA_43, zA_44, zA_45, zA_46, zA_47, zA_48, zA_49, zA_50, zA_51, zA_52, zA_53, zA_54, zA_55, zA_56, zA_57, zA_58, zA_59, zA_60, zA_61, zA_62, zA_63, zA_64, zA_65, zA_66, zA_67, zA_68, zA_69, zA_70, zA_71, zA_72, zA_73, zA_74, zA_75, zA_76, zA_77, zA_78, zA_79, zA_80, zA_81, zA_82, zA_83, zA_84, zA_85, zA_86, zA_87, zA_88, zA_89, zA_90, zA_91, zA_92, zA_93, zA_94, zA_95, zA_96, zA_97, zA_98, zA_99, zA_100, zA_101, zA_102, zA_103, zA_104, zA_105, zA_106, zA_107, zA_108, zA_109, zA_110, zA_111, zA_112, zA_113, zA_114, zA_115, zA_116, zA_117, zA_118, zA_119, zA_120, zA_121, zA_122, zA_123, zA_124, zA_125, zA_126, zA_127, zA_128, zA_129, zA_130, zA_131, zA_132, zA_133, zA_134, zA_135, zA_136, zA_137, zA_138, zA_139, zA_140, zA_141, zA_142, zA_143, zA_144, zA_145, zA_146, zA_147, zA_148, zA_149, zA_150, zA_151, zA_152, zA_153, zA_154, zA_155, zA_156, zA_157, zA_158, zA_159, zA_160, zA_161, zA_162, zA_163, zA_164, zA_165, zA_166, zA_167, zA_168, zA_169, zA_170, zA_171, zA_172, zA_173, zA_174, zA_175, zA_176, zA_177, zA_178, zA_179, zA_180, zA_181, zA_182, zA_183, zA_184, zA_185, zA_186, zA_187, zA_188, zA_189, zA_190, zA_191, zA_192, zA_193, zA_194, trivial⟩ g (Nat.zero_le _) (by omega)
set_option maxRecDepth 100000 in
theorem allB : ∀ g, g < 195 → (chkB (RGS.getD g [])).isSome = true := fun g hg => allUp_at (P := fun g => (chkB (RGS.getD g [])).isSome = true) 195 0 ⟨zB_0, zB_1, zB_2, zB_3, zB_4, zB_5, zB_6, zB_7, zB_8, zB_9, zB_10, zB_11, zB_12, zB_13, zB_14, zB_15, zB_16, zB_17, zB_18, zB_19, zB_20, zB_21, zB_22, zB_23, zB_24, zB_25, zB_26, zB_27, zB_28, zB_29, zB_30, zB_31, zB_32, zB_33, zB_34, zB_35, zB_36, zB_37, zB_38, zB_39, zB_40, zB_41, zB_42, zB_43, zB_44, zB_45, zB_46, zB_47, zB_48, zB_49, zB_50, zB_51, zB_52, zB_53, zB_54, zB_55, zB_56, zB_57, zB_58, zB_59, zB_60, zB_61, zB_62, zB_63, zB_64, zB_65, zB_66, zB_67, zB_68, zB_69, zB_70, zB_71, zB_72, zB_73, zB_74, zB_75, zB_76, zB_77, zB_78, zB_79, zB_80, zB_81, zB_82, zB_83, zB_84, zB_85, zB_86, zB_87, zB_88, zB_89, zB_90, zB_91, zB_92, zB_93, zB_94, zB_95, zB_96, zB_97, zB_98, zB_99, zB_100, zB_101, zB_102, zB_103, zB_104, zB_105, zB_106, zB_107, zB_108, zB_109, zB_110, zB_111, zB_112, zB_113, zB_114, zB_115, zB_116, zB_117, zB_118, zB_119, zB_120, zB_121, zB_122, zB_123, zB_124, zB_125, zB_126, zB_127, zB_128, zB_129, zB_130, zB_131, zB_132, zB_133, zB_134, zB_135, zB_136, zB_137, zB_138, zB_139, zB_140, zB_141, zB_142, zB_143, zB_144, zB_145, zB_146, zB_147, zB_148, zB_149, zB_150, zB_151, zB_152, zB_153, zB_154, zB_155, zB_156, zB_157, zB_158, zB_159, zB_160, zB_161, zB_162, zB_163, zB_164, zB_165, zB_166, zB_167, zB_168, zB_169, zB_170, zB_171, zB_172, zB_173, zB_174, zB_175, zB_176, zB_177, zB_178, zB_179, zB_180, zB_181, zB_182, zB_183, zB_184, zB_185, zB_186, zB_187, zB_188, zB_189, zB_190, zB_191, zB_192, zB_193, zB_194, trivial⟩ g (Nat.zero_le _) (by omega)
set_option maxRecDepth 100000 in
theorem allC : ∀ g, g < 195 → (chkC (RGS.getD g [])).isSome = true := fun g hg => allUp_at (P := fun g => (chkC (RGS.getD g [])).isSome = true) 195 0 ⟨zC_0, zC_1, zC_2, zC_3, zC_4, zC_5, zC_6, zC_7, zC_8, zC_9, zC_10, zC_11, zC_12, zC_13, zC_14, zC_15, zC_16, zC_17, zC_18, zC_19, zC_20, zC_21, zC_22, zC_23, zC_24, zC_25, zC_26, zC_27, zC_28, zC_29, zC_30, zC_31, zC_32, zC_33, zC_34, zC_35, zC_36, zC_37, zC_38, zC_39, zC_40, zC_41, zC_42, zC_43, zC_44, zC_45, zC_46, zC_47, zC_48, zC_49, zC_50, zC_51, zC_52, zC_53, zC_54, zC_55, zC_56, zC_57, zC_58, zC_59, zC_60, zC_61, zC_62, zC_63, zC_64, zC_65, zC_66, zC_67, zC_68, zC_69, zC_70, zC_71, zC_72, zC_73, zC_74, zC_75, zC_76, zC_77, zC_78, zC_79, zC_80, zC_81, zC_82, zC_83, zC_84, zC_85, zC_86, zC_87, zC_88, zC_89, zC_90, zC_91, zC_92, zC_93, zC_94, zC_95, zC_96, zC_97, zC_98, zC_99, zC_100, zC_101, zC_102, zC_103, zC_104, zC_105, zC_106, zC_107, zC_108, zC_109, zC_110, zC_111, zC_112, zC_113, zC_114, zC_115, zC_116, zC_117, zC_118, zC_119, zC_120, zC_121, zC_122, zC_123, zC_124, zC_125, zC_126, zC_127, zC_128, zC_129, zC_130, zC_131, zC_132, zC_133, zC_134, zC_135, zC_136, zC_137, zC_138, zC_139, zC_140, zC_141, zC_142, zC_143, zC_144, zC_145, zC_146, zC_147, zC_148, zC_149, zC_150, zC_151, zC_152, zC_153, zC_154, zC_155, zC_156, zC_157, zC_158, zC_159, zC_160, zC_161, zC_162, zC_163, zC_164, zC_165, zC_166, zC_167, zC_168, zC_169, zC_170, zC_171, zC_172, zC_173, zC_174, zC_175, zC_176, zC_177, zC_178, zC_179, zC_180, zC_181, zC_182, zC_183, zC_184, zC_185, zC_186, zC_187, zC_188, zC_189, zC_190, zC_191, zC_192, zC_193, zC_194, trivial⟩ g (Nat.zero_le _) (by omega)
set_option maxRecDepth 100000 in
theorem allT : ∀ g, g < 30 → (chkT (TBS.getD g [])).isSome = true := fun g hg => allUp_at (P := fun g => (chkT (TBS.getD g [])).isSome = true) 30 0 ⟨zt_0, zt_1, zt_2, zt_3, zt_4, zt_5, zt_6, zt_7, zt_8, zt_9, zt_10, zt_11, zt_12, zt_13, zt_14, zt_15, zt_16, zt_17, zt_18, zt_19, zt_20, zt_21, zt_22, zt_23, zt_24, zt_25, zt_26, zt_27, zt_28, zt_29, trivial⟩ g (Nat.zero_le _) (by omega)
