/-! ===== the words of the tables, one by one ===== -/
theorem k_mem {big ws : List Cond} (ps : List Nat) (hp : ws = ps.filterMap (fun i => big[i]?)) : ∀ w ∈ ws, w ∈ big := fun w hw => by
  rw [hp] at hw
  obtain ⟨i, -, hi⟩ := List.mem_filterMap.mp hw
  exact List.mem_of_getElem? hi
set_option maxRecDepth 20000 in
theorem kr_1 : ∀ w ∈ wsL_law_r1, w ∈ lw_tbl := k_mem [104, 105, 91, 853, 854, 100, 106, 107, 108, 109, 110, 111, 112, 113, 92, 397, 398, 135, 136, 93, 399, 152, 153, 94] (by decide +kernel)
theorem kw_1_0 : Cond.classLink RL 7 RX8 ∈ k_tbl := k_tbl_in (kr_1 _ (List.mem_of_getElem? (i := 0) rfl)) rfl
theorem kw_1_1 : Cond.instantiable RX8 8 ∈ k_tbl := k_tbl_in (kr_1 _ (List.mem_of_getElem? (i := 1) rfl)) rfl
theorem kw_1_2 : Cond.initialized RX8 ∈ k_tbl := k_tbl_in (kr_1 _ (List.mem_of_getElem? (i := 2) rfl)) rfl
theorem kw_1_3 : Cond.classLink RL 10 RX9 ∈ k_tbl := k_tbl_in (kr_1 _ (List.mem_of_getElem? (i := 3) rfl)) rfl
theorem kw_1_4 : Cond.instantiable RX9 40 ∈ k_tbl := k_tbl_in (kr_1 _ (List.mem_of_getElem? (i := 4) rfl)) rfl
theorem kw_1_5 : Cond.initialized RX9 ∈ k_tbl := k_tbl_in (kr_1 _ (List.mem_of_getElem? (i := 5) rfl)) rfl
theorem kw_1_6 : Cond.methodLink RL 9 yX8_init ∈ k_tbl := k_tbl_in (kr_1 _ (List.mem_of_getElem? (i := 6) rfl)) rfl
theorem kw_1_7 : Cond.instanceMethod yX8_init ∈ k_tbl := k_tbl_in (kr_1 _ (List.mem_of_getElem? (i := 7) rfl)) rfl
theorem kw_1_8 : Cond.code yX8_init cX8_init 1 none ∈ k_tbl := k_tbl_in (kr_1 _ (List.mem_of_getElem? (i := 8) rfl)) rfl
theorem kw_1_9 : Cond.methodLink RX8 1 objectInit ∈ k_tbl := k_tbl_in (kr_1 _ (List.mem_of_getElem? (i := 9) rfl)) rfl
theorem kw_1_10 : Cond.instanceMethod objectInit ∈ k_tbl := k_tbl_in (kr_1 _ (List.mem_of_getElem? (i := 10) rfl)) rfl
theorem kw_1_11 : Cond.code objectInit ⟨#[0xb1]⟩ 1 none ∈ k_tbl := k_tbl_in (kr_1 _ (List.mem_of_getElem? (i := 11) rfl)) rfl
theorem kw_1_12 : Cond.classLink RX8 7 RX5 ∈ k_tbl := k_tbl_in (kr_1 _ (List.mem_of_getElem? (i := 12) rfl)) rfl
theorem kw_1_13 : Cond.instantiable RX5 3 ∈ k_tbl := k_tbl_in (kr_1 _ (List.mem_of_getElem? (i := 13) rfl)) rfl
theorem kw_1_14 : Cond.initialized RX5 ∈ k_tbl := k_tbl_in (kr_1 _ (List.mem_of_getElem? (i := 14) rfl)) rfl
theorem kw_1_15 : Cond.fieldLink RX8 10 "RootedClasses" "now" "LRootedClasses$Setting;" ∈ k_tbl := k_tbl_in (kr_1 _ (List.mem_of_getElem? (i := 15) rfl)) rfl
theorem kw_1_16 : Cond.fieldLink RX8 16 "RootedClasses" "trial" "LRootedClasses$Setting;" ∈ k_tbl := k_tbl_in (kr_1 _ (List.mem_of_getElem? (i := 16) rfl)) rfl
theorem kw_1_17 : Cond.classLink RX8 19 RX1 ∈ k_tbl := k_tbl_in (kr_1 _ (List.mem_of_getElem? (i := 17) rfl)) rfl
theorem kw_1_18 : Cond.instantiable RX1 2 ∈ k_tbl := k_tbl_in (kr_1 _ (List.mem_of_getElem? (i := 18) rfl)) rfl
theorem kw_1_19 : Cond.initialized RX1 ∈ k_tbl := k_tbl_in (kr_1 _ (List.mem_of_getElem? (i := 19) rfl)) rfl
theorem kw_1_20 : Cond.fieldLink RX8 22 "RootedClasses" "past" "LRootedClasses$Past;" ∈ k_tbl := k_tbl_in (kr_1 _ (List.mem_of_getElem? (i := 20) rfl)) rfl
theorem kw_1_21 : Cond.classLink RX8 26 RX4 ∈ k_tbl := k_tbl_in (kr_1 _ (List.mem_of_getElem? (i := 21) rfl)) rfl
theorem kw_1_22 : Cond.instantiable RX4 10 ∈ k_tbl := k_tbl_in (kr_1 _ (List.mem_of_getElem? (i := 22) rfl)) rfl
theorem kw_1_23 : Cond.initialized RX4 ∈ k_tbl := k_tbl_in (kr_1 _ (List.mem_of_getElem? (i := 23) rfl)) rfl
set_option maxRecDepth 20000 in
theorem kr_2 : ∀ w ∈ wsL_law_r2, w ∈ lw_tbl := k_mem [400, 190, 191, 95, 401, 134, 402, 403, 404, 115, 116, 117, 118, 122, 125, 137, 138, 139, 140, 144, 141, 146, 155, 156] (by decide +kernel)
theorem kw_2_0 : Cond.fieldLink RX8 29 "RootedClasses" "script" "LRootedClasses$Script;" ∈ k_tbl := k_tbl_in (kr_2 _ (List.mem_of_getElem? (i := 0) rfl)) rfl
theorem kw_2_1 : Cond.classLink RX8 33 RX3 ∈ k_tbl := k_tbl_in (kr_2 _ (List.mem_of_getElem? (i := 1) rfl)) rfl
theorem kw_2_2 : Cond.instantiable RX3 8 ∈ k_tbl := k_tbl_in (kr_2 _ (List.mem_of_getElem? (i := 2) rfl)) rfl
theorem kw_2_3 : Cond.initialized RX3 ∈ k_tbl := k_tbl_in (kr_2 _ (List.mem_of_getElem? (i := 3) rfl)) rfl
theorem kw_2_4 : Cond.fieldLink RX8 36 "RootedClasses" "rows" "LRootedClasses$Rows;" ∈ k_tbl := k_tbl_in (kr_2 _ (List.mem_of_getElem? (i := 4) rfl)) rfl
theorem kw_2_5 : Cond.arrayClass .int ∈ k_tbl := k_tbl_in (kr_2 _ (List.mem_of_getElem? (i := 5) rfl)) rfl
theorem kw_2_6 : Cond.fieldLink RX8 40 "RootedClasses" "refusals" "[I" ∈ k_tbl := k_tbl_in (kr_2 _ (List.mem_of_getElem? (i := 6) rfl)) rfl
theorem kw_2_7 : Cond.fieldLink RX8 44 "RootedClasses" "sortsKnown" "Z" ∈ k_tbl := k_tbl_in (kr_2 _ (List.mem_of_getElem? (i := 7) rfl)) rfl
theorem kw_2_8 : Cond.fieldLink RX8 48 "RootedClasses" "rowsKnown" "Z" ∈ k_tbl := k_tbl_in (kr_2 _ (List.mem_of_getElem? (i := 8) rfl)) rfl
theorem kw_2_9 : Cond.instanceMethod yX5_init ∈ k_tbl := k_tbl_in (kr_2 _ (List.mem_of_getElem? (i := 9) rfl)) rfl
theorem kw_2_10 : Cond.code yX5_init cX5_init 1 none ∈ k_tbl := k_tbl_in (kr_2 _ (List.mem_of_getElem? (i := 10) rfl)) rfl
theorem kw_2_11 : Cond.methodLink RX5 3 objectInit ∈ k_tbl := k_tbl_in (kr_2 _ (List.mem_of_getElem? (i := 11) rfl)) rfl
theorem kw_2_12 : Cond.fieldLink RX5 9 "RootedClasses$Setting" "points" "I" ∈ k_tbl := k_tbl_in (kr_2 _ (List.mem_of_getElem? (i := 12) rfl)) rfl
theorem kw_2_13 : Cond.fieldLink RX5 15 "RootedClasses$Setting" "count" "I" ∈ k_tbl := k_tbl_in (kr_2 _ (List.mem_of_getElem? (i := 13) rfl)) rfl
theorem kw_2_14 : Cond.fieldLink RX5 18 "RootedClasses$Setting" "codes" "[I" ∈ k_tbl := k_tbl_in (kr_2 _ (List.mem_of_getElem? (i := 14) rfl)) rfl
theorem kw_2_15 : Cond.methodLink RX8 21 yX1_init ∈ k_tbl := k_tbl_in (kr_2 _ (List.mem_of_getElem? (i := 15) rfl)) rfl
theorem kw_2_16 : Cond.instanceMethod yX1_init ∈ k_tbl := k_tbl_in (kr_2 _ (List.mem_of_getElem? (i := 16) rfl)) rfl
theorem kw_2_17 : Cond.code yX1_init cX1_init 2 none ∈ k_tbl := k_tbl_in (kr_2 _ (List.mem_of_getElem? (i := 17) rfl)) rfl
theorem kw_2_18 : Cond.methodLink RX1 3 objectInit ∈ k_tbl := k_tbl_in (kr_2 _ (List.mem_of_getElem? (i := 18) rfl)) rfl
theorem kw_2_19 : Cond.fieldLink RX1 9 "RootedClasses$Past" "count" "I" ∈ k_tbl := k_tbl_in (kr_2 _ (List.mem_of_getElem? (i := 19) rfl)) rfl
theorem kw_2_20 : Cond.classLink RX1 15 RX5 ∈ k_tbl := k_tbl_in (kr_2 _ (List.mem_of_getElem? (i := 20) rfl)) rfl
theorem kw_2_21 : Cond.fieldLink RX1 17 "RootedClasses$Past" "states" "[LRootedClasses$Setting;" ∈ k_tbl := k_tbl_in (kr_2 _ (List.mem_of_getElem? (i := 21) rfl)) rfl
theorem kw_2_22 : Cond.instanceMethod yX4_init ∈ k_tbl := k_tbl_in (kr_2 _ (List.mem_of_getElem? (i := 22) rfl)) rfl
theorem kw_2_23 : Cond.code yX4_init cX4_init 1 none ∈ k_tbl := k_tbl_in (kr_2 _ (List.mem_of_getElem? (i := 23) rfl)) rfl
set_option maxRecDepth 20000 in
theorem kr_3 : ∀ w ∈ wsL_law_r3, w ∈ lw_tbl := k_mem [157, 158, 160, 161, 162, 163, 164, 165, 166, 167, 168, 193, 194, 195, 196, 197, 96, 365, 294, 295, 98, 367, 369, 371] (by decide +kernel)
theorem kw_3_0 : Cond.methodLink RX4 3 objectInit ∈ k_tbl := k_tbl_in (kr_3 _ (List.mem_of_getElem? (i := 0) rfl)) rfl
theorem kw_3_1 : Cond.fieldLink RX4 9 "RootedClasses$Script" "length" "I" ∈ k_tbl := k_tbl_in (kr_3 _ (List.mem_of_getElem? (i := 1) rfl)) rfl
theorem kw_3_2 : Cond.fieldLink RX4 15 "RootedClasses$Script" "bytes" "[I" ∈ k_tbl := k_tbl_in (kr_3 _ (List.mem_of_getElem? (i := 2) rfl)) rfl
theorem kw_3_3 : Cond.fieldLink RX4 19 "RootedClasses$Script" "kinds" "[I" ∈ k_tbl := k_tbl_in (kr_3 _ (List.mem_of_getElem? (i := 3) rfl)) rfl
theorem kw_3_4 : Cond.fieldLink RX4 22 "RootedClasses$Script" "numbers" "[I" ∈ k_tbl := k_tbl_in (kr_3 _ (List.mem_of_getElem? (i := 4) rfl)) rfl
theorem kw_3_5 : Cond.fieldLink RX4 25 "RootedClasses$Script" "orders" "I" ∈ k_tbl := k_tbl_in (kr_3 _ (List.mem_of_getElem? (i := 5) rfl)) rfl
theorem kw_3_6 : Cond.fieldLink RX4 28 "RootedClasses$Script" "kind" "I" ∈ k_tbl := k_tbl_in (kr_3 _ (List.mem_of_getElem? (i := 6) rfl)) rfl
theorem kw_3_7 : Cond.fieldLink RX4 31 "RootedClasses$Script" "number" "I" ∈ k_tbl := k_tbl_in (kr_3 _ (List.mem_of_getElem? (i := 7) rfl)) rfl
theorem kw_3_8 : Cond.fieldLink RX4 34 "RootedClasses$Script" "figuresDue" "I" ∈ k_tbl := k_tbl_in (kr_3 _ (List.mem_of_getElem? (i := 8) rfl)) rfl
theorem kw_3_9 : Cond.fieldLink RX4 37 "RootedClasses$Script" "figuresSeen" "I" ∈ k_tbl := k_tbl_in (kr_3 _ (List.mem_of_getElem? (i := 9) rfl)) rfl
theorem kw_3_10 : Cond.fieldLink RX4 40 "RootedClasses$Script" "pointsThen" "I" ∈ k_tbl := k_tbl_in (kr_3 _ (List.mem_of_getElem? (i := 10) rfl)) rfl
theorem kw_3_11 : Cond.instanceMethod yX3_init ∈ k_tbl := k_tbl_in (kr_3 _ (List.mem_of_getElem? (i := 11) rfl)) rfl
theorem kw_3_12 : Cond.code yX3_init cX3_init 1 none ∈ k_tbl := k_tbl_in (kr_3 _ (List.mem_of_getElem? (i := 12) rfl)) rfl
theorem kw_3_13 : Cond.methodLink RX3 3 objectInit ∈ k_tbl := k_tbl_in (kr_3 _ (List.mem_of_getElem? (i := 13) rfl)) rfl
theorem kw_3_14 : Cond.classLink RX3 9 RX6 ∈ k_tbl := k_tbl_in (kr_3 _ (List.mem_of_getElem? (i := 14) rfl)) rfl
theorem kw_3_15 : Cond.instantiable RX6 11 ∈ k_tbl := k_tbl_in (kr_3 _ (List.mem_of_getElem? (i := 15) rfl)) rfl
theorem kw_3_16 : Cond.initialized RX6 ∈ k_tbl := k_tbl_in (kr_3 _ (List.mem_of_getElem? (i := 16) rfl)) rfl
theorem kw_3_17 : Cond.fieldLink RX3 12 "RootedClasses$Rows" "sorts" "LRootedClasses$Sorts;" ∈ k_tbl := k_tbl_in (kr_3 _ (List.mem_of_getElem? (i := 17) rfl)) rfl
theorem kw_3_18 : Cond.classLink RX3 18 RX2 ∈ k_tbl := k_tbl_in (kr_3 _ (List.mem_of_getElem? (i := 18) rfl)) rfl
theorem kw_3_19 : Cond.instantiable RX2 4 ∈ k_tbl := k_tbl_in (kr_3 _ (List.mem_of_getElem? (i := 19) rfl)) rfl
theorem kw_3_20 : Cond.initialized RX2 ∈ k_tbl := k_tbl_in (kr_3 _ (List.mem_of_getElem? (i := 20) rfl)) rfl
theorem kw_3_21 : Cond.fieldLink RX3 21 "RootedClasses$Rows" "prime" "LRootedClasses$Prime;" ∈ k_tbl := k_tbl_in (kr_3 _ (List.mem_of_getElem? (i := 21) rfl)) rfl
theorem kw_3_22 : Cond.fieldLink RX3 25 "RootedClasses$Rows" "count" "I" ∈ k_tbl := k_tbl_in (kr_3 _ (List.mem_of_getElem? (i := 22) rfl)) rfl
theorem kw_3_23 : Cond.fieldLink RX3 29 "RootedClasses$Rows" "degrees" "[I" ∈ k_tbl := k_tbl_in (kr_3 _ (List.mem_of_getElem? (i := 23) rfl)) rfl
set_option maxRecDepth 20000 in
theorem kr_4 : ∀ w ∈ wsL_law_r4, w ∈ lw_tbl := k_mem [319, 373, 375, 377, 321, 322, 99, 379, 199, 200, 201, 202, 203, 97, 242, 245, 249, 252, 254, 257, 260, 262, 265, 267] (by decide +kernel)
theorem kw_4_0 : Cond.classLink RX3 33 "[[I" ∈ k_tbl := k_tbl_in (kr_4 _ (List.mem_of_getElem? (i := 0) rfl)) rfl
theorem kw_4_1 : Cond.fieldLink RX3 35 "RootedClasses$Rows" "spreads" "[[I" ∈ k_tbl := k_tbl_in (kr_4 _ (List.mem_of_getElem? (i := 1) rfl)) rfl
theorem kw_4_2 : Cond.fieldLink RX3 38 "RootedClasses$Rows" "values" "[[I" ∈ k_tbl := k_tbl_in (kr_4 _ (List.mem_of_getElem? (i := 2) rfl)) rfl
theorem kw_4_3 : Cond.fieldLink RX3 41 "RootedClasses$Rows" "multiplied" "[I" ∈ k_tbl := k_tbl_in (kr_4 _ (List.mem_of_getElem? (i := 3) rfl)) rfl
theorem kw_4_4 : Cond.classLink RX3 44 RX7 ∈ k_tbl := k_tbl_in (kr_4 _ (List.mem_of_getElem? (i := 4) rfl)) rfl
theorem kw_4_5 : Cond.instantiable RX7 12 ∈ k_tbl := k_tbl_in (kr_4 _ (List.mem_of_getElem? (i := 5) rfl)) rfl
theorem kw_4_6 : Cond.initialized RX7 ∈ k_tbl := k_tbl_in (kr_4 _ (List.mem_of_getElem? (i := 6) rfl)) rfl
theorem kw_4_7 : Cond.fieldLink RX3 47 "RootedClasses$Rows" "spaces" "LRootedClasses$Spaces;" ∈ k_tbl := k_tbl_in (kr_4 _ (List.mem_of_getElem? (i := 7) rfl)) rfl
theorem kw_4_8 : Cond.instanceMethod yX6_init ∈ k_tbl := k_tbl_in (kr_4 _ (List.mem_of_getElem? (i := 8) rfl)) rfl
theorem kw_4_9 : Cond.code yX6_init cX6_init 1 none ∈ k_tbl := k_tbl_in (kr_4 _ (List.mem_of_getElem? (i := 9) rfl)) rfl
theorem kw_4_10 : Cond.methodLink RX6 3 objectInit ∈ k_tbl := k_tbl_in (kr_4 _ (List.mem_of_getElem? (i := 10) rfl)) rfl
theorem kw_4_11 : Cond.classLink RX6 9 RX0 ∈ k_tbl := k_tbl_in (kr_4 _ (List.mem_of_getElem? (i := 11) rfl)) rfl
theorem kw_4_12 : Cond.instantiable RX0 9 ∈ k_tbl := k_tbl_in (kr_4 _ (List.mem_of_getElem? (i := 12) rfl)) rfl
theorem kw_4_13 : Cond.initialized RX0 ∈ k_tbl := k_tbl_in (kr_4 _ (List.mem_of_getElem? (i := 13) rfl)) rfl
theorem kw_4_14 : Cond.fieldLink RX6 12 "RootedClasses$Sorts" "elements" "LRootedClasses$Elements;" ∈ k_tbl := k_tbl_in (kr_4 _ (List.mem_of_getElem? (i := 14) rfl)) rfl
theorem kw_4_15 : Cond.fieldLink RX6 18 "RootedClasses$Sorts" "count" "I" ∈ k_tbl := k_tbl_in (kr_4 _ (List.mem_of_getElem? (i := 15) rfl)) rfl
theorem kw_4_16 : Cond.fieldLink RX6 22 "RootedClasses$Sorts" "exponent" "I" ∈ k_tbl := k_tbl_in (kr_4 _ (List.mem_of_getElem? (i := 16) rfl)) rfl
theorem kw_4_17 : Cond.fieldLink RX6 25 "RootedClasses$Sorts" "sortOf" "[I" ∈ k_tbl := k_tbl_in (kr_4 _ (List.mem_of_getElem? (i := 17) rfl)) rfl
theorem kw_4_18 : Cond.fieldLink RX6 29 "RootedClasses$Sorts" "sizes" "[I" ∈ k_tbl := k_tbl_in (kr_4 _ (List.mem_of_getElem? (i := 18) rfl)) rfl
theorem kw_4_19 : Cond.fieldLink RX6 32 "RootedClasses$Sorts" "turns" "[I" ∈ k_tbl := k_tbl_in (kr_4 _ (List.mem_of_getElem? (i := 19) rfl)) rfl
theorem kw_4_20 : Cond.fieldLink RX6 35 "RootedClasses$Sorts" "leasts" "[I" ∈ k_tbl := k_tbl_in (kr_4 _ (List.mem_of_getElem? (i := 20) rfl)) rfl
theorem kw_4_21 : Cond.fieldLink RX6 38 "RootedClasses$Sorts" "inverses" "[I" ∈ k_tbl := k_tbl_in (kr_4 _ (List.mem_of_getElem? (i := 21) rfl)) rfl
theorem kw_4_22 : Cond.fieldLink RX6 41 "RootedClasses$Sorts" "pointsLeft" "[I" ∈ k_tbl := k_tbl_in (kr_4 _ (List.mem_of_getElem? (i := 22) rfl)) rfl
theorem kw_4_23 : Cond.fieldLink RX6 44 "RootedClasses$Sorts" "pairs" "[I" ∈ k_tbl := k_tbl_in (kr_4 _ (List.mem_of_getElem? (i := 23) rfl)) rfl
set_option maxRecDepth 20000 in
theorem kr_5 : ∀ w ∈ wsL_law_r5, w ∈ lw_tbl := k_mem [270, 205, 206, 207, 208, 212, 214, 217, 218, 219, 220, 221, 222, 297, 298, 299, 300, 304, 306, 308, 324, 325, 326, 327] (by decide +kernel)
theorem kw_5_0 : Cond.fieldLink RX6 47 "RootedClasses$Sorts" "powers" "[I" ∈ k_tbl := k_tbl_in (kr_5 _ (List.mem_of_getElem? (i := 0) rfl)) rfl
theorem kw_5_1 : Cond.instanceMethod yX0_init ∈ k_tbl := k_tbl_in (kr_5 _ (List.mem_of_getElem? (i := 1) rfl)) rfl
theorem kw_5_2 : Cond.code yX0_init cX0_init 1 none ∈ k_tbl := k_tbl_in (kr_5 _ (List.mem_of_getElem? (i := 2) rfl)) rfl
theorem kw_5_3 : Cond.methodLink RX0 3 objectInit ∈ k_tbl := k_tbl_in (kr_5 _ (List.mem_of_getElem? (i := 3) rfl)) rfl
theorem kw_5_4 : Cond.fieldLink RX0 9 "RootedClasses$Elements" "order" "I" ∈ k_tbl := k_tbl_in (kr_5 _ (List.mem_of_getElem? (i := 4) rfl)) rfl
theorem kw_5_5 : Cond.fieldLink RX0 15 "RootedClasses$Elements" "codes" "[I" ∈ k_tbl := k_tbl_in (kr_5 _ (List.mem_of_getElem? (i := 5) rfl)) rfl
theorem kw_5_6 : Cond.fieldLink RX0 19 "RootedClasses$Elements" "inverses" "[I" ∈ k_tbl := k_tbl_in (kr_5 _ (List.mem_of_getElem? (i := 6) rfl)) rfl
theorem kw_5_7 : Cond.fieldLink RX0 22 "RootedClasses$Elements" "points" "I" ∈ k_tbl := k_tbl_in (kr_5 _ (List.mem_of_getElem? (i := 7) rfl)) rfl
theorem kw_5_8 : Cond.fieldLink RX0 25 "RootedClasses$Elements" "figures" "[I" ∈ k_tbl := k_tbl_in (kr_5 _ (List.mem_of_getElem? (i := 8) rfl)) rfl
theorem kw_5_9 : Cond.fieldLink RX0 28 "RootedClasses$Elements" "generators" "[I" ∈ k_tbl := k_tbl_in (kr_5 _ (List.mem_of_getElem? (i := 9) rfl)) rfl
theorem kw_5_10 : Cond.fieldLink RX0 31 "RootedClasses$Elements" "codeAtKey" "[I" ∈ k_tbl := k_tbl_in (kr_5 _ (List.mem_of_getElem? (i := 10) rfl)) rfl
theorem kw_5_11 : Cond.fieldLink RX0 34 "RootedClasses$Elements" "placeAtKey" "[I" ∈ k_tbl := k_tbl_in (kr_5 _ (List.mem_of_getElem? (i := 11) rfl)) rfl
theorem kw_5_12 : Cond.fieldLink RX0 37 "RootedClasses$Elements" "made" "[I" ∈ k_tbl := k_tbl_in (kr_5 _ (List.mem_of_getElem? (i := 12) rfl)) rfl
theorem kw_5_13 : Cond.instanceMethod yX2_init ∈ k_tbl := k_tbl_in (kr_5 _ (List.mem_of_getElem? (i := 13) rfl)) rfl
theorem kw_5_14 : Cond.code yX2_init cX2_init 1 none ∈ k_tbl := k_tbl_in (kr_5 _ (List.mem_of_getElem? (i := 14) rfl)) rfl
theorem kw_5_15 : Cond.methodLink RX2 3 objectInit ∈ k_tbl := k_tbl_in (kr_5 _ (List.mem_of_getElem? (i := 15) rfl)) rfl
theorem kw_5_16 : Cond.fieldLink RX2 9 "RootedClasses$Prime" "p" "I" ∈ k_tbl := k_tbl_in (kr_5 _ (List.mem_of_getElem? (i := 16) rfl)) rfl
theorem kw_5_17 : Cond.fieldLink RX2 15 "RootedClasses$Prime" "root" "I" ∈ k_tbl := k_tbl_in (kr_5 _ (List.mem_of_getElem? (i := 17) rfl)) rfl
theorem kw_5_18 : Cond.fieldLink RX2 18 "RootedClasses$Prime" "over" "[I" ∈ k_tbl := k_tbl_in (kr_5 _ (List.mem_of_getElem? (i := 18) rfl)) rfl
theorem kw_5_19 : Cond.fieldLink RX2 22 "RootedClasses$Prime" "rootPowers" "[I" ∈ k_tbl := k_tbl_in (kr_5 _ (List.mem_of_getElem? (i := 19) rfl)) rfl
theorem kw_5_20 : Cond.instanceMethod yX7_init ∈ k_tbl := k_tbl_in (kr_5 _ (List.mem_of_getElem? (i := 20) rfl)) rfl
theorem kw_5_21 : Cond.code yX7_init cX7_init 1 none ∈ k_tbl := k_tbl_in (kr_5 _ (List.mem_of_getElem? (i := 21) rfl)) rfl
theorem kw_5_22 : Cond.methodLink RX7 3 objectInit ∈ k_tbl := k_tbl_in (kr_5 _ (List.mem_of_getElem? (i := 22) rfl)) rfl
theorem kw_5_23 : Cond.classLink RX7 9 "[[I" ∈ k_tbl := k_tbl_in (kr_5 _ (List.mem_of_getElem? (i := 23) rfl)) rfl
set_option maxRecDepth 20000 in
theorem kr_6 : ∀ w ∈ wsL_law_r6, w ∈ lw_tbl := k_mem [328, 329, 330, 331, 332, 333, 334, 335, 336, 337, 338, 339, 855, 856, 857, 858, 859, 860, 861, 863, 866, 867, 868, 869] (by decide +kernel)
theorem kw_6_0 : Cond.fieldLink RX7 11 "RootedClasses$Spaces" "lines" "[[I" ∈ k_tbl := k_tbl_in (kr_6 _ (List.mem_of_getElem? (i := 0) rfl)) rfl
theorem kw_6_1 : Cond.fieldLink RX7 16 "RootedClasses$Spaces" "nextLines" "[[I" ∈ k_tbl := k_tbl_in (kr_6 _ (List.mem_of_getElem? (i := 1) rfl)) rfl
theorem kw_6_2 : Cond.fieldLink RX7 19 "RootedClasses$Spaces" "starts" "[I" ∈ k_tbl := k_tbl_in (kr_6 _ (List.mem_of_getElem? (i := 2) rfl)) rfl
theorem kw_6_3 : Cond.fieldLink RX7 23 "RootedClasses$Spaces" "nextStarts" "[I" ∈ k_tbl := k_tbl_in (kr_6 _ (List.mem_of_getElem? (i := 3) rfl)) rfl
theorem kw_6_4 : Cond.fieldLink RX7 26 "RootedClasses$Spaces" "spaces" "I" ∈ k_tbl := k_tbl_in (kr_6 _ (List.mem_of_getElem? (i := 4) rfl)) rfl
theorem kw_6_5 : Cond.fieldLink RX7 30 "RootedClasses$Spaces" "nextSpaces" "I" ∈ k_tbl := k_tbl_in (kr_6 _ (List.mem_of_getElem? (i := 5) rfl)) rfl
theorem kw_6_6 : Cond.fieldLink RX7 33 "RootedClasses$Spaces" "nextCount" "I" ∈ k_tbl := k_tbl_in (kr_6 _ (List.mem_of_getElem? (i := 6) rfl)) rfl
theorem kw_6_7 : Cond.fieldLink RX7 36 "RootedClasses$Spaces" "width" "I" ∈ k_tbl := k_tbl_in (kr_6 _ (List.mem_of_getElem? (i := 7) rfl)) rfl
theorem kw_6_8 : Cond.fieldLink RX7 39 "RootedClasses$Spaces" "action" "[[I" ∈ k_tbl := k_tbl_in (kr_6 _ (List.mem_of_getElem? (i := 8) rfl)) rfl
theorem kw_6_9 : Cond.fieldLink RX7 42 "RootedClasses$Spaces" "work" "[[I" ∈ k_tbl := k_tbl_in (kr_6 _ (List.mem_of_getElem? (i := 9) rfl)) rfl
theorem kw_6_10 : Cond.fieldLink RX7 45 "RootedClasses$Spaces" "pivots" "[I" ∈ k_tbl := k_tbl_in (kr_6 _ (List.mem_of_getElem? (i := 10) rfl)) rfl
theorem kw_6_11 : Cond.fieldLink RX7 48 "RootedClasses$Spaces" "mix" "[I" ∈ k_tbl := k_tbl_in (kr_6 _ (List.mem_of_getElem? (i := 11) rfl)) rfl
theorem kw_6_12 : Cond.methodLink RL 12 yX9_init ∈ k_tbl := k_tbl_in (kr_6 _ (List.mem_of_getElem? (i := 12) rfl)) rfl
theorem kw_6_13 : Cond.instanceMethod yX9_init ∈ k_tbl := k_tbl_in (kr_6 _ (List.mem_of_getElem? (i := 13) rfl)) rfl
theorem kw_6_14 : Cond.code yX9_init cX9_init 1 none ∈ k_tbl := k_tbl_in (kr_6 _ (List.mem_of_getElem? (i := 14) rfl)) rfl
theorem kw_6_15 : Cond.methodLink RX9 1 objectInit ∈ k_tbl := k_tbl_in (kr_6 _ (List.mem_of_getElem? (i := 15) rfl)) rfl
theorem kw_6_16 : Cond.fieldLink RX9 7 "RootedClassesModel" "now" "[I" ∈ k_tbl := k_tbl_in (kr_6 _ (List.mem_of_getElem? (i := 16) rfl)) rfl
theorem kw_6_17 : Cond.fieldLink RX9 13 "RootedClassesModel" "held" "[I" ∈ k_tbl := k_tbl_in (kr_6 _ (List.mem_of_getElem? (i := 17) rfl)) rfl
theorem kw_6_18 : Cond.fieldLink RX9 16 "RootedClassesModel" "past" "[I" ∈ k_tbl := k_tbl_in (kr_6 _ (List.mem_of_getElem? (i := 18) rfl)) rfl
theorem kw_6_19 : Cond.fieldLink RX9 19 "RootedClassesModel" "refused" "[I" ∈ k_tbl := k_tbl_in (kr_6 _ (List.mem_of_getElem? (i := 19) rfl)) rfl
theorem kw_6_20 : Cond.fieldLink RX9 22 "RootedClassesModel" "elements" "[I" ∈ k_tbl := k_tbl_in (kr_6 _ (List.mem_of_getElem? (i := 20) rfl)) rfl
theorem kw_6_21 : Cond.fieldLink RX9 25 "RootedClassesModel" "products" "[I" ∈ k_tbl := k_tbl_in (kr_6 _ (List.mem_of_getElem? (i := 21) rfl)) rfl
theorem kw_6_22 : Cond.fieldLink RX9 28 "RootedClassesModel" "sortOf" "[I" ∈ k_tbl := k_tbl_in (kr_6 _ (List.mem_of_getElem? (i := 22) rfl)) rfl
theorem kw_6_23 : Cond.fieldLink RX9 31 "RootedClassesModel" "inverse" "[I" ∈ k_tbl := k_tbl_in (kr_6 _ (List.mem_of_getElem? (i := 23) rfl)) rfl
set_option maxRecDepth 20000 in
theorem kr_7 : ∀ w ∈ wsL_law_r7, w ∈ lw_tbl := k_mem [870, 872, 873, 877, 879, 880, 882, 883, 884, 885, 886, 887, 888, 889, 890, 896, 897, 422, 423, 424, 425, 426, 427, 428] (by decide +kernel)
theorem kw_7_0 : Cond.fieldLink RX9 34 "RootedClassesModel" "turns" "[I" ∈ k_tbl := k_tbl_in (kr_7 _ (List.mem_of_getElem? (i := 0) rfl)) rfl
theorem kw_7_1 : Cond.fieldLink RX9 37 "RootedClassesModel" "size" "[I" ∈ k_tbl := k_tbl_in (kr_7 _ (List.mem_of_getElem? (i := 1) rfl)) rfl
theorem kw_7_2 : Cond.fieldLink RX9 40 "RootedClassesModel" "least" "[I" ∈ k_tbl := k_tbl_in (kr_7 _ (List.mem_of_getElem? (i := 2) rfl)) rfl
theorem kw_7_3 : Cond.fieldLink RX9 43 "RootedClassesModel" "timesOf" "[I" ∈ k_tbl := k_tbl_in (kr_7 _ (List.mem_of_getElem? (i := 3) rfl)) rfl
theorem kw_7_4 : Cond.fieldLink RX9 46 "RootedClassesModel" "wide" "[I" ∈ k_tbl := k_tbl_in (kr_7 _ (List.mem_of_getElem? (i := 4) rfl)) rfl
theorem kw_7_5 : Cond.fieldLink RX9 49 "RootedClassesModel" "bases" "[I" ∈ k_tbl := k_tbl_in (kr_7 _ (List.mem_of_getElem? (i := 5) rfl)) rfl
theorem kw_7_6 : Cond.fieldLink RX9 52 "RootedClassesModel" "newWide" "[I" ∈ k_tbl := k_tbl_in (kr_7 _ (List.mem_of_getElem? (i := 6) rfl)) rfl
theorem kw_7_7 : Cond.fieldLink RX9 55 "RootedClassesModel" "newBases" "[I" ∈ k_tbl := k_tbl_in (kr_7 _ (List.mem_of_getElem? (i := 7) rfl)) rfl
theorem kw_7_8 : Cond.fieldLink RX9 58 "RootedClassesModel" "grid" "[I" ∈ k_tbl := k_tbl_in (kr_7 _ (List.mem_of_getElem? (i := 8) rfl)) rfl
theorem kw_7_9 : Cond.fieldLink RX9 61 "RootedClassesModel" "lead" "[I" ∈ k_tbl := k_tbl_in (kr_7 _ (List.mem_of_getElem? (i := 9) rfl)) rfl
theorem kw_7_10 : Cond.fieldLink RX9 64 "RootedClassesModel" "spreads" "[I" ∈ k_tbl := k_tbl_in (kr_7 _ (List.mem_of_getElem? (i := 10) rfl)) rfl
theorem kw_7_11 : Cond.fieldLink RX9 67 "RootedClassesModel" "degrees" "[I" ∈ k_tbl := k_tbl_in (kr_7 _ (List.mem_of_getElem? (i := 11) rfl)) rfl
theorem kw_7_12 : Cond.fieldLink RX9 70 "RootedClassesModel" "values" "[I" ∈ k_tbl := k_tbl_in (kr_7 _ (List.mem_of_getElem? (i := 12) rfl)) rfl
theorem kw_7_13 : Cond.fieldLink RX9 73 "RootedClassesModel" "one" "[I" ∈ k_tbl := k_tbl_in (kr_7 _ (List.mem_of_getElem? (i := 13) rfl)) rfl
theorem kw_7_14 : Cond.fieldLink RX9 76 "RootedClassesModel" "text" "[I" ∈ k_tbl := k_tbl_in (kr_7 _ (List.mem_of_getElem? (i := 14) rfl)) rfl
theorem kw_7_15 : Cond.fieldLink RX9 79 "RootedClassesModel" "letters" "[I" ∈ k_tbl := k_tbl_in (kr_7 _ (List.mem_of_getElem? (i := 15) rfl)) rfl
theorem kw_7_16 : Cond.fieldLink RX9 82 "RootedClassesModel" "numbers" "[I" ∈ k_tbl := k_tbl_in (kr_7 _ (List.mem_of_getElem? (i := 16) rfl)) rfl
theorem kw_7_17 : Cond.methodLink RL 13 yX8_points ∈ k_tbl := k_tbl_in (kr_7 _ (List.mem_of_getElem? (i := 17) rfl)) rfl
theorem kw_7_18 : Cond.instanceMethod yX8_points ∈ k_tbl := k_tbl_in (kr_7 _ (List.mem_of_getElem? (i := 18) rfl)) rfl
theorem kw_7_19 : Cond.selects RX8 yX8_points yX8_points ∈ k_tbl := k_tbl_in (kr_7 _ (List.mem_of_getElem? (i := 19) rfl)) rfl
theorem kw_7_20 : Cond.code yX8_points cX8_points 2 (some .int) ∈ k_tbl := k_tbl_in (kr_7 _ (List.mem_of_getElem? (i := 20) rfl)) rfl
theorem kw_7_21 : Cond.methodLink RX8 51 yX5_copyFrom ∈ k_tbl := k_tbl_in (kr_7 _ (List.mem_of_getElem? (i := 21) rfl)) rfl
theorem kw_7_22 : Cond.instanceMethod yX5_copyFrom ∈ k_tbl := k_tbl_in (kr_7 _ (List.mem_of_getElem? (i := 22) rfl)) rfl
theorem kw_7_23 : Cond.selects RX5 yX5_copyFrom yX5_copyFrom ∈ k_tbl := k_tbl_in (kr_7 _ (List.mem_of_getElem? (i := 23) rfl)) rfl
set_option maxRecDepth 20000 in
theorem kr_8 : ∀ w ∈ wsL_law_r8, w ∈ lw_tbl := k_mem [429, 430, 431, 432, 433, 434, 436, 0, 437, 438, 440, 1, 441, 442, 443, 444, 445, 446, 447, 448, 449, 451, 2, 452] (by decide +kernel)
theorem kw_8_0 : Cond.code yX5_copyFrom cX5_copyFrom 3 none ∈ k_tbl := k_tbl_in (kr_8 _ (List.mem_of_getElem? (i := 0) rfl)) rfl
theorem kw_8_1 : Cond.methodLink RX8 55 yX5_setPoints ∈ k_tbl := k_tbl_in (kr_8 _ (List.mem_of_getElem? (i := 1) rfl)) rfl
theorem kw_8_2 : Cond.instanceMethod yX5_setPoints ∈ k_tbl := k_tbl_in (kr_8 _ (List.mem_of_getElem? (i := 2) rfl)) rfl
theorem kw_8_3 : Cond.selects RX5 yX5_setPoints yX5_setPoints ∈ k_tbl := k_tbl_in (kr_8 _ (List.mem_of_getElem? (i := 3) rfl)) rfl
theorem kw_8_4 : Cond.code yX5_setPoints cX5_setPoints 3 (some .int) ∈ k_tbl := k_tbl_in (kr_8 _ (List.mem_of_getElem? (i := 4) rfl)) rfl
theorem kw_8_5 : Cond.methodLink RX8 59 yX8_settled ∈ k_tbl := k_tbl_in (kr_8 _ (List.mem_of_getElem? (i := 5) rfl)) rfl
theorem kw_8_6 : Cond.instanceMethod yX8_settled ∈ k_tbl := k_tbl_in (kr_8 _ (List.mem_of_getElem? (i := 6) rfl)) rfl
theorem kw_8_7 : Cond.selects RX8 yX8_settled yX8_settled ∈ k_tbl := k_tbl_in (kr_8 _ (List.mem_of_getElem? (i := 7) rfl)) rfl
theorem kw_8_8 : Cond.code yX8_settled cX8_settled 2 (some .int) ∈ k_tbl := k_tbl_in (kr_8 _ (List.mem_of_getElem? (i := 8) rfl)) rfl
theorem kw_8_9 : Cond.methodLink RX8 72 yX8_refused ∈ k_tbl := k_tbl_in (kr_8 _ (List.mem_of_getElem? (i := 9) rfl)) rfl
theorem kw_8_10 : Cond.instanceMethod yX8_refused ∈ k_tbl := k_tbl_in (kr_8 _ (List.mem_of_getElem? (i := 10) rfl)) rfl
theorem kw_8_11 : Cond.selects RX8 yX8_refused yX8_refused ∈ k_tbl := k_tbl_in (kr_8 _ (List.mem_of_getElem? (i := 11) rfl)) rfl
theorem kw_8_12 : Cond.code yX8_refused cX8_refused 3 (some .int) ∈ k_tbl := k_tbl_in (kr_8 _ (List.mem_of_getElem? (i := 12) rfl)) rfl
theorem kw_8_13 : Cond.methodLink RX8 68 yX8_isBelow ∈ k_tbl := k_tbl_in (kr_8 _ (List.mem_of_getElem? (i := 13) rfl)) rfl
theorem kw_8_14 : Cond.static yX8_isBelow ∈ k_tbl := k_tbl_in (kr_8 _ (List.mem_of_getElem? (i := 14) rfl)) rfl
theorem kw_8_15 : Cond.code yX8_isBelow cX8_isBelow 2 (some .boolean) ∈ k_tbl := k_tbl_in (kr_8 _ (List.mem_of_getElem? (i := 15) rfl)) rfl
theorem kw_8_16 : Cond.methodLink RX8 198 yX1_keep ∈ k_tbl := k_tbl_in (kr_8 _ (List.mem_of_getElem? (i := 16) rfl)) rfl
theorem kw_8_17 : Cond.instanceMethod yX1_keep ∈ k_tbl := k_tbl_in (kr_8 _ (List.mem_of_getElem? (i := 17) rfl)) rfl
theorem kw_8_18 : Cond.selects RX1 yX1_keep yX1_keep ∈ k_tbl := k_tbl_in (kr_8 _ (List.mem_of_getElem? (i := 18) rfl)) rfl
theorem kw_8_19 : Cond.code yX1_keep cX1_keep 2 none ∈ k_tbl := k_tbl_in (kr_8 _ (List.mem_of_getElem? (i := 19) rfl)) rfl
theorem kw_8_20 : Cond.methodLink RX1 22 yX1_loseOldest ∈ k_tbl := k_tbl_in (kr_8 _ (List.mem_of_getElem? (i := 20) rfl)) rfl
theorem kw_8_21 : Cond.instanceMethod yX1_loseOldest ∈ k_tbl := k_tbl_in (kr_8 _ (List.mem_of_getElem? (i := 21) rfl)) rfl
theorem kw_8_22 : Cond.selects RX1 yX1_loseOldest yX1_loseOldest ∈ k_tbl := k_tbl_in (kr_8 _ (List.mem_of_getElem? (i := 22) rfl)) rfl
theorem kw_8_23 : Cond.code yX1_loseOldest cX1_loseOldest 3 none ∈ k_tbl := k_tbl_in (kr_8 _ (List.mem_of_getElem? (i := 23) rfl)) rfl
set_option maxRecDepth 20000 in
theorem kr_9 : ∀ w ∈ wsL_law_r9, w ∈ lw_tbl := k_mem [453, 454, 456, 3, 457, 988, 989, 990, 991, 992, 994, 42, 995, 996, 998, 43, 999, 864, 1000, 1001, 1002, 1003, 1005, 44] (by decide +kernel)
theorem kw_9_0 : Cond.methodLink RX1 25 yX5_copyFrom ∈ k_tbl := k_tbl_in (kr_9 _ (List.mem_of_getElem? (i := 0) rfl)) rfl
theorem kw_9_1 : Cond.methodLink RX8 181 yX8_forgetReckoned ∈ k_tbl := k_tbl_in (kr_9 _ (List.mem_of_getElem? (i := 1) rfl)) rfl
theorem kw_9_2 : Cond.instanceMethod yX8_forgetReckoned ∈ k_tbl := k_tbl_in (kr_9 _ (List.mem_of_getElem? (i := 2) rfl)) rfl
theorem kw_9_3 : Cond.selects RX8 yX8_forgetReckoned yX8_forgetReckoned ∈ k_tbl := k_tbl_in (kr_9 _ (List.mem_of_getElem? (i := 3) rfl)) rfl
theorem kw_9_4 : Cond.code yX8_forgetReckoned cX8_forgetReckoned 1 none ∈ k_tbl := k_tbl_in (kr_9 _ (List.mem_of_getElem? (i := 4) rfl)) rfl
theorem kw_9_5 : Cond.methodLink RL 17 yX9_points ∈ k_tbl := k_tbl_in (kr_9 _ (List.mem_of_getElem? (i := 5) rfl)) rfl
theorem kw_9_6 : Cond.instanceMethod yX9_points ∈ k_tbl := k_tbl_in (kr_9 _ (List.mem_of_getElem? (i := 6) rfl)) rfl
theorem kw_9_7 : Cond.selects RX9 yX9_points yX9_points ∈ k_tbl := k_tbl_in (kr_9 _ (List.mem_of_getElem? (i := 7) rfl)) rfl
theorem kw_9_8 : Cond.code yX9_points cX9_points 2 (some .int) ∈ k_tbl := k_tbl_in (kr_9 _ (List.mem_of_getElem? (i := 8) rfl)) rfl
theorem kw_9_9 : Cond.methodLink RX9 112 yX9_hold ∈ k_tbl := k_tbl_in (kr_9 _ (List.mem_of_getElem? (i := 9) rfl)) rfl
theorem kw_9_10 : Cond.instanceMethod yX9_hold ∈ k_tbl := k_tbl_in (kr_9 _ (List.mem_of_getElem? (i := 10) rfl)) rfl
theorem kw_9_11 : Cond.selects RX9 yX9_hold yX9_hold ∈ k_tbl := k_tbl_in (kr_9 _ (List.mem_of_getElem? (i := 11) rfl)) rfl
theorem kw_9_12 : Cond.code yX9_hold cX9_hold 2 none ∈ k_tbl := k_tbl_in (kr_9 _ (List.mem_of_getElem? (i := 12) rfl)) rfl
theorem kw_9_13 : Cond.methodLink RX9 115 yX9_doPoints ∈ k_tbl := k_tbl_in (kr_9 _ (List.mem_of_getElem? (i := 13) rfl)) rfl
theorem kw_9_14 : Cond.instanceMethod yX9_doPoints ∈ k_tbl := k_tbl_in (kr_9 _ (List.mem_of_getElem? (i := 14) rfl)) rfl
theorem kw_9_15 : Cond.selects RX9 yX9_doPoints yX9_doPoints ∈ k_tbl := k_tbl_in (kr_9 _ (List.mem_of_getElem? (i := 15) rfl)) rfl
theorem kw_9_16 : Cond.code yX9_doPoints cX9_doPoints 3 (some .int) ∈ k_tbl := k_tbl_in (kr_9 _ (List.mem_of_getElem? (i := 16) rfl)) rfl
theorem kw_9_17 : Cond.fieldLink RX9 96 "RootedClassesModel" "isLaid" "Z" ∈ k_tbl := k_tbl_in (kr_9 _ (List.mem_of_getElem? (i := 17) rfl)) rfl
theorem kw_9_18 : Cond.methodLink RX9 100 yX9_in ∈ k_tbl := k_tbl_in (kr_9 _ (List.mem_of_getElem? (i := 18) rfl)) rfl
theorem kw_9_19 : Cond.static yX9_in ∈ k_tbl := k_tbl_in (kr_9 _ (List.mem_of_getElem? (i := 19) rfl)) rfl
theorem kw_9_20 : Cond.code yX9_in cX9_in 3 (some .boolean) ∈ k_tbl := k_tbl_in (kr_9 _ (List.mem_of_getElem? (i := 20) rfl)) rfl
theorem kw_9_21 : Cond.methodLink RX9 118 yX9_ends ∈ k_tbl := k_tbl_in (kr_9 _ (List.mem_of_getElem? (i := 21) rfl)) rfl
theorem kw_9_22 : Cond.instanceMethod yX9_ends ∈ k_tbl := k_tbl_in (kr_9 _ (List.mem_of_getElem? (i := 22) rfl)) rfl
theorem kw_9_23 : Cond.selects RX9 yX9_ends yX9_ends ∈ k_tbl := k_tbl_in (kr_9 _ (List.mem_of_getElem? (i := 23) rfl)) rfl
set_option maxRecDepth 20000 in
theorem kr_10 : ∀ w ∈ wsL_law_r10, w ∈ lw_tbl := k_mem [1006, 984, 986, 41, 987, 1007, 1009, 45, 1010, 862, 458, 459, 460, 461, 462, 463, 464, 465, 466, 468, 4, 469, 1011, 1012] (by decide +kernel)
theorem kw_10_0 : Cond.code yX9_ends cX9_ends 2 (some .int) ∈ k_tbl := k_tbl_in (kr_10 _ (List.mem_of_getElem? (i := 0) rfl)) rfl
theorem kw_10_1 : Cond.methodLink RX9 89 yX9_refuses ∈ k_tbl := k_tbl_in (kr_10 _ (List.mem_of_getElem? (i := 1) rfl)) rfl
theorem kw_10_2 : Cond.instanceMethod yX9_refuses ∈ k_tbl := k_tbl_in (kr_10 _ (List.mem_of_getElem? (i := 2) rfl)) rfl
theorem kw_10_3 : Cond.selects RX9 yX9_refuses yX9_refuses ∈ k_tbl := k_tbl_in (kr_10 _ (List.mem_of_getElem? (i := 3) rfl)) rfl
theorem kw_10_4 : Cond.code yX9_refuses cX9_refuses 2 (some .int) ∈ k_tbl := k_tbl_in (kr_10 _ (List.mem_of_getElem? (i := 4) rfl)) rfl
theorem kw_10_5 : Cond.methodLink RX9 93 yX9_push ∈ k_tbl := k_tbl_in (kr_10 _ (List.mem_of_getElem? (i := 5) rfl)) rfl
theorem kw_10_6 : Cond.instanceMethod yX9_push ∈ k_tbl := k_tbl_in (kr_10 _ (List.mem_of_getElem? (i := 6) rfl)) rfl
theorem kw_10_7 : Cond.selects RX9 yX9_push yX9_push ∈ k_tbl := k_tbl_in (kr_10 _ (List.mem_of_getElem? (i := 7) rfl)) rfl
theorem kw_10_8 : Cond.code yX9_push cX9_push 2 none ∈ k_tbl := k_tbl_in (kr_10 _ (List.mem_of_getElem? (i := 8) rfl)) rfl
theorem kw_10_9 : Cond.fieldLink RX9 85 "RootedClassesModel" "pasts" "I" ∈ k_tbl := k_tbl_in (kr_10 _ (List.mem_of_getElem? (i := 9) rfl)) rfl
theorem kw_10_10 : Cond.methodLink RL 18 yX8_moves ∈ k_tbl := k_tbl_in (kr_10 _ (List.mem_of_getElem? (i := 10) rfl)) rfl
theorem kw_10_11 : Cond.instanceMethod yX8_moves ∈ k_tbl := k_tbl_in (kr_10 _ (List.mem_of_getElem? (i := 11) rfl)) rfl
theorem kw_10_12 : Cond.selects RX8 yX8_moves yX8_moves ∈ k_tbl := k_tbl_in (kr_10 _ (List.mem_of_getElem? (i := 12) rfl)) rfl
theorem kw_10_13 : Cond.code yX8_moves cX8_moves 2 (some .int) ∈ k_tbl := k_tbl_in (kr_10 _ (List.mem_of_getElem? (i := 13) rfl)) rfl
theorem kw_10_14 : Cond.methodLink RX8 62 yX5_addGenerator ∈ k_tbl := k_tbl_in (kr_10 _ (List.mem_of_getElem? (i := 14) rfl)) rfl
theorem kw_10_15 : Cond.instanceMethod yX5_addGenerator ∈ k_tbl := k_tbl_in (kr_10 _ (List.mem_of_getElem? (i := 15) rfl)) rfl
theorem kw_10_16 : Cond.selects RX5 yX5_addGenerator yX5_addGenerator ∈ k_tbl := k_tbl_in (kr_10 _ (List.mem_of_getElem? (i := 16) rfl)) rfl
theorem kw_10_17 : Cond.code yX5_addGenerator cX5_addGenerator 2 (some .int) ∈ k_tbl := k_tbl_in (kr_10 _ (List.mem_of_getElem? (i := 17) rfl)) rfl
theorem kw_10_18 : Cond.methodLink RX5 22 yX5_isMove ∈ k_tbl := k_tbl_in (kr_10 _ (List.mem_of_getElem? (i := 18) rfl)) rfl
theorem kw_10_19 : Cond.instanceMethod yX5_isMove ∈ k_tbl := k_tbl_in (kr_10 _ (List.mem_of_getElem? (i := 19) rfl)) rfl
theorem kw_10_20 : Cond.selects RX5 yX5_isMove yX5_isMove ∈ k_tbl := k_tbl_in (kr_10 _ (List.mem_of_getElem? (i := 20) rfl)) rfl
theorem kw_10_21 : Cond.code yX5_isMove cX5_isMove 6 (some .boolean) ∈ k_tbl := k_tbl_in (kr_10 _ (List.mem_of_getElem? (i := 21) rfl)) rfl
theorem kw_10_22 : Cond.methodLink RL 21 yX9_moves ∈ k_tbl := k_tbl_in (kr_10 _ (List.mem_of_getElem? (i := 22) rfl)) rfl
theorem kw_10_23 : Cond.instanceMethod yX9_moves ∈ k_tbl := k_tbl_in (kr_10 _ (List.mem_of_getElem? (i := 23) rfl)) rfl
set_option maxRecDepth 20000 in
theorem kr_11 : ∀ w ∈ wsL_law_r11, w ∈ lw_tbl := k_mem [1013, 1014, 1015, 1017, 46, 1018, 1019, 1021, 47, 1022, 1023, 1025, 48, 1026, 470, 471, 472, 473, 474, 475, 476, 477, 1027, 1028] (by decide +kernel)
theorem kw_11_0 : Cond.selects RX9 yX9_moves yX9_moves ∈ k_tbl := k_tbl_in (kr_11 _ (List.mem_of_getElem? (i := 0) rfl)) rfl
theorem kw_11_1 : Cond.code yX9_moves cX9_moves 2 (some .int) ∈ k_tbl := k_tbl_in (kr_11 _ (List.mem_of_getElem? (i := 1) rfl)) rfl
theorem kw_11_2 : Cond.methodLink RX9 121 yX9_doMoves ∈ k_tbl := k_tbl_in (kr_11 _ (List.mem_of_getElem? (i := 2) rfl)) rfl
theorem kw_11_3 : Cond.instanceMethod yX9_doMoves ∈ k_tbl := k_tbl_in (kr_11 _ (List.mem_of_getElem? (i := 3) rfl)) rfl
theorem kw_11_4 : Cond.selects RX9 yX9_doMoves yX9_doMoves ∈ k_tbl := k_tbl_in (kr_11 _ (List.mem_of_getElem? (i := 4) rfl)) rfl
theorem kw_11_5 : Cond.code yX9_doMoves cX9_doMoves 2 (some .int) ∈ k_tbl := k_tbl_in (kr_11 _ (List.mem_of_getElem? (i := 5) rfl)) rfl
theorem kw_11_6 : Cond.methodLink RX9 108 yX9_isMove ∈ k_tbl := k_tbl_in (kr_11 _ (List.mem_of_getElem? (i := 6) rfl)) rfl
theorem kw_11_7 : Cond.instanceMethod yX9_isMove ∈ k_tbl := k_tbl_in (kr_11 _ (List.mem_of_getElem? (i := 7) rfl)) rfl
theorem kw_11_8 : Cond.selects RX9 yX9_isMove yX9_isMove ∈ k_tbl := k_tbl_in (kr_11 _ (List.mem_of_getElem? (i := 8) rfl)) rfl
theorem kw_11_9 : Cond.code yX9_isMove cX9_isMove 5 (some .boolean) ∈ k_tbl := k_tbl_in (kr_11 _ (List.mem_of_getElem? (i := 9) rfl)) rfl
theorem kw_11_10 : Cond.methodLink RX9 104 yX9_to ∈ k_tbl := k_tbl_in (kr_11 _ (List.mem_of_getElem? (i := 10) rfl)) rfl
theorem kw_11_11 : Cond.instanceMethod yX9_to ∈ k_tbl := k_tbl_in (kr_11 _ (List.mem_of_getElem? (i := 11) rfl)) rfl
theorem kw_11_12 : Cond.selects RX9 yX9_to yX9_to ∈ k_tbl := k_tbl_in (kr_11 _ (List.mem_of_getElem? (i := 12) rfl)) rfl
theorem kw_11_13 : Cond.code yX9_to cX9_to 5 (some .int) ∈ k_tbl := k_tbl_in (kr_11 _ (List.mem_of_getElem? (i := 13) rfl)) rfl
theorem kw_11_14 : Cond.methodLink RL 22 yX8_drops ∈ k_tbl := k_tbl_in (kr_11 _ (List.mem_of_getElem? (i := 14) rfl)) rfl
theorem kw_11_15 : Cond.instanceMethod yX8_drops ∈ k_tbl := k_tbl_in (kr_11 _ (List.mem_of_getElem? (i := 15) rfl)) rfl
theorem kw_11_16 : Cond.selects RX8 yX8_drops yX8_drops ∈ k_tbl := k_tbl_in (kr_11 _ (List.mem_of_getElem? (i := 16) rfl)) rfl
theorem kw_11_17 : Cond.code yX8_drops cX8_drops 2 (some .int) ∈ k_tbl := k_tbl_in (kr_11 _ (List.mem_of_getElem? (i := 17) rfl)) rfl
theorem kw_11_18 : Cond.methodLink RX8 65 yX5_dropGenerator ∈ k_tbl := k_tbl_in (kr_11 _ (List.mem_of_getElem? (i := 18) rfl)) rfl
theorem kw_11_19 : Cond.instanceMethod yX5_dropGenerator ∈ k_tbl := k_tbl_in (kr_11 _ (List.mem_of_getElem? (i := 19) rfl)) rfl
theorem kw_11_20 : Cond.selects RX5 yX5_dropGenerator yX5_dropGenerator ∈ k_tbl := k_tbl_in (kr_11 _ (List.mem_of_getElem? (i := 20) rfl)) rfl
theorem kw_11_21 : Cond.code yX5_dropGenerator cX5_dropGenerator 3 (some .int) ∈ k_tbl := k_tbl_in (kr_11 _ (List.mem_of_getElem? (i := 21) rfl)) rfl
theorem kw_11_22 : Cond.methodLink RL 25 yX9_drops ∈ k_tbl := k_tbl_in (kr_11 _ (List.mem_of_getElem? (i := 22) rfl)) rfl
theorem kw_11_23 : Cond.instanceMethod yX9_drops ∈ k_tbl := k_tbl_in (kr_11 _ (List.mem_of_getElem? (i := 23) rfl)) rfl
set_option maxRecDepth 20000 in
theorem kr_12 : ∀ w ∈ wsL_law_r12, w ∈ lw_tbl := k_mem [1029, 1030, 1031, 1033, 49, 1034, 479, 480, 481, 482, 483, 485, 5, 486, 487, 489, 6, 490, 366, 244, 368, 211, 251, 491] (by decide +kernel)
theorem kw_12_0 : Cond.selects RX9 yX9_drops yX9_drops ∈ k_tbl := k_tbl_in (kr_12 _ (List.mem_of_getElem? (i := 0) rfl)) rfl
theorem kw_12_1 : Cond.code yX9_drops cX9_drops 2 (some .int) ∈ k_tbl := k_tbl_in (kr_12 _ (List.mem_of_getElem? (i := 1) rfl)) rfl
theorem kw_12_2 : Cond.methodLink RX9 124 yX9_doDrops ∈ k_tbl := k_tbl_in (kr_12 _ (List.mem_of_getElem? (i := 2) rfl)) rfl
theorem kw_12_3 : Cond.instanceMethod yX9_doDrops ∈ k_tbl := k_tbl_in (kr_12 _ (List.mem_of_getElem? (i := 3) rfl)) rfl
theorem kw_12_4 : Cond.selects RX9 yX9_doDrops yX9_doDrops ∈ k_tbl := k_tbl_in (kr_12 _ (List.mem_of_getElem? (i := 4) rfl)) rfl
theorem kw_12_5 : Cond.code yX9_doDrops cX9_doDrops 3 (some .int) ∈ k_tbl := k_tbl_in (kr_12 _ (List.mem_of_getElem? (i := 5) rfl)) rfl
theorem kw_12_6 : Cond.methodLink RL 26 yX8_of ∈ k_tbl := k_tbl_in (kr_12 _ (List.mem_of_getElem? (i := 6) rfl)) rfl
theorem kw_12_7 : Cond.instanceMethod yX8_of ∈ k_tbl := k_tbl_in (kr_12 _ (List.mem_of_getElem? (i := 7) rfl)) rfl
theorem kw_12_8 : Cond.selects RX8 yX8_of yX8_of ∈ k_tbl := k_tbl_in (kr_12 _ (List.mem_of_getElem? (i := 8) rfl)) rfl
theorem kw_12_9 : Cond.code yX8_of cX8_of 2 (some .int) ∈ k_tbl := k_tbl_in (kr_12 _ (List.mem_of_getElem? (i := 9) rfl)) rfl
theorem kw_12_10 : Cond.methodLink RX8 75 yX8_learnRows ∈ k_tbl := k_tbl_in (kr_12 _ (List.mem_of_getElem? (i := 10) rfl)) rfl
theorem kw_12_11 : Cond.instanceMethod yX8_learnRows ∈ k_tbl := k_tbl_in (kr_12 _ (List.mem_of_getElem? (i := 11) rfl)) rfl
theorem kw_12_12 : Cond.selects RX8 yX8_learnRows yX8_learnRows ∈ k_tbl := k_tbl_in (kr_12 _ (List.mem_of_getElem? (i := 12) rfl)) rfl
theorem kw_12_13 : Cond.code yX8_learnRows cX8_learnRows 1 none ∈ k_tbl := k_tbl_in (kr_12 _ (List.mem_of_getElem? (i := 13) rfl)) rfl
theorem kw_12_14 : Cond.methodLink RX8 78 yX8_learnSorts ∈ k_tbl := k_tbl_in (kr_12 _ (List.mem_of_getElem? (i := 14) rfl)) rfl
theorem kw_12_15 : Cond.instanceMethod yX8_learnSorts ∈ k_tbl := k_tbl_in (kr_12 _ (List.mem_of_getElem? (i := 15) rfl)) rfl
theorem kw_12_16 : Cond.selects RX8 yX8_learnSorts yX8_learnSorts ∈ k_tbl := k_tbl_in (kr_12 _ (List.mem_of_getElem? (i := 16) rfl)) rfl
theorem kw_12_17 : Cond.code yX8_learnSorts cX8_learnSorts 1 none ∈ k_tbl := k_tbl_in (kr_12 _ (List.mem_of_getElem? (i := 17) rfl)) rfl
theorem kw_12_18 : Cond.fieldLink RX8 84 "RootedClasses$Rows" "sorts" "LRootedClasses$Sorts;" ∈ k_tbl := k_tbl_in (kr_12 _ (List.mem_of_getElem? (i := 18) rfl)) rfl
theorem kw_12_19 : Cond.fieldLink RX8 88 "RootedClasses$Sorts" "elements" "LRootedClasses$Elements;" ∈ k_tbl := k_tbl_in (kr_12 _ (List.mem_of_getElem? (i := 19) rfl)) rfl
theorem kw_12_20 : Cond.fieldLink RX8 210 "RootedClasses$Rows" "prime" "LRootedClasses$Prime;" ∈ k_tbl := k_tbl_in (kr_12 _ (List.mem_of_getElem? (i := 20) rfl)) rfl
theorem kw_12_21 : Cond.fieldLink RX8 94 "RootedClasses$Elements" "order" "I" ∈ k_tbl := k_tbl_in (kr_12 _ (List.mem_of_getElem? (i := 21) rfl)) rfl
theorem kw_12_22 : Cond.fieldLink RX8 214 "RootedClasses$Sorts" "exponent" "I" ∈ k_tbl := k_tbl_in (kr_12 _ (List.mem_of_getElem? (i := 22) rfl)) rfl
theorem kw_12_23 : Cond.methodLink RX8 201 yX0_build ∈ k_tbl := k_tbl_in (kr_12 _ (List.mem_of_getElem? (i := 23) rfl)) rfl
set_option maxRecDepth 20000 in
theorem kr_13 : ∀ w ∈ wsL_law_r13, w ∈ lw_tbl := k_mem [492, 493, 494, 119, 123, 126, 495, 497, 7, 498, 499, 501, 8, 502, 503, 504, 101, 505, 506, 508, 9, 509, 510, 512] (by decide +kernel)
theorem kw_13_0 : Cond.instanceMethod yX0_build ∈ k_tbl := k_tbl_in (kr_13 _ (List.mem_of_getElem? (i := 0) rfl)) rfl
theorem kw_13_1 : Cond.selects RX0 yX0_build yX0_build ∈ k_tbl := k_tbl_in (kr_13 _ (List.mem_of_getElem? (i := 1) rfl)) rfl
theorem kw_13_2 : Cond.code yX0_build cX0_build 3 none ∈ k_tbl := k_tbl_in (kr_13 _ (List.mem_of_getElem? (i := 2) rfl)) rfl
theorem kw_13_3 : Cond.fieldLink RX0 40 "RootedClasses$Setting" "points" "I" ∈ k_tbl := k_tbl_in (kr_13 _ (List.mem_of_getElem? (i := 3) rfl)) rfl
theorem kw_13_4 : Cond.fieldLink RX0 43 "RootedClasses$Setting" "count" "I" ∈ k_tbl := k_tbl_in (kr_13 _ (List.mem_of_getElem? (i := 4) rfl)) rfl
theorem kw_13_5 : Cond.fieldLink RX0 46 "RootedClasses$Setting" "codes" "[I" ∈ k_tbl := k_tbl_in (kr_13 _ (List.mem_of_getElem? (i := 5) rfl)) rfl
theorem kw_13_6 : Cond.methodLink RX0 47 yX0_spell ∈ k_tbl := k_tbl_in (kr_13 _ (List.mem_of_getElem? (i := 6) rfl)) rfl
theorem kw_13_7 : Cond.instanceMethod yX0_spell ∈ k_tbl := k_tbl_in (kr_13 _ (List.mem_of_getElem? (i := 7) rfl)) rfl
theorem kw_13_8 : Cond.selects RX0 yX0_spell yX0_spell ∈ k_tbl := k_tbl_in (kr_13 _ (List.mem_of_getElem? (i := 8) rfl)) rfl
theorem kw_13_9 : Cond.code yX0_spell cX0_spell 6 none ∈ k_tbl := k_tbl_in (kr_13 _ (List.mem_of_getElem? (i := 9) rfl)) rfl
theorem kw_13_10 : Cond.methodLink RX0 51 yX0_makeAll ∈ k_tbl := k_tbl_in (kr_13 _ (List.mem_of_getElem? (i := 10) rfl)) rfl
theorem kw_13_11 : Cond.instanceMethod yX0_makeAll ∈ k_tbl := k_tbl_in (kr_13 _ (List.mem_of_getElem? (i := 11) rfl)) rfl
theorem kw_13_12 : Cond.selects RX0 yX0_makeAll yX0_makeAll ∈ k_tbl := k_tbl_in (kr_13 _ (List.mem_of_getElem? (i := 12) rfl)) rfl
theorem kw_13_13 : Cond.code yX0_makeAll cX0_makeAll 5 none ∈ k_tbl := k_tbl_in (kr_13 _ (List.mem_of_getElem? (i := 13) rfl)) rfl
theorem kw_13_14 : Cond.methodLink RX0 65 yJ7_fill_53178 ∈ k_tbl := k_tbl_in (kr_13 _ (List.mem_of_getElem? (i := 14) rfl)) rfl
theorem kw_13_15 : Cond.static yJ7_fill_53178 ∈ k_tbl := k_tbl_in (kr_13 _ (List.mem_of_getElem? (i := 15) rfl)) rfl
theorem kw_13_16 : Cond.initialized RJ7 ∈ k_tbl := k_tbl_in (kr_13 _ (List.mem_of_getElem? (i := 16) rfl)) rfl
theorem kw_13_17 : Cond.code yJ7_fill_53178 cJ7_fill_53178 4 none ∈ k_tbl := k_tbl_in (kr_13 _ (List.mem_of_getElem? (i := 17) rfl)) rfl
theorem kw_13_18 : Cond.methodLink RX0 71 yX0_addMade ∈ k_tbl := k_tbl_in (kr_13 _ (List.mem_of_getElem? (i := 18) rfl)) rfl
theorem kw_13_19 : Cond.instanceMethod yX0_addMade ∈ k_tbl := k_tbl_in (kr_13 _ (List.mem_of_getElem? (i := 19) rfl)) rfl
theorem kw_13_20 : Cond.selects RX0 yX0_addMade yX0_addMade ∈ k_tbl := k_tbl_in (kr_13 _ (List.mem_of_getElem? (i := 20) rfl)) rfl
theorem kw_13_21 : Cond.code yX0_addMade cX0_addMade 4 none ∈ k_tbl := k_tbl_in (kr_13 _ (List.mem_of_getElem? (i := 21) rfl)) rfl
theorem kw_13_22 : Cond.methodLink RX0 74 yX0_keyOfMade ∈ k_tbl := k_tbl_in (kr_13 _ (List.mem_of_getElem? (i := 22) rfl)) rfl
theorem kw_13_23 : Cond.instanceMethod yX0_keyOfMade ∈ k_tbl := k_tbl_in (kr_13 _ (List.mem_of_getElem? (i := 23) rfl)) rfl
set_option maxRecDepth 20000 in
theorem kr_14 : ∀ w ∈ wsL_law_r14, w ∈ lw_tbl := k_mem [10, 513, 515, 517, 11, 518, 519, 521, 12, 522, 523, 525, 13, 526, 527, 528, 529, 530, 209, 531, 532, 534, 14, 535] (by decide +kernel)
theorem kw_14_0 : Cond.selects RX0 yX0_keyOfMade yX0_keyOfMade ∈ k_tbl := k_tbl_in (kr_14 _ (List.mem_of_getElem? (i := 0) rfl)) rfl
theorem kw_14_1 : Cond.code yX0_keyOfMade cX0_keyOfMade 3 (some .int) ∈ k_tbl := k_tbl_in (kr_14 _ (List.mem_of_getElem? (i := 1) rfl)) rfl
theorem kw_14_2 : Cond.methodLink RX0 55 yX0_putInOrder ∈ k_tbl := k_tbl_in (kr_14 _ (List.mem_of_getElem? (i := 2) rfl)) rfl
theorem kw_14_3 : Cond.instanceMethod yX0_putInOrder ∈ k_tbl := k_tbl_in (kr_14 _ (List.mem_of_getElem? (i := 3) rfl)) rfl
theorem kw_14_4 : Cond.selects RX0 yX0_putInOrder yX0_putInOrder ∈ k_tbl := k_tbl_in (kr_14 _ (List.mem_of_getElem? (i := 4) rfl)) rfl
theorem kw_14_5 : Cond.code yX0_putInOrder cX0_putInOrder 3 none ∈ k_tbl := k_tbl_in (kr_14 _ (List.mem_of_getElem? (i := 5) rfl)) rfl
theorem kw_14_6 : Cond.methodLink RX0 58 yX0_findInverses ∈ k_tbl := k_tbl_in (kr_14 _ (List.mem_of_getElem? (i := 6) rfl)) rfl
theorem kw_14_7 : Cond.instanceMethod yX0_findInverses ∈ k_tbl := k_tbl_in (kr_14 _ (List.mem_of_getElem? (i := 7) rfl)) rfl
theorem kw_14_8 : Cond.selects RX0 yX0_findInverses yX0_findInverses ∈ k_tbl := k_tbl_in (kr_14 _ (List.mem_of_getElem? (i := 8) rfl)) rfl
theorem kw_14_9 : Cond.code yX0_findInverses cX0_findInverses 3 none ∈ k_tbl := k_tbl_in (kr_14 _ (List.mem_of_getElem? (i := 9) rfl)) rfl
theorem kw_14_10 : Cond.methodLink RX0 61 yX0_placeOfMade ∈ k_tbl := k_tbl_in (kr_14 _ (List.mem_of_getElem? (i := 10) rfl)) rfl
theorem kw_14_11 : Cond.instanceMethod yX0_placeOfMade ∈ k_tbl := k_tbl_in (kr_14 _ (List.mem_of_getElem? (i := 11) rfl)) rfl
theorem kw_14_12 : Cond.selects RX0 yX0_placeOfMade yX0_placeOfMade ∈ k_tbl := k_tbl_in (kr_14 _ (List.mem_of_getElem? (i := 12) rfl)) rfl
theorem kw_14_13 : Cond.code yX0_placeOfMade cX0_placeOfMade 2 (some .int) ∈ k_tbl := k_tbl_in (kr_14 _ (List.mem_of_getElem? (i := 13) rfl)) rfl
theorem kw_14_14 : Cond.methodLink RX8 204 yX6_takeApart ∈ k_tbl := k_tbl_in (kr_14 _ (List.mem_of_getElem? (i := 14) rfl)) rfl
theorem kw_14_15 : Cond.instanceMethod yX6_takeApart ∈ k_tbl := k_tbl_in (kr_14 _ (List.mem_of_getElem? (i := 15) rfl)) rfl
theorem kw_14_16 : Cond.selects RX6 yX6_takeApart yX6_takeApart ∈ k_tbl := k_tbl_in (kr_14 _ (List.mem_of_getElem? (i := 16) rfl)) rfl
theorem kw_14_17 : Cond.code yX6_takeApart cX6_takeApart 2 none ∈ k_tbl := k_tbl_in (kr_14 _ (List.mem_of_getElem? (i := 17) rfl)) rfl
theorem kw_14_18 : Cond.fieldLink RX6 56 "RootedClasses$Elements" "order" "I" ∈ k_tbl := k_tbl_in (kr_14 _ (List.mem_of_getElem? (i := 18) rfl)) rfl
theorem kw_14_19 : Cond.methodLink RX6 50 yJ7_fill_53178 ∈ k_tbl := k_tbl_in (kr_14 _ (List.mem_of_getElem? (i := 19) rfl)) rfl
theorem kw_14_20 : Cond.methodLink RX6 59 yX6_gather ∈ k_tbl := k_tbl_in (kr_14 _ (List.mem_of_getElem? (i := 20) rfl)) rfl
theorem kw_14_21 : Cond.instanceMethod yX6_gather ∈ k_tbl := k_tbl_in (kr_14 _ (List.mem_of_getElem? (i := 21) rfl)) rfl
theorem kw_14_22 : Cond.selects RX6 yX6_gather yX6_gather ∈ k_tbl := k_tbl_in (kr_14 _ (List.mem_of_getElem? (i := 22) rfl)) rfl
theorem kw_14_23 : Cond.code yX6_gather cX6_gather 6 (some .int) ∈ k_tbl := k_tbl_in (kr_14 _ (List.mem_of_getElem? (i := 23) rfl)) rfl
set_option maxRecDepth 20000 in
theorem kr_15 : ∀ w ∈ wsL_law_r15, w ∈ lw_tbl := k_mem [536, 537, 538, 539, 540, 541, 542, 543, 215, 544, 545, 546, 547, 548, 550, 15, 551, 552, 553, 554, 555, 556, 557, 558] (by decide +kernel)
theorem kw_15_0 : Cond.methodLink RX6 77 yX0_movedBy ∈ k_tbl := k_tbl_in (kr_15 _ (List.mem_of_getElem? (i := 0) rfl)) rfl
theorem kw_15_1 : Cond.instanceMethod yX0_movedBy ∈ k_tbl := k_tbl_in (kr_15 _ (List.mem_of_getElem? (i := 1) rfl)) rfl
theorem kw_15_2 : Cond.selects RX0 yX0_movedBy yX0_movedBy ∈ k_tbl := k_tbl_in (kr_15 _ (List.mem_of_getElem? (i := 2) rfl)) rfl
theorem kw_15_3 : Cond.code yX0_movedBy cX0_movedBy 6 (some .int) ∈ k_tbl := k_tbl_in (kr_15 _ (List.mem_of_getElem? (i := 3) rfl)) rfl
theorem kw_15_4 : Cond.methodLink RX8 207 yX6_describe ∈ k_tbl := k_tbl_in (kr_15 _ (List.mem_of_getElem? (i := 4) rfl)) rfl
theorem kw_15_5 : Cond.instanceMethod yX6_describe ∈ k_tbl := k_tbl_in (kr_15 _ (List.mem_of_getElem? (i := 5) rfl)) rfl
theorem kw_15_6 : Cond.selects RX6 yX6_describe yX6_describe ∈ k_tbl := k_tbl_in (kr_15 _ (List.mem_of_getElem? (i := 6) rfl)) rfl
theorem kw_15_7 : Cond.code yX6_describe cX6_describe 2 none ∈ k_tbl := k_tbl_in (kr_15 _ (List.mem_of_getElem? (i := 7) rfl)) rfl
theorem kw_15_8 : Cond.fieldLink RX6 63 "RootedClasses$Elements" "inverses" "[I" ∈ k_tbl := k_tbl_in (kr_15 _ (List.mem_of_getElem? (i := 8) rfl)) rfl
theorem kw_15_9 : Cond.methodLink RX6 64 yX0_pointsLeft ∈ k_tbl := k_tbl_in (kr_15 _ (List.mem_of_getElem? (i := 9) rfl)) rfl
theorem kw_15_10 : Cond.instanceMethod yX0_pointsLeft ∈ k_tbl := k_tbl_in (kr_15 _ (List.mem_of_getElem? (i := 10) rfl)) rfl
theorem kw_15_11 : Cond.selects RX0 yX0_pointsLeft yX0_pointsLeft ∈ k_tbl := k_tbl_in (kr_15 _ (List.mem_of_getElem? (i := 11) rfl)) rfl
theorem kw_15_12 : Cond.code yX0_pointsLeft cX0_pointsLeft 4 (some .int) ∈ k_tbl := k_tbl_in (kr_15 _ (List.mem_of_getElem? (i := 12) rfl)) rfl
theorem kw_15_13 : Cond.methodLink RX6 67 yX6_findPowers ∈ k_tbl := k_tbl_in (kr_15 _ (List.mem_of_getElem? (i := 13) rfl)) rfl
theorem kw_15_14 : Cond.instanceMethod yX6_findPowers ∈ k_tbl := k_tbl_in (kr_15 _ (List.mem_of_getElem? (i := 14) rfl)) rfl
theorem kw_15_15 : Cond.selects RX6 yX6_findPowers yX6_findPowers ∈ k_tbl := k_tbl_in (kr_15 _ (List.mem_of_getElem? (i := 15) rfl)) rfl
theorem kw_15_16 : Cond.code yX6_findPowers cX6_findPowers 4 none ∈ k_tbl := k_tbl_in (kr_15 _ (List.mem_of_getElem? (i := 16) rfl)) rfl
theorem kw_15_17 : Cond.methodLink RX6 80 yX0_multiplied ∈ k_tbl := k_tbl_in (kr_15 _ (List.mem_of_getElem? (i := 17) rfl)) rfl
theorem kw_15_18 : Cond.instanceMethod yX0_multiplied ∈ k_tbl := k_tbl_in (kr_15 _ (List.mem_of_getElem? (i := 18) rfl)) rfl
theorem kw_15_19 : Cond.selects RX0 yX0_multiplied yX0_multiplied ∈ k_tbl := k_tbl_in (kr_15 _ (List.mem_of_getElem? (i := 19) rfl)) rfl
theorem kw_15_20 : Cond.code yX0_multiplied cX0_multiplied 4 (some .int) ∈ k_tbl := k_tbl_in (kr_15 _ (List.mem_of_getElem? (i := 20) rfl)) rfl
theorem kw_15_21 : Cond.methodLink RX6 71 yX6_leastShared ∈ k_tbl := k_tbl_in (kr_15 _ (List.mem_of_getElem? (i := 21) rfl)) rfl
theorem kw_15_22 : Cond.static yX6_leastShared ∈ k_tbl := k_tbl_in (kr_15 _ (List.mem_of_getElem? (i := 22) rfl)) rfl
theorem kw_15_23 : Cond.code yX6_leastShared cX6_leastShared 4 (some .int) ∈ k_tbl := k_tbl_in (kr_15 _ (List.mem_of_getElem? (i := 23) rfl)) rfl
set_option maxRecDepth 20000 in
theorem kr_16 : ∀ w ∈ wsL_law_r16, w ∈ lw_tbl := k_mem [559, 561, 16, 562, 563, 564, 565, 566, 567, 568, 569, 570, 571, 102, 572, 573, 574, 575, 576, 578, 17, 579, 580, 581] (by decide +kernel)
theorem kw_16_0 : Cond.methodLink RX6 74 yX6_countPairs ∈ k_tbl := k_tbl_in (kr_16 _ (List.mem_of_getElem? (i := 0) rfl)) rfl
theorem kw_16_1 : Cond.instanceMethod yX6_countPairs ∈ k_tbl := k_tbl_in (kr_16 _ (List.mem_of_getElem? (i := 1) rfl)) rfl
theorem kw_16_2 : Cond.selects RX6 yX6_countPairs yX6_countPairs ∈ k_tbl := k_tbl_in (kr_16 _ (List.mem_of_getElem? (i := 2) rfl)) rfl
theorem kw_16_3 : Cond.code yX6_countPairs cX6_countPairs 4 none ∈ k_tbl := k_tbl_in (kr_16 _ (List.mem_of_getElem? (i := 3) rfl)) rfl
theorem kw_16_4 : Cond.methodLink RX6 83 yX6_pairPlace ∈ k_tbl := k_tbl_in (kr_16 _ (List.mem_of_getElem? (i := 4) rfl)) rfl
theorem kw_16_5 : Cond.static yX6_pairPlace ∈ k_tbl := k_tbl_in (kr_16 _ (List.mem_of_getElem? (i := 5) rfl)) rfl
theorem kw_16_6 : Cond.code yX6_pairPlace cX6_pairPlace 3 (some .int) ∈ k_tbl := k_tbl_in (kr_16 _ (List.mem_of_getElem? (i := 6) rfl)) rfl
theorem kw_16_7 : Cond.methodLink RX8 217 yX2_choose ∈ k_tbl := k_tbl_in (kr_16 _ (List.mem_of_getElem? (i := 7) rfl)) rfl
theorem kw_16_8 : Cond.instanceMethod yX2_choose ∈ k_tbl := k_tbl_in (kr_16 _ (List.mem_of_getElem? (i := 8) rfl)) rfl
theorem kw_16_9 : Cond.selects RX2 yX2_choose yX2_choose ∈ k_tbl := k_tbl_in (kr_16 _ (List.mem_of_getElem? (i := 9) rfl)) rfl
theorem kw_16_10 : Cond.code yX2_choose cX2_choose 5 none ∈ k_tbl := k_tbl_in (kr_16 _ (List.mem_of_getElem? (i := 10) rfl)) rfl
theorem kw_16_11 : Cond.methodLink RX2 25 Lib.Math.max.name ∈ k_tbl := k_tbl_in (kr_16 _ (List.mem_of_getElem? (i := 11) rfl)) rfl
theorem kw_16_12 : Cond.static Lib.Math.max.name ∈ k_tbl := k_tbl_in (kr_16 _ (List.mem_of_getElem? (i := 12) rfl)) rfl
theorem kw_16_13 : Cond.initialized "java/lang/Math" ∈ k_tbl := k_tbl_in (kr_16 _ (List.mem_of_getElem? (i := 13) rfl)) rfl
theorem kw_16_14 : Cond.code Lib.Math.max.name Lib.Math.max.code 2 (some .int) ∈ k_tbl := k_tbl_in (kr_16 _ (List.mem_of_getElem? (i := 14) rfl)) rfl
theorem kw_16_15 : Cond.methodLink RX2 31 yX2_isPrime ∈ k_tbl := k_tbl_in (kr_16 _ (List.mem_of_getElem? (i := 15) rfl)) rfl
theorem kw_16_16 : Cond.static yX2_isPrime ∈ k_tbl := k_tbl_in (kr_16 _ (List.mem_of_getElem? (i := 16) rfl)) rfl
theorem kw_16_17 : Cond.code yX2_isPrime cX2_isPrime 2 (some .boolean) ∈ k_tbl := k_tbl_in (kr_16 _ (List.mem_of_getElem? (i := 17) rfl)) rfl
theorem kw_16_18 : Cond.methodLink RX2 35 yX2_findOver ∈ k_tbl := k_tbl_in (kr_16 _ (List.mem_of_getElem? (i := 18) rfl)) rfl
theorem kw_16_19 : Cond.instanceMethod yX2_findOver ∈ k_tbl := k_tbl_in (kr_16 _ (List.mem_of_getElem? (i := 19) rfl)) rfl
theorem kw_16_20 : Cond.selects RX2 yX2_findOver yX2_findOver ∈ k_tbl := k_tbl_in (kr_16 _ (List.mem_of_getElem? (i := 20) rfl)) rfl
theorem kw_16_21 : Cond.code yX2_findOver cX2_findOver 2 none ∈ k_tbl := k_tbl_in (kr_16 _ (List.mem_of_getElem? (i := 21) rfl)) rfl
theorem kw_16_22 : Cond.methodLink RX2 45 yX2_left ∈ k_tbl := k_tbl_in (kr_16 _ (List.mem_of_getElem? (i := 22) rfl)) rfl
theorem kw_16_23 : Cond.instanceMethod yX2_left ∈ k_tbl := k_tbl_in (kr_16 _ (List.mem_of_getElem? (i := 23) rfl)) rfl
set_option maxRecDepth 20000 in
theorem kr_17 : ∀ w ∈ wsL_law_r17, w ∈ lw_tbl := k_mem [582, 583, 584, 586, 18, 587, 588, 590, 19, 591, 592, 593, 594, 595, 247, 255, 596, 597, 598, 599, 246, 600, 602, 20] (by decide +kernel)
theorem kw_17_0 : Cond.selects RX2 yX2_left yX2_left ∈ k_tbl := k_tbl_in (kr_17 _ (List.mem_of_getElem? (i := 0) rfl)) rfl
theorem kw_17_1 : Cond.code yX2_left cX2_left 3 (some .int) ∈ k_tbl := k_tbl_in (kr_17 _ (List.mem_of_getElem? (i := 1) rfl)) rfl
theorem kw_17_2 : Cond.methodLink RX2 38 yX2_leastMaker ∈ k_tbl := k_tbl_in (kr_17 _ (List.mem_of_getElem? (i := 2) rfl)) rfl
theorem kw_17_3 : Cond.instanceMethod yX2_leastMaker ∈ k_tbl := k_tbl_in (kr_17 _ (List.mem_of_getElem? (i := 3) rfl)) rfl
theorem kw_17_4 : Cond.selects RX2 yX2_leastMaker yX2_leastMaker ∈ k_tbl := k_tbl_in (kr_17 _ (List.mem_of_getElem? (i := 4) rfl)) rfl
theorem kw_17_5 : Cond.code yX2_leastMaker cX2_leastMaker 4 (some .int) ∈ k_tbl := k_tbl_in (kr_17 _ (List.mem_of_getElem? (i := 5) rfl)) rfl
theorem kw_17_6 : Cond.methodLink RX2 42 yX2_powerOf ∈ k_tbl := k_tbl_in (kr_17 _ (List.mem_of_getElem? (i := 6) rfl)) rfl
theorem kw_17_7 : Cond.instanceMethod yX2_powerOf ∈ k_tbl := k_tbl_in (kr_17 _ (List.mem_of_getElem? (i := 7) rfl)) rfl
theorem kw_17_8 : Cond.selects RX2 yX2_powerOf yX2_powerOf ∈ k_tbl := k_tbl_in (kr_17 _ (List.mem_of_getElem? (i := 8) rfl)) rfl
theorem kw_17_9 : Cond.code yX2_powerOf cX2_powerOf 5 (some .int) ∈ k_tbl := k_tbl_in (kr_17 _ (List.mem_of_getElem? (i := 9) rfl)) rfl
theorem kw_17_10 : Cond.methodLink RX8 222 yX3_build ∈ k_tbl := k_tbl_in (kr_17 _ (List.mem_of_getElem? (i := 10) rfl)) rfl
theorem kw_17_11 : Cond.instanceMethod yX3_build ∈ k_tbl := k_tbl_in (kr_17 _ (List.mem_of_getElem? (i := 11) rfl)) rfl
theorem kw_17_12 : Cond.selects RX3 yX3_build yX3_build ∈ k_tbl := k_tbl_in (kr_17 _ (List.mem_of_getElem? (i := 12) rfl)) rfl
theorem kw_17_13 : Cond.code yX3_build cX3_build 3 none ∈ k_tbl := k_tbl_in (kr_17 _ (List.mem_of_getElem? (i := 13) rfl)) rfl
theorem kw_17_14 : Cond.fieldLink RX3 51 "RootedClasses$Sorts" "count" "I" ∈ k_tbl := k_tbl_in (kr_17 _ (List.mem_of_getElem? (i := 14) rfl)) rfl
theorem kw_17_15 : Cond.fieldLink RX3 64 "RootedClasses$Sorts" "sizes" "[I" ∈ k_tbl := k_tbl_in (kr_17 _ (List.mem_of_getElem? (i := 15) rfl)) rfl
theorem kw_17_16 : Cond.methodLink RX3 52 yX7_takeApart ∈ k_tbl := k_tbl_in (kr_17 _ (List.mem_of_getElem? (i := 16) rfl)) rfl
theorem kw_17_17 : Cond.instanceMethod yX7_takeApart ∈ k_tbl := k_tbl_in (kr_17 _ (List.mem_of_getElem? (i := 17) rfl)) rfl
theorem kw_17_18 : Cond.selects RX7 yX7_takeApart yX7_takeApart ∈ k_tbl := k_tbl_in (kr_17 _ (List.mem_of_getElem? (i := 18) rfl)) rfl
theorem kw_17_19 : Cond.code yX7_takeApart cX7_takeApart 5 none ∈ k_tbl := k_tbl_in (kr_17 _ (List.mem_of_getElem? (i := 19) rfl)) rfl
theorem kw_17_20 : Cond.fieldLink RX7 51 "RootedClasses$Sorts" "count" "I" ∈ k_tbl := k_tbl_in (kr_17 _ (List.mem_of_getElem? (i := 20) rfl)) rfl
theorem kw_17_21 : Cond.methodLink RX7 56 yX7_begin ∈ k_tbl := k_tbl_in (kr_17 _ (List.mem_of_getElem? (i := 21) rfl)) rfl
theorem kw_17_22 : Cond.instanceMethod yX7_begin ∈ k_tbl := k_tbl_in (kr_17 _ (List.mem_of_getElem? (i := 22) rfl)) rfl
theorem kw_17_23 : Cond.selects RX7 yX7_begin yX7_begin ∈ k_tbl := k_tbl_in (kr_17 _ (List.mem_of_getElem? (i := 23) rfl)) rfl
set_option maxRecDepth 20000 in
theorem kr_18 : ∀ w ∈ wsL_law_r18, w ∈ lw_tbl := k_mem [603, 604, 605, 607, 21, 608, 302, 609, 611, 22, 612, 613, 615, 614, 103, 616, 618, 23, 619, 307, 620, 621, 622, 623] (by decide +kernel)
theorem kw_18_0 : Cond.code yX7_begin cX7_begin 3 none ∈ k_tbl := k_tbl_in (kr_18 _ (List.mem_of_getElem? (i := 0) rfl)) rfl
theorem kw_18_1 : Cond.methodLink RX7 73 yJ7_fill_53178 ∈ k_tbl := k_tbl_in (kr_18 _ (List.mem_of_getElem? (i := 1) rfl)) rfl
theorem kw_18_2 : Cond.methodLink RX7 60 yX7_splitSpace ∈ k_tbl := k_tbl_in (kr_18 _ (List.mem_of_getElem? (i := 2) rfl)) rfl
theorem kw_18_3 : Cond.instanceMethod yX7_splitSpace ∈ k_tbl := k_tbl_in (kr_18 _ (List.mem_of_getElem? (i := 3) rfl)) rfl
theorem kw_18_4 : Cond.selects RX7 yX7_splitSpace yX7_splitSpace ∈ k_tbl := k_tbl_in (kr_18 _ (List.mem_of_getElem? (i := 4) rfl)) rfl
theorem kw_18_5 : Cond.code yX7_splitSpace cX7_splitSpace 10 none ∈ k_tbl := k_tbl_in (kr_18 _ (List.mem_of_getElem? (i := 5) rfl)) rfl
theorem kw_18_6 : Cond.fieldLink RX7 90 "RootedClasses$Prime" "p" "I" ∈ k_tbl := k_tbl_in (kr_18 _ (List.mem_of_getElem? (i := 6) rfl)) rfl
theorem kw_18_7 : Cond.methodLink RX7 79 yX7_keepLine ∈ k_tbl := k_tbl_in (kr_18 _ (List.mem_of_getElem? (i := 7) rfl)) rfl
theorem kw_18_8 : Cond.instanceMethod yX7_keepLine ∈ k_tbl := k_tbl_in (kr_18 _ (List.mem_of_getElem? (i := 8) rfl)) rfl
theorem kw_18_9 : Cond.selects RX7 yX7_keepLine yX7_keepLine ∈ k_tbl := k_tbl_in (kr_18 _ (List.mem_of_getElem? (i := 9) rfl)) rfl
theorem kw_18_10 : Cond.code yX7_keepLine cX7_keepLine 2 none ∈ k_tbl := k_tbl_in (kr_18 _ (List.mem_of_getElem? (i := 10) rfl)) rfl
theorem kw_18_11 : Cond.methodLink RX7 101 arraycopyName ∈ k_tbl := k_tbl_in (kr_18 _ (List.mem_of_getElem? (i := 11) rfl)) rfl
theorem kw_18_12 : Cond.native arraycopyName ∈ k_tbl := k_tbl_in (kr_18 _ (List.mem_of_getElem? (i := 12) rfl)) rfl
theorem kw_18_13 : Cond.static arraycopyName ∈ k_tbl := k_tbl_in (kr_18 _ (List.mem_of_getElem? (i := 13) rfl)) rfl
theorem kw_18_14 : Cond.initialized "java/lang/System" ∈ k_tbl := k_tbl_in (kr_18 _ (List.mem_of_getElem? (i := 14) rfl)) rfl
theorem kw_18_15 : Cond.methodLink RX7 82 yX7_reduce ∈ k_tbl := k_tbl_in (kr_18 _ (List.mem_of_getElem? (i := 15) rfl)) rfl
theorem kw_18_16 : Cond.instanceMethod yX7_reduce ∈ k_tbl := k_tbl_in (kr_18 _ (List.mem_of_getElem? (i := 16) rfl)) rfl
theorem kw_18_17 : Cond.selects RX7 yX7_reduce yX7_reduce ∈ k_tbl := k_tbl_in (kr_18 _ (List.mem_of_getElem? (i := 17) rfl)) rfl
theorem kw_18_18 : Cond.code yX7_reduce cX7_reduce 11 (some .int) ∈ k_tbl := k_tbl_in (kr_18 _ (List.mem_of_getElem? (i := 18) rfl)) rfl
theorem kw_18_19 : Cond.fieldLink RX7 126 "RootedClasses$Prime" "over" "[I" ∈ k_tbl := k_tbl_in (kr_18 _ (List.mem_of_getElem? (i := 19) rfl)) rfl
theorem kw_18_20 : Cond.methodLink RX7 122 yX7_lineWith ∈ k_tbl := k_tbl_in (kr_18 _ (List.mem_of_getElem? (i := 20) rfl)) rfl
theorem kw_18_21 : Cond.static yX7_lineWith ∈ k_tbl := k_tbl_in (kr_18 _ (List.mem_of_getElem? (i := 21) rfl)) rfl
theorem kw_18_22 : Cond.code yX7_lineWith cX7_lineWith 5 (some .int) ∈ k_tbl := k_tbl_in (kr_18 _ (List.mem_of_getElem? (i := 22) rfl)) rfl
theorem kw_18_23 : Cond.methodLink RX7 114 yX2_left ∈ k_tbl := k_tbl_in (kr_18 _ (List.mem_of_getElem? (i := 23) rfl)) rfl
set_option maxRecDepth 20000 in
theorem kr_19 : ∀ w ∈ wsL_law_r19, w ∈ lw_tbl := k_mem [624, 625, 626, 627, 628, 629, 630, 632, 24, 633, 268, 634, 635, 637, 25, 638, 639, 641, 26, 642, 643, 645, 27, 646] (by decide +kernel)
theorem kw_19_0 : Cond.methodLink RX7 129 yX7_scale ∈ k_tbl := k_tbl_in (kr_19 _ (List.mem_of_getElem? (i := 0) rfl)) rfl
theorem kw_19_1 : Cond.static yX7_scale ∈ k_tbl := k_tbl_in (kr_19 _ (List.mem_of_getElem? (i := 1) rfl)) rfl
theorem kw_19_2 : Cond.code yX7_scale cX7_scale 6 none ∈ k_tbl := k_tbl_in (kr_19 _ (List.mem_of_getElem? (i := 2) rfl)) rfl
theorem kw_19_3 : Cond.methodLink RX7 133 yX7_clearColumn ∈ k_tbl := k_tbl_in (kr_19 _ (List.mem_of_getElem? (i := 3) rfl)) rfl
theorem kw_19_4 : Cond.static yX7_clearColumn ∈ k_tbl := k_tbl_in (kr_19 _ (List.mem_of_getElem? (i := 4) rfl)) rfl
theorem kw_19_5 : Cond.code yX7_clearColumn cX7_clearColumn 7 none ∈ k_tbl := k_tbl_in (kr_19 _ (List.mem_of_getElem? (i := 5) rfl)) rfl
theorem kw_19_6 : Cond.methodLink RX7 86 yX7_fillAction ∈ k_tbl := k_tbl_in (kr_19 _ (List.mem_of_getElem? (i := 6) rfl)) rfl
theorem kw_19_7 : Cond.instanceMethod yX7_fillAction ∈ k_tbl := k_tbl_in (kr_19 _ (List.mem_of_getElem? (i := 7) rfl)) rfl
theorem kw_19_8 : Cond.selects RX7 yX7_fillAction yX7_fillAction ∈ k_tbl := k_tbl_in (kr_19 _ (List.mem_of_getElem? (i := 8) rfl)) rfl
theorem kw_19_9 : Cond.code yX7_fillAction cX7_fillAction 10 none ∈ k_tbl := k_tbl_in (kr_19 _ (List.mem_of_getElem? (i := 9) rfl)) rfl
theorem kw_19_10 : Cond.fieldLink RX7 107 "RootedClasses$Sorts" "pairs" "[I" ∈ k_tbl := k_tbl_in (kr_19 _ (List.mem_of_getElem? (i := 10) rfl)) rfl
theorem kw_19_11 : Cond.methodLink RX7 110 yX6_pairPlace ∈ k_tbl := k_tbl_in (kr_19 _ (List.mem_of_getElem? (i := 11) rfl)) rfl
theorem kw_19_12 : Cond.methodLink RX7 93 yX7_fillWork ∈ k_tbl := k_tbl_in (kr_19 _ (List.mem_of_getElem? (i := 12) rfl)) rfl
theorem kw_19_13 : Cond.instanceMethod yX7_fillWork ∈ k_tbl := k_tbl_in (kr_19 _ (List.mem_of_getElem? (i := 13) rfl)) rfl
theorem kw_19_14 : Cond.selects RX7 yX7_fillWork yX7_fillWork ∈ k_tbl := k_tbl_in (kr_19 _ (List.mem_of_getElem? (i := 14) rfl)) rfl
theorem kw_19_15 : Cond.code yX7_fillWork cX7_fillWork 6 none ∈ k_tbl := k_tbl_in (kr_19 _ (List.mem_of_getElem? (i := 15) rfl)) rfl
theorem kw_19_16 : Cond.methodLink RX7 97 yX7_addMixes ∈ k_tbl := k_tbl_in (kr_19 _ (List.mem_of_getElem? (i := 16) rfl)) rfl
theorem kw_19_17 : Cond.instanceMethod yX7_addMixes ∈ k_tbl := k_tbl_in (kr_19 _ (List.mem_of_getElem? (i := 17) rfl)) rfl
theorem kw_19_18 : Cond.selects RX7 yX7_addMixes yX7_addMixes ∈ k_tbl := k_tbl_in (kr_19 _ (List.mem_of_getElem? (i := 18) rfl)) rfl
theorem kw_19_19 : Cond.code yX7_addMixes cX7_addMixes 8 none ∈ k_tbl := k_tbl_in (kr_19 _ (List.mem_of_getElem? (i := 19) rfl)) rfl
theorem kw_19_20 : Cond.methodLink RX7 118 yX7_mixLines ∈ k_tbl := k_tbl_in (kr_19 _ (List.mem_of_getElem? (i := 20) rfl)) rfl
theorem kw_19_21 : Cond.instanceMethod yX7_mixLines ∈ k_tbl := k_tbl_in (kr_19 _ (List.mem_of_getElem? (i := 21) rfl)) rfl
theorem kw_19_22 : Cond.selects RX7 yX7_mixLines yX7_mixLines ∈ k_tbl := k_tbl_in (kr_19 _ (List.mem_of_getElem? (i := 22) rfl)) rfl
theorem kw_19_23 : Cond.code yX7_mixLines cX7_mixLines 8 none ∈ k_tbl := k_tbl_in (kr_19 _ (List.mem_of_getElem? (i := 23) rfl)) rfl
set_option maxRecDepth 20000 in
theorem kr_20 : ∀ w ∈ wsL_law_r20, w ∈ lw_tbl := k_mem [647, 649, 28, 650, 651, 652, 653, 654, 655, 656, 657, 658, 659, 661, 29, 662, 263, 243, 210, 663, 664, 665, 667, 30] (by decide +kernel)
theorem kw_20_0 : Cond.methodLink RX7 64 yX7_takeNext ∈ k_tbl := k_tbl_in (kr_20 _ (List.mem_of_getElem? (i := 0) rfl)) rfl
theorem kw_20_1 : Cond.instanceMethod yX7_takeNext ∈ k_tbl := k_tbl_in (kr_20 _ (List.mem_of_getElem? (i := 1) rfl)) rfl
theorem kw_20_2 : Cond.selects RX7 yX7_takeNext yX7_takeNext ∈ k_tbl := k_tbl_in (kr_20 _ (List.mem_of_getElem? (i := 2) rfl)) rfl
theorem kw_20_3 : Cond.code yX7_takeNext cX7_takeNext 3 none ∈ k_tbl := k_tbl_in (kr_20 _ (List.mem_of_getElem? (i := 3) rfl)) rfl
theorem kw_20_4 : Cond.methodLink RX3 56 yX7_copyLine ∈ k_tbl := k_tbl_in (kr_20 _ (List.mem_of_getElem? (i := 4) rfl)) rfl
theorem kw_20_5 : Cond.instanceMethod yX7_copyLine ∈ k_tbl := k_tbl_in (kr_20 _ (List.mem_of_getElem? (i := 5) rfl)) rfl
theorem kw_20_6 : Cond.selects RX7 yX7_copyLine yX7_copyLine ∈ k_tbl := k_tbl_in (kr_20 _ (List.mem_of_getElem? (i := 6) rfl)) rfl
theorem kw_20_7 : Cond.code yX7_copyLine cX7_copyLine 5 none ∈ k_tbl := k_tbl_in (kr_20 _ (List.mem_of_getElem? (i := 7) rfl)) rfl
theorem kw_20_8 : Cond.methodLink RX7 67 yX2_divided ∈ k_tbl := k_tbl_in (kr_20 _ (List.mem_of_getElem? (i := 8) rfl)) rfl
theorem kw_20_9 : Cond.instanceMethod yX2_divided ∈ k_tbl := k_tbl_in (kr_20 _ (List.mem_of_getElem? (i := 9) rfl)) rfl
theorem kw_20_10 : Cond.selects RX2 yX2_divided yX2_divided ∈ k_tbl := k_tbl_in (kr_20 _ (List.mem_of_getElem? (i := 10) rfl)) rfl
theorem kw_20_11 : Cond.code yX2_divided cX2_divided 3 (some .int) ∈ k_tbl := k_tbl_in (kr_20 _ (List.mem_of_getElem? (i := 11) rfl)) rfl
theorem kw_20_12 : Cond.methodLink RX3 60 yX3_degreeOf ∈ k_tbl := k_tbl_in (kr_20 _ (List.mem_of_getElem? (i := 12) rfl)) rfl
theorem kw_20_13 : Cond.instanceMethod yX3_degreeOf ∈ k_tbl := k_tbl_in (kr_20 _ (List.mem_of_getElem? (i := 13) rfl)) rfl
theorem kw_20_14 : Cond.selects RX3 yX3_degreeOf yX3_degreeOf ∈ k_tbl := k_tbl_in (kr_20 _ (List.mem_of_getElem? (i := 14) rfl)) rfl
theorem kw_20_15 : Cond.code yX3_degreeOf cX3_degreeOf 5 (some .int) ∈ k_tbl := k_tbl_in (kr_20 _ (List.mem_of_getElem? (i := 15) rfl)) rfl
theorem kw_20_16 : Cond.fieldLink RX3 103 "RootedClasses$Sorts" "inverses" "[I" ∈ k_tbl := k_tbl_in (kr_20 _ (List.mem_of_getElem? (i := 16) rfl)) rfl
theorem kw_20_17 : Cond.fieldLink RX3 91 "RootedClasses$Sorts" "elements" "LRootedClasses$Elements;" ∈ k_tbl := k_tbl_in (kr_20 _ (List.mem_of_getElem? (i := 17) rfl)) rfl
theorem kw_20_18 : Cond.fieldLink RX3 95 "RootedClasses$Elements" "order" "I" ∈ k_tbl := k_tbl_in (kr_20 _ (List.mem_of_getElem? (i := 18) rfl)) rfl
theorem kw_20_19 : Cond.methodLink RX3 67 yX2_divided ∈ k_tbl := k_tbl_in (kr_20 _ (List.mem_of_getElem? (i := 19) rfl)) rfl
theorem kw_20_20 : Cond.methodLink RX3 106 yX2_left ∈ k_tbl := k_tbl_in (kr_20 _ (List.mem_of_getElem? (i := 20) rfl)) rfl
theorem kw_20_21 : Cond.methodLink RX3 71 yX3_putInOrder ∈ k_tbl := k_tbl_in (kr_20 _ (List.mem_of_getElem? (i := 21) rfl)) rfl
theorem kw_20_22 : Cond.instanceMethod yX3_putInOrder ∈ k_tbl := k_tbl_in (kr_20 _ (List.mem_of_getElem? (i := 22) rfl)) rfl
theorem kw_20_23 : Cond.selects RX3 yX3_putInOrder yX3_putInOrder ∈ k_tbl := k_tbl_in (kr_20 _ (List.mem_of_getElem? (i := 23) rfl)) rfl
set_option maxRecDepth 20000 in
theorem kr_21 : ∀ w ∈ wsL_law_r21, w ∈ lw_tbl := k_mem [668, 669, 671, 31, 672, 673, 675, 32, 676, 677, 679, 33, 680, 681, 683, 34, 684, 248, 303, 305, 124, 685, 686, 687] (by decide +kernel)
theorem kw_21_0 : Cond.code yX3_putInOrder cX3_putInOrder 3 none ∈ k_tbl := k_tbl_in (kr_21 _ (List.mem_of_getElem? (i := 0) rfl)) rfl
theorem kw_21_1 : Cond.methodLink RX3 114 yX3_comesBefore ∈ k_tbl := k_tbl_in (kr_21 _ (List.mem_of_getElem? (i := 1) rfl)) rfl
theorem kw_21_2 : Cond.instanceMethod yX3_comesBefore ∈ k_tbl := k_tbl_in (kr_21 _ (List.mem_of_getElem? (i := 2) rfl)) rfl
theorem kw_21_3 : Cond.selects RX3 yX3_comesBefore yX3_comesBefore ∈ k_tbl := k_tbl_in (kr_21 _ (List.mem_of_getElem? (i := 3) rfl)) rfl
theorem kw_21_4 : Cond.code yX3_comesBefore cX3_comesBefore 4 (some .boolean) ∈ k_tbl := k_tbl_in (kr_21 _ (List.mem_of_getElem? (i := 4) rfl)) rfl
theorem kw_21_5 : Cond.methodLink RX3 110 yX3_differAt ∈ k_tbl := k_tbl_in (kr_21 _ (List.mem_of_getElem? (i := 5) rfl)) rfl
theorem kw_21_6 : Cond.instanceMethod yX3_differAt ∈ k_tbl := k_tbl_in (kr_21 _ (List.mem_of_getElem? (i := 6) rfl)) rfl
theorem kw_21_7 : Cond.selects RX3 yX3_differAt yX3_differAt ∈ k_tbl := k_tbl_in (kr_21 _ (List.mem_of_getElem? (i := 7) rfl)) rfl
theorem kw_21_8 : Cond.code yX3_differAt cX3_differAt 4 (some .int) ∈ k_tbl := k_tbl_in (kr_21 _ (List.mem_of_getElem? (i := 8) rfl)) rfl
theorem kw_21_9 : Cond.methodLink RX3 118 yX3_exchange ∈ k_tbl := k_tbl_in (kr_21 _ (List.mem_of_getElem? (i := 9) rfl)) rfl
theorem kw_21_10 : Cond.instanceMethod yX3_exchange ∈ k_tbl := k_tbl_in (kr_21 _ (List.mem_of_getElem? (i := 10) rfl)) rfl
theorem kw_21_11 : Cond.selects RX3 yX3_exchange yX3_exchange ∈ k_tbl := k_tbl_in (kr_21 _ (List.mem_of_getElem? (i := 11) rfl)) rfl
theorem kw_21_12 : Cond.code yX3_exchange cX3_exchange 5 none ∈ k_tbl := k_tbl_in (kr_21 _ (List.mem_of_getElem? (i := 12) rfl)) rfl
theorem kw_21_13 : Cond.methodLink RX8 81 yX8_wholeAnswer ∈ k_tbl := k_tbl_in (kr_21 _ (List.mem_of_getElem? (i := 13) rfl)) rfl
theorem kw_21_14 : Cond.instanceMethod yX8_wholeAnswer ∈ k_tbl := k_tbl_in (kr_21 _ (List.mem_of_getElem? (i := 14) rfl)) rfl
theorem kw_21_15 : Cond.selects RX8 yX8_wholeAnswer yX8_wholeAnswer ∈ k_tbl := k_tbl_in (kr_21 _ (List.mem_of_getElem? (i := 15) rfl)) rfl
theorem kw_21_16 : Cond.code yX8_wholeAnswer cX8_wholeAnswer 2 (some .int) ∈ k_tbl := k_tbl_in (kr_21 _ (List.mem_of_getElem? (i := 16) rfl)) rfl
theorem kw_21_17 : Cond.fieldLink RX8 116 "RootedClasses$Sorts" "count" "I" ∈ k_tbl := k_tbl_in (kr_21 _ (List.mem_of_getElem? (i := 17) rfl)) rfl
theorem kw_21_18 : Cond.fieldLink RX8 224 "RootedClasses$Prime" "p" "I" ∈ k_tbl := k_tbl_in (kr_21 _ (List.mem_of_getElem? (i := 18) rfl)) rfl
theorem kw_21_19 : Cond.fieldLink RX8 227 "RootedClasses$Prime" "root" "I" ∈ k_tbl := k_tbl_in (kr_21 _ (List.mem_of_getElem? (i := 19) rfl)) rfl
theorem kw_21_20 : Cond.fieldLink RX8 190 "RootedClasses$Setting" "count" "I" ∈ k_tbl := k_tbl_in (kr_21 _ (List.mem_of_getElem? (i := 20) rfl)) rfl
theorem kw_21_21 : Cond.methodLink RX8 230 yX6_countAlone ∈ k_tbl := k_tbl_in (kr_21 _ (List.mem_of_getElem? (i := 21) rfl)) rfl
theorem kw_21_22 : Cond.instanceMethod yX6_countAlone ∈ k_tbl := k_tbl_in (kr_21 _ (List.mem_of_getElem? (i := 22) rfl)) rfl
theorem kw_21_23 : Cond.selects RX6 yX6_countAlone yX6_countAlone ∈ k_tbl := k_tbl_in (kr_21 _ (List.mem_of_getElem? (i := 23) rfl)) rfl
set_option maxRecDepth 20000 in
theorem kr_22 : ∀ w ∈ wsL_law_r22, w ∈ lw_tbl := k_mem [688, 689, 690, 691, 692, 1035, 1036, 1037, 1038, 1039, 1041, 50, 1042, 865, 871, 874, 875, 876, 1043, 1045, 51, 1046, 1047, 1049] (by decide +kernel)
theorem kw_22_0 : Cond.code yX6_countAlone cX6_countAlone 3 (some .int) ∈ k_tbl := k_tbl_in (kr_22 _ (List.mem_of_getElem? (i := 0) rfl)) rfl
theorem kw_22_1 : Cond.methodLink RX8 233 yX3_countOfDegreeOne ∈ k_tbl := k_tbl_in (kr_22 _ (List.mem_of_getElem? (i := 1) rfl)) rfl
theorem kw_22_2 : Cond.instanceMethod yX3_countOfDegreeOne ∈ k_tbl := k_tbl_in (kr_22 _ (List.mem_of_getElem? (i := 2) rfl)) rfl
theorem kw_22_3 : Cond.selects RX3 yX3_countOfDegreeOne yX3_countOfDegreeOne ∈ k_tbl := k_tbl_in (kr_22 _ (List.mem_of_getElem? (i := 3) rfl)) rfl
theorem kw_22_4 : Cond.code yX3_countOfDegreeOne cX3_countOfDegreeOne 3 (some .int) ∈ k_tbl := k_tbl_in (kr_22 _ (List.mem_of_getElem? (i := 4) rfl)) rfl
theorem kw_22_5 : Cond.methodLink RL 29 yX9_of ∈ k_tbl := k_tbl_in (kr_22 _ (List.mem_of_getElem? (i := 5) rfl)) rfl
theorem kw_22_6 : Cond.instanceMethod yX9_of ∈ k_tbl := k_tbl_in (kr_22 _ (List.mem_of_getElem? (i := 6) rfl)) rfl
theorem kw_22_7 : Cond.selects RX9 yX9_of yX9_of ∈ k_tbl := k_tbl_in (kr_22 _ (List.mem_of_getElem? (i := 7) rfl)) rfl
theorem kw_22_8 : Cond.code yX9_of cX9_of 2 (some .int) ∈ k_tbl := k_tbl_in (kr_22 _ (List.mem_of_getElem? (i := 8) rfl)) rfl
theorem kw_22_9 : Cond.methodLink RX9 231 yX9_ofAll ∈ k_tbl := k_tbl_in (kr_22 _ (List.mem_of_getElem? (i := 9) rfl)) rfl
theorem kw_22_10 : Cond.instanceMethod yX9_ofAll ∈ k_tbl := k_tbl_in (kr_22 _ (List.mem_of_getElem? (i := 10) rfl)) rfl
theorem kw_22_11 : Cond.selects RX9 yX9_ofAll yX9_ofAll ∈ k_tbl := k_tbl_in (kr_22 _ (List.mem_of_getElem? (i := 11) rfl)) rfl
theorem kw_22_12 : Cond.code yX9_ofAll cX9_ofAll 4 (some .int) ∈ k_tbl := k_tbl_in (kr_22 _ (List.mem_of_getElem? (i := 12) rfl)) rfl
theorem kw_22_13 : Cond.fieldLink RX9 127 "RootedClassesModel" "order" "I" ∈ k_tbl := k_tbl_in (kr_22 _ (List.mem_of_getElem? (i := 13) rfl)) rfl
theorem kw_22_14 : Cond.fieldLink RX9 143 "RootedClassesModel" "sorts" "I" ∈ k_tbl := k_tbl_in (kr_22 _ (List.mem_of_getElem? (i := 14) rfl)) rfl
theorem kw_22_15 : Cond.fieldLink RX9 149 "RootedClassesModel" "exponent" "I" ∈ k_tbl := k_tbl_in (kr_22 _ (List.mem_of_getElem? (i := 15) rfl)) rfl
theorem kw_22_16 : Cond.fieldLink RX9 146 "RootedClassesModel" "prime" "I" ∈ k_tbl := k_tbl_in (kr_22 _ (List.mem_of_getElem? (i := 16) rfl)) rfl
theorem kw_22_17 : Cond.fieldLink RX9 164 "RootedClassesModel" "root" "I" ∈ k_tbl := k_tbl_in (kr_22 _ (List.mem_of_getElem? (i := 17) rfl)) rfl
theorem kw_22_18 : Cond.methodLink RX9 228 yX9_lay ∈ k_tbl := k_tbl_in (kr_22 _ (List.mem_of_getElem? (i := 18) rfl)) rfl
theorem kw_22_19 : Cond.instanceMethod yX9_lay ∈ k_tbl := k_tbl_in (kr_22 _ (List.mem_of_getElem? (i := 19) rfl)) rfl
theorem kw_22_20 : Cond.selects RX9 yX9_lay yX9_lay ∈ k_tbl := k_tbl_in (kr_22 _ (List.mem_of_getElem? (i := 20) rfl)) rfl
theorem kw_22_21 : Cond.code yX9_lay cX9_lay 1 none ∈ k_tbl := k_tbl_in (kr_22 _ (List.mem_of_getElem? (i := 21) rfl)) rfl
theorem kw_22_22 : Cond.methodLink RX9 167 yX9_findElements ∈ k_tbl := k_tbl_in (kr_22 _ (List.mem_of_getElem? (i := 22) rfl)) rfl
theorem kw_22_23 : Cond.instanceMethod yX9_findElements ∈ k_tbl := k_tbl_in (kr_22 _ (List.mem_of_getElem? (i := 23) rfl)) rfl
set_option maxRecDepth 20000 in
theorem kr_23 : ∀ w ∈ wsL_law_r23, w ∈ lw_tbl := k_mem [52, 1050, 1051, 1053, 53, 1054, 1055, 1057, 54, 1058, 1059, 1061, 55, 1062, 1063, 1065, 56, 1066, 1067, 1069, 57, 1070, 1071, 1073] (by decide +kernel)
theorem kw_23_0 : Cond.selects RX9 yX9_findElements yX9_findElements ∈ k_tbl := k_tbl_in (kr_23 _ (List.mem_of_getElem? (i := 0) rfl)) rfl
theorem kw_23_1 : Cond.code yX9_findElements cX9_findElements 4 none ∈ k_tbl := k_tbl_in (kr_23 _ (List.mem_of_getElem? (i := 1) rfl)) rfl
theorem kw_23_2 : Cond.methodLink RX9 130 yX9_stays ∈ k_tbl := k_tbl_in (kr_23 _ (List.mem_of_getElem? (i := 2) rfl)) rfl
theorem kw_23_3 : Cond.instanceMethod yX9_stays ∈ k_tbl := k_tbl_in (kr_23 _ (List.mem_of_getElem? (i := 3) rfl)) rfl
theorem kw_23_4 : Cond.selects RX9 yX9_stays yX9_stays ∈ k_tbl := k_tbl_in (kr_23 _ (List.mem_of_getElem? (i := 4) rfl)) rfl
theorem kw_23_5 : Cond.code yX9_stays cX9_stays 3 (some .int) ∈ k_tbl := k_tbl_in (kr_23 _ (List.mem_of_getElem? (i := 5) rfl)) rfl
theorem kw_23_6 : Cond.methodLink RX9 134 yX9_both ∈ k_tbl := k_tbl_in (kr_23 _ (List.mem_of_getElem? (i := 6) rfl)) rfl
theorem kw_23_7 : Cond.instanceMethod yX9_both ∈ k_tbl := k_tbl_in (kr_23 _ (List.mem_of_getElem? (i := 7) rfl)) rfl
theorem kw_23_8 : Cond.selects RX9 yX9_both yX9_both ∈ k_tbl := k_tbl_in (kr_23 _ (List.mem_of_getElem? (i := 8) rfl)) rfl
theorem kw_23_9 : Cond.code yX9_both cX9_both 5 (some .int) ∈ k_tbl := k_tbl_in (kr_23 _ (List.mem_of_getElem? (i := 9) rfl)) rfl
theorem kw_23_10 : Cond.methodLink RX9 137 yX9_find ∈ k_tbl := k_tbl_in (kr_23 _ (List.mem_of_getElem? (i := 10) rfl)) rfl
theorem kw_23_11 : Cond.instanceMethod yX9_find ∈ k_tbl := k_tbl_in (kr_23 _ (List.mem_of_getElem? (i := 11) rfl)) rfl
theorem kw_23_12 : Cond.selects RX9 yX9_find yX9_find ∈ k_tbl := k_tbl_in (kr_23 _ (List.mem_of_getElem? (i := 12) rfl)) rfl
theorem kw_23_13 : Cond.code yX9_find cX9_find 3 (some .int) ∈ k_tbl := k_tbl_in (kr_23 _ (List.mem_of_getElem? (i := 13) rfl)) rfl
theorem kw_23_14 : Cond.methodLink RX9 170 yX9_findTurns ∈ k_tbl := k_tbl_in (kr_23 _ (List.mem_of_getElem? (i := 14) rfl)) rfl
theorem kw_23_15 : Cond.instanceMethod yX9_findTurns ∈ k_tbl := k_tbl_in (kr_23 _ (List.mem_of_getElem? (i := 15) rfl)) rfl
theorem kw_23_16 : Cond.selects RX9 yX9_findTurns yX9_findTurns ∈ k_tbl := k_tbl_in (kr_23 _ (List.mem_of_getElem? (i := 16) rfl)) rfl
theorem kw_23_17 : Cond.code yX9_findTurns cX9_findTurns 5 none ∈ k_tbl := k_tbl_in (kr_23 _ (List.mem_of_getElem? (i := 17) rfl)) rfl
theorem kw_23_18 : Cond.methodLink RX9 140 yX9_then ∈ k_tbl := k_tbl_in (kr_23 _ (List.mem_of_getElem? (i := 18) rfl)) rfl
theorem kw_23_19 : Cond.instanceMethod yX9_then ∈ k_tbl := k_tbl_in (kr_23 _ (List.mem_of_getElem? (i := 19) rfl)) rfl
theorem kw_23_20 : Cond.selects RX9 yX9_then yX9_then ∈ k_tbl := k_tbl_in (kr_23 _ (List.mem_of_getElem? (i := 20) rfl)) rfl
theorem kw_23_21 : Cond.code yX9_then cX9_then 3 (some .int) ∈ k_tbl := k_tbl_in (kr_23 _ (List.mem_of_getElem? (i := 21) rfl)) rfl
theorem kw_23_22 : Cond.methodLink RX9 173 yX9_findSorts ∈ k_tbl := k_tbl_in (kr_23 _ (List.mem_of_getElem? (i := 22) rfl)) rfl
theorem kw_23_23 : Cond.instanceMethod yX9_findSorts ∈ k_tbl := k_tbl_in (kr_23 _ (List.mem_of_getElem? (i := 23) rfl)) rfl
set_option maxRecDepth 20000 in
theorem kr_24 : ∀ w ∈ wsL_law_r24, w ∈ lw_tbl := k_mem [58, 1074, 1075, 1077, 59, 1078, 1079, 1080, 1081, 1082, 1083, 1084, 1085, 1087, 60, 1088, 1089, 1091, 61, 1092, 1093, 1095, 62, 1096] (by decide +kernel)
theorem kw_24_0 : Cond.selects RX9 yX9_findSorts yX9_findSorts ∈ k_tbl := k_tbl_in (kr_24 _ (List.mem_of_getElem? (i := 0) rfl)) rfl
theorem kw_24_1 : Cond.code yX9_findSorts cX9_findSorts 4 none ∈ k_tbl := k_tbl_in (kr_24 _ (List.mem_of_getElem? (i := 1) rfl)) rfl
theorem kw_24_2 : Cond.methodLink RX9 176 yX9_findPrime ∈ k_tbl := k_tbl_in (kr_24 _ (List.mem_of_getElem? (i := 2) rfl)) rfl
theorem kw_24_3 : Cond.instanceMethod yX9_findPrime ∈ k_tbl := k_tbl_in (kr_24 _ (List.mem_of_getElem? (i := 3) rfl)) rfl
theorem kw_24_4 : Cond.selects RX9 yX9_findPrime yX9_findPrime ∈ k_tbl := k_tbl_in (kr_24 _ (List.mem_of_getElem? (i := 4) rfl)) rfl
theorem kw_24_5 : Cond.code yX9_findPrime cX9_findPrime 3 none ∈ k_tbl := k_tbl_in (kr_24 _ (List.mem_of_getElem? (i := 5) rfl)) rfl
theorem kw_24_6 : Cond.methodLink RX9 152 yX9_common ∈ k_tbl := k_tbl_in (kr_24 _ (List.mem_of_getElem? (i := 6) rfl)) rfl
theorem kw_24_7 : Cond.static yX9_common ∈ k_tbl := k_tbl_in (kr_24 _ (List.mem_of_getElem? (i := 7) rfl)) rfl
theorem kw_24_8 : Cond.code yX9_common cX9_common 5 (some .int) ∈ k_tbl := k_tbl_in (kr_24 _ (List.mem_of_getElem? (i := 8) rfl)) rfl
theorem kw_24_9 : Cond.methodLink RX9 155 yX9_isPrime ∈ k_tbl := k_tbl_in (kr_24 _ (List.mem_of_getElem? (i := 9) rfl)) rfl
theorem kw_24_10 : Cond.static yX9_isPrime ∈ k_tbl := k_tbl_in (kr_24 _ (List.mem_of_getElem? (i := 10) rfl)) rfl
theorem kw_24_11 : Cond.code yX9_isPrime cX9_isPrime 3 (some .boolean) ∈ k_tbl := k_tbl_in (kr_24 _ (List.mem_of_getElem? (i := 11) rfl)) rfl
theorem kw_24_12 : Cond.methodLink RX9 158 yX9_round ∈ k_tbl := k_tbl_in (kr_24 _ (List.mem_of_getElem? (i := 12) rfl)) rfl
theorem kw_24_13 : Cond.instanceMethod yX9_round ∈ k_tbl := k_tbl_in (kr_24 _ (List.mem_of_getElem? (i := 13) rfl)) rfl
theorem kw_24_14 : Cond.selects RX9 yX9_round yX9_round ∈ k_tbl := k_tbl_in (kr_24 _ (List.mem_of_getElem? (i := 14) rfl)) rfl
theorem kw_24_15 : Cond.code yX9_round cX9_round 4 (some .int) ∈ k_tbl := k_tbl_in (kr_24 _ (List.mem_of_getElem? (i := 15) rfl)) rfl
theorem kw_24_16 : Cond.methodLink RX9 161 yX9_power ∈ k_tbl := k_tbl_in (kr_24 _ (List.mem_of_getElem? (i := 16) rfl)) rfl
theorem kw_24_17 : Cond.instanceMethod yX9_power ∈ k_tbl := k_tbl_in (kr_24 _ (List.mem_of_getElem? (i := 17) rfl)) rfl
theorem kw_24_18 : Cond.selects RX9 yX9_power yX9_power ∈ k_tbl := k_tbl_in (kr_24 _ (List.mem_of_getElem? (i := 18) rfl)) rfl
theorem kw_24_19 : Cond.code yX9_power cX9_power 5 (some .int) ∈ k_tbl := k_tbl_in (kr_24 _ (List.mem_of_getElem? (i := 19) rfl)) rfl
theorem kw_24_20 : Cond.methodLink RX9 179 yX9_findTimes ∈ k_tbl := k_tbl_in (kr_24 _ (List.mem_of_getElem? (i := 20) rfl)) rfl
theorem kw_24_21 : Cond.instanceMethod yX9_findTimes ∈ k_tbl := k_tbl_in (kr_24 _ (List.mem_of_getElem? (i := 21) rfl)) rfl
theorem kw_24_22 : Cond.selects RX9 yX9_findTimes yX9_findTimes ∈ k_tbl := k_tbl_in (kr_24 _ (List.mem_of_getElem? (i := 22) rfl)) rfl
theorem kw_24_23 : Cond.code yX9_findTimes cX9_findTimes 4 none ∈ k_tbl := k_tbl_in (kr_24 _ (List.mem_of_getElem? (i := 23) rfl)) rfl
set_option maxRecDepth 20000 in
theorem kr_25 : ∀ w ∈ wsL_law_r25, w ∈ lw_tbl := k_mem [1097, 1099, 63, 1100, 878, 881, 1101, 1103, 64, 1104, 1105, 1107, 65, 1108, 1109, 1111, 66, 1112, 1113, 1115, 67, 1116, 1117, 1119] (by decide +kernel)
theorem kw_25_0 : Cond.methodLink RX9 182 yX9_findSpreads ∈ k_tbl := k_tbl_in (kr_25 _ (List.mem_of_getElem? (i := 0) rfl)) rfl
theorem kw_25_1 : Cond.instanceMethod yX9_findSpreads ∈ k_tbl := k_tbl_in (kr_25 _ (List.mem_of_getElem? (i := 1) rfl)) rfl
theorem kw_25_2 : Cond.selects RX9 yX9_findSpreads yX9_findSpreads ∈ k_tbl := k_tbl_in (kr_25 _ (List.mem_of_getElem? (i := 2) rfl)) rfl
theorem kw_25_3 : Cond.code yX9_findSpreads cX9_findSpreads 4 none ∈ k_tbl := k_tbl_in (kr_25 _ (List.mem_of_getElem? (i := 3) rfl)) rfl
theorem kw_25_4 : Cond.fieldLink RX9 209 "RootedClassesModel" "spaces" "I" ∈ k_tbl := k_tbl_in (kr_25 _ (List.mem_of_getElem? (i := 4) rfl)) rfl
theorem kw_25_5 : Cond.fieldLink RX9 206 "RootedClassesModel" "splits" "I" ∈ k_tbl := k_tbl_in (kr_25 _ (List.mem_of_getElem? (i := 5) rfl)) rfl
theorem kw_25_6 : Cond.methodLink RX9 212 yX9_split ∈ k_tbl := k_tbl_in (kr_25 _ (List.mem_of_getElem? (i := 6) rfl)) rfl
theorem kw_25_7 : Cond.instanceMethod yX9_split ∈ k_tbl := k_tbl_in (kr_25 _ (List.mem_of_getElem? (i := 7) rfl)) rfl
theorem kw_25_8 : Cond.selects RX9 yX9_split yX9_split ∈ k_tbl := k_tbl_in (kr_25 _ (List.mem_of_getElem? (i := 8) rfl)) rfl
theorem kw_25_9 : Cond.code yX9_split cX9_split 10 none ∈ k_tbl := k_tbl_in (kr_25 _ (List.mem_of_getElem? (i := 9) rfl)) rfl
theorem kw_25_10 : Cond.methodLink RX9 198 yX9_layGrid ∈ k_tbl := k_tbl_in (kr_25 _ (List.mem_of_getElem? (i := 10) rfl)) rfl
theorem kw_25_11 : Cond.instanceMethod yX9_layGrid ∈ k_tbl := k_tbl_in (kr_25 _ (List.mem_of_getElem? (i := 11) rfl)) rfl
theorem kw_25_12 : Cond.selects RX9 yX9_layGrid yX9_layGrid ∈ k_tbl := k_tbl_in (kr_25 _ (List.mem_of_getElem? (i := 12) rfl)) rfl
theorem kw_25_13 : Cond.code yX9_layGrid cX9_layGrid 9 none ∈ k_tbl := k_tbl_in (kr_25 _ (List.mem_of_getElem? (i := 13) rfl)) rfl
theorem kw_25_14 : Cond.methodLink RX9 188 yX9_over ∈ k_tbl := k_tbl_in (kr_25 _ (List.mem_of_getElem? (i := 14) rfl)) rfl
theorem kw_25_15 : Cond.instanceMethod yX9_over ∈ k_tbl := k_tbl_in (kr_25 _ (List.mem_of_getElem? (i := 15) rfl)) rfl
theorem kw_25_16 : Cond.selects RX9 yX9_over yX9_over ∈ k_tbl := k_tbl_in (kr_25 _ (List.mem_of_getElem? (i := 16) rfl)) rfl
theorem kw_25_17 : Cond.code yX9_over cX9_over 3 (some .int) ∈ k_tbl := k_tbl_in (kr_25 _ (List.mem_of_getElem? (i := 17) rfl)) rfl
theorem kw_25_18 : Cond.methodLink RX9 202 yX9_plain ∈ k_tbl := k_tbl_in (kr_25 _ (List.mem_of_getElem? (i := 18) rfl)) rfl
theorem kw_25_19 : Cond.instanceMethod yX9_plain ∈ k_tbl := k_tbl_in (kr_25 _ (List.mem_of_getElem? (i := 19) rfl)) rfl
theorem kw_25_20 : Cond.selects RX9 yX9_plain yX9_plain ∈ k_tbl := k_tbl_in (kr_25 _ (List.mem_of_getElem? (i := 20) rfl)) rfl
theorem kw_25_21 : Cond.code yX9_plain cX9_plain 5 none ∈ k_tbl := k_tbl_in (kr_25 _ (List.mem_of_getElem? (i := 21) rfl)) rfl
theorem kw_25_22 : Cond.methodLink RX9 191 yX9_leadBy ∈ k_tbl := k_tbl_in (kr_25 _ (List.mem_of_getElem? (i := 22) rfl)) rfl
theorem kw_25_23 : Cond.instanceMethod yX9_leadBy ∈ k_tbl := k_tbl_in (kr_25 _ (List.mem_of_getElem? (i := 23) rfl)) rfl
set_option maxRecDepth 20000 in
theorem kr_26 : ∀ w ∈ wsL_law_r26, w ∈ lw_tbl := k_mem [68, 1120, 1121, 1123, 69, 1124, 1125, 1127, 70, 1128, 1129, 1131, 71, 1132, 1133, 1135, 72, 1136, 1137, 1139, 73, 1140, 1141, 1143] (by decide +kernel)
theorem kw_26_0 : Cond.selects RX9 yX9_leadBy yX9_leadBy ∈ k_tbl := k_tbl_in (kr_26 _ (List.mem_of_getElem? (i := 0) rfl)) rfl
theorem kw_26_1 : Cond.code yX9_leadBy cX9_leadBy 9 none ∈ k_tbl := k_tbl_in (kr_26 _ (List.mem_of_getElem? (i := 1) rfl)) rfl
theorem kw_26_2 : Cond.methodLink RX9 195 yX9_by ∈ k_tbl := k_tbl_in (kr_26 _ (List.mem_of_getElem? (i := 2) rfl)) rfl
theorem kw_26_3 : Cond.instanceMethod yX9_by ∈ k_tbl := k_tbl_in (kr_26 _ (List.mem_of_getElem? (i := 3) rfl)) rfl
theorem kw_26_4 : Cond.selects RX9 yX9_by yX9_by ∈ k_tbl := k_tbl_in (kr_26 _ (List.mem_of_getElem? (i := 4) rfl)) rfl
theorem kw_26_5 : Cond.code yX9_by cX9_by 4 (some .int) ∈ k_tbl := k_tbl_in (kr_26 _ (List.mem_of_getElem? (i := 5) rfl)) rfl
theorem kw_26_6 : Cond.methodLink RX9 185 yX9_findRows ∈ k_tbl := k_tbl_in (kr_26 _ (List.mem_of_getElem? (i := 6) rfl)) rfl
theorem kw_26_7 : Cond.instanceMethod yX9_findRows ∈ k_tbl := k_tbl_in (kr_26 _ (List.mem_of_getElem? (i := 7) rfl)) rfl
theorem kw_26_8 : Cond.selects RX9 yX9_findRows yX9_findRows ∈ k_tbl := k_tbl_in (kr_26 _ (List.mem_of_getElem? (i := 8) rfl)) rfl
theorem kw_26_9 : Cond.code yX9_findRows cX9_findRows 3 none ∈ k_tbl := k_tbl_in (kr_26 _ (List.mem_of_getElem? (i := 9) rfl)) rfl
theorem kw_26_10 : Cond.methodLink RX9 218 yX9_degreeOf ∈ k_tbl := k_tbl_in (kr_26 _ (List.mem_of_getElem? (i := 10) rfl)) rfl
theorem kw_26_11 : Cond.instanceMethod yX9_degreeOf ∈ k_tbl := k_tbl_in (kr_26 _ (List.mem_of_getElem? (i := 11) rfl)) rfl
theorem kw_26_12 : Cond.selects RX9 yX9_degreeOf yX9_degreeOf ∈ k_tbl := k_tbl_in (kr_26 _ (List.mem_of_getElem? (i := 12) rfl)) rfl
theorem kw_26_13 : Cond.code yX9_degreeOf cX9_degreeOf 4 (some .int) ∈ k_tbl := k_tbl_in (kr_26 _ (List.mem_of_getElem? (i := 13) rfl)) rfl
theorem kw_26_14 : Cond.methodLink RX9 215 yX9_starOf ∈ k_tbl := k_tbl_in (kr_26 _ (List.mem_of_getElem? (i := 14) rfl)) rfl
theorem kw_26_15 : Cond.instanceMethod yX9_starOf ∈ k_tbl := k_tbl_in (kr_26 _ (List.mem_of_getElem? (i := 15) rfl)) rfl
theorem kw_26_16 : Cond.selects RX9 yX9_starOf yX9_starOf ∈ k_tbl := k_tbl_in (kr_26 _ (List.mem_of_getElem? (i := 16) rfl)) rfl
theorem kw_26_17 : Cond.code yX9_starOf cX9_starOf 2 (some .int) ∈ k_tbl := k_tbl_in (kr_26 _ (List.mem_of_getElem? (i := 17) rfl)) rfl
theorem kw_26_18 : Cond.methodLink RX9 221 yX9_isAhead ∈ k_tbl := k_tbl_in (kr_26 _ (List.mem_of_getElem? (i := 18) rfl)) rfl
theorem kw_26_19 : Cond.instanceMethod yX9_isAhead ∈ k_tbl := k_tbl_in (kr_26 _ (List.mem_of_getElem? (i := 19) rfl)) rfl
theorem kw_26_20 : Cond.selects RX9 yX9_isAhead yX9_isAhead ∈ k_tbl := k_tbl_in (kr_26 _ (List.mem_of_getElem? (i := 20) rfl)) rfl
theorem kw_26_21 : Cond.code yX9_isAhead cX9_isAhead 4 (some .boolean) ∈ k_tbl := k_tbl_in (kr_26 _ (List.mem_of_getElem? (i := 21) rfl)) rfl
theorem kw_26_22 : Cond.methodLink RX9 225 yX9_exchange ∈ k_tbl := k_tbl_in (kr_26 _ (List.mem_of_getElem? (i := 22) rfl)) rfl
theorem kw_26_23 : Cond.instanceMethod yX9_exchange ∈ k_tbl := k_tbl_in (kr_26 _ (List.mem_of_getElem? (i := 23) rfl)) rfl
set_option maxRecDepth 20000 in
theorem kr_27 : ∀ w ∈ wsL_law_r27, w ∈ lw_tbl := k_mem [74, 1144, 693, 694, 695, 696, 213, 253, 216, 259, 1145, 1146, 1147, 1148, 1149, 1151, 75, 1152, 697, 698, 699, 700, 701, 1153] (by decide +kernel)
theorem kw_27_0 : Cond.selects RX9 yX9_exchange yX9_exchange ∈ k_tbl := k_tbl_in (kr_27 _ (List.mem_of_getElem? (i := 0) rfl)) rfl
theorem kw_27_1 : Cond.code yX9_exchange cX9_exchange 6 none ∈ k_tbl := k_tbl_in (kr_27 _ (List.mem_of_getElem? (i := 1) rfl)) rfl
theorem kw_27_2 : Cond.methodLink RL 30 yX8_element ∈ k_tbl := k_tbl_in (kr_27 _ (List.mem_of_getElem? (i := 2) rfl)) rfl
theorem kw_27_3 : Cond.instanceMethod yX8_element ∈ k_tbl := k_tbl_in (kr_27 _ (List.mem_of_getElem? (i := 3) rfl)) rfl
theorem kw_27_4 : Cond.selects RX8 yX8_element yX8_element ∈ k_tbl := k_tbl_in (kr_27 _ (List.mem_of_getElem? (i := 4) rfl)) rfl
theorem kw_27_5 : Cond.code yX8_element cX8_element 4 (some .int) ∈ k_tbl := k_tbl_in (kr_27 _ (List.mem_of_getElem? (i := 5) rfl)) rfl
theorem kw_27_6 : Cond.fieldLink RX8 100 "RootedClasses$Elements" "codes" "[I" ∈ k_tbl := k_tbl_in (kr_27 _ (List.mem_of_getElem? (i := 6) rfl)) rfl
theorem kw_27_7 : Cond.fieldLink RX8 103 "RootedClasses$Sorts" "sortOf" "[I" ∈ k_tbl := k_tbl_in (kr_27 _ (List.mem_of_getElem? (i := 7) rfl)) rfl
theorem kw_27_8 : Cond.fieldLink RX8 106 "RootedClasses$Elements" "inverses" "[I" ∈ k_tbl := k_tbl_in (kr_27 _ (List.mem_of_getElem? (i := 8) rfl)) rfl
theorem kw_27_9 : Cond.fieldLink RX8 109 "RootedClasses$Sorts" "turns" "[I" ∈ k_tbl := k_tbl_in (kr_27 _ (List.mem_of_getElem? (i := 9) rfl)) rfl
theorem kw_27_10 : Cond.methodLink RL 34 yX9_element ∈ k_tbl := k_tbl_in (kr_27 _ (List.mem_of_getElem? (i := 10) rfl)) rfl
theorem kw_27_11 : Cond.instanceMethod yX9_element ∈ k_tbl := k_tbl_in (kr_27 _ (List.mem_of_getElem? (i := 11) rfl)) rfl
theorem kw_27_12 : Cond.selects RX9 yX9_element yX9_element ∈ k_tbl := k_tbl_in (kr_27 _ (List.mem_of_getElem? (i := 12) rfl)) rfl
theorem kw_27_13 : Cond.code yX9_element cX9_element 3 (some .int) ∈ k_tbl := k_tbl_in (kr_27 _ (List.mem_of_getElem? (i := 13) rfl)) rfl
theorem kw_27_14 : Cond.methodLink RX9 234 yX9_isElement ∈ k_tbl := k_tbl_in (kr_27 _ (List.mem_of_getElem? (i := 14) rfl)) rfl
theorem kw_27_15 : Cond.instanceMethod yX9_isElement ∈ k_tbl := k_tbl_in (kr_27 _ (List.mem_of_getElem? (i := 15) rfl)) rfl
theorem kw_27_16 : Cond.selects RX9 yX9_isElement yX9_isElement ∈ k_tbl := k_tbl_in (kr_27 _ (List.mem_of_getElem? (i := 16) rfl)) rfl
theorem kw_27_17 : Cond.code yX9_isElement cX9_isElement 2 (some .boolean) ∈ k_tbl := k_tbl_in (kr_27 _ (List.mem_of_getElem? (i := 17) rfl)) rfl
theorem kw_27_18 : Cond.methodLink RL 35 yX8_product ∈ k_tbl := k_tbl_in (kr_27 _ (List.mem_of_getElem? (i := 18) rfl)) rfl
theorem kw_27_19 : Cond.instanceMethod yX8_product ∈ k_tbl := k_tbl_in (kr_27 _ (List.mem_of_getElem? (i := 19) rfl)) rfl
theorem kw_27_20 : Cond.selects RX8 yX8_product yX8_product ∈ k_tbl := k_tbl_in (kr_27 _ (List.mem_of_getElem? (i := 20) rfl)) rfl
theorem kw_27_21 : Cond.code yX8_product cX8_product 4 (some .int) ∈ k_tbl := k_tbl_in (kr_27 _ (List.mem_of_getElem? (i := 21) rfl)) rfl
theorem kw_27_22 : Cond.methodLink RX8 112 yX0_multiplied ∈ k_tbl := k_tbl_in (kr_27 _ (List.mem_of_getElem? (i := 22) rfl)) rfl
theorem kw_27_23 : Cond.methodLink RL 38 yX9_product ∈ k_tbl := k_tbl_in (kr_27 _ (List.mem_of_getElem? (i := 23) rfl)) rfl
set_option maxRecDepth 20000 in
theorem kr_28 : ∀ w ∈ wsL_law_r28, w ∈ lw_tbl := k_mem [1154, 1155, 1156, 702, 703, 704, 705, 706, 708, 35, 709, 256, 261, 264, 266, 710, 711, 712, 713, 1157, 1158, 1159, 1160, 1161] (by decide +kernel)
theorem kw_28_0 : Cond.instanceMethod yX9_product ∈ k_tbl := k_tbl_in (kr_28 _ (List.mem_of_getElem? (i := 0) rfl)) rfl
theorem kw_28_1 : Cond.selects RX9 yX9_product yX9_product ∈ k_tbl := k_tbl_in (kr_28 _ (List.mem_of_getElem? (i := 1) rfl)) rfl
theorem kw_28_2 : Cond.code yX9_product cX9_product 3 (some .int) ∈ k_tbl := k_tbl_in (kr_28 _ (List.mem_of_getElem? (i := 2) rfl)) rfl
theorem kw_28_3 : Cond.methodLink RL 39 yX8_sort ∈ k_tbl := k_tbl_in (kr_28 _ (List.mem_of_getElem? (i := 3) rfl)) rfl
theorem kw_28_4 : Cond.instanceMethod yX8_sort ∈ k_tbl := k_tbl_in (kr_28 _ (List.mem_of_getElem? (i := 4) rfl)) rfl
theorem kw_28_5 : Cond.selects RX8 yX8_sort yX8_sort ∈ k_tbl := k_tbl_in (kr_28 _ (List.mem_of_getElem? (i := 5) rfl)) rfl
theorem kw_28_6 : Cond.code yX8_sort cX8_sort 3 (some .int) ∈ k_tbl := k_tbl_in (kr_28 _ (List.mem_of_getElem? (i := 6) rfl)) rfl
theorem kw_28_7 : Cond.methodLink RX8 119 yX8_sortAnswer ∈ k_tbl := k_tbl_in (kr_28 _ (List.mem_of_getElem? (i := 7) rfl)) rfl
theorem kw_28_8 : Cond.instanceMethod yX8_sortAnswer ∈ k_tbl := k_tbl_in (kr_28 _ (List.mem_of_getElem? (i := 8) rfl)) rfl
theorem kw_28_9 : Cond.selects RX8 yX8_sortAnswer yX8_sortAnswer ∈ k_tbl := k_tbl_in (kr_28 _ (List.mem_of_getElem? (i := 9) rfl)) rfl
theorem kw_28_10 : Cond.code yX8_sortAnswer cX8_sortAnswer 4 (some .int) ∈ k_tbl := k_tbl_in (kr_28 _ (List.mem_of_getElem? (i := 10) rfl)) rfl
theorem kw_28_11 : Cond.fieldLink RX8 236 "RootedClasses$Sorts" "sizes" "[I" ∈ k_tbl := k_tbl_in (kr_28 _ (List.mem_of_getElem? (i := 11) rfl)) rfl
theorem kw_28_12 : Cond.fieldLink RX8 239 "RootedClasses$Sorts" "leasts" "[I" ∈ k_tbl := k_tbl_in (kr_28 _ (List.mem_of_getElem? (i := 12) rfl)) rfl
theorem kw_28_13 : Cond.fieldLink RX8 242 "RootedClasses$Sorts" "inverses" "[I" ∈ k_tbl := k_tbl_in (kr_28 _ (List.mem_of_getElem? (i := 13) rfl)) rfl
theorem kw_28_14 : Cond.fieldLink RX8 159 "RootedClasses$Sorts" "pointsLeft" "[I" ∈ k_tbl := k_tbl_in (kr_28 _ (List.mem_of_getElem? (i := 14) rfl)) rfl
theorem kw_28_15 : Cond.methodLink RX8 243 yX6_powerSort ∈ k_tbl := k_tbl_in (kr_28 _ (List.mem_of_getElem? (i := 15) rfl)) rfl
theorem kw_28_16 : Cond.instanceMethod yX6_powerSort ∈ k_tbl := k_tbl_in (kr_28 _ (List.mem_of_getElem? (i := 16) rfl)) rfl
theorem kw_28_17 : Cond.selects RX6 yX6_powerSort yX6_powerSort ∈ k_tbl := k_tbl_in (kr_28 _ (List.mem_of_getElem? (i := 17) rfl)) rfl
theorem kw_28_18 : Cond.code yX6_powerSort cX6_powerSort 3 (some .int) ∈ k_tbl := k_tbl_in (kr_28 _ (List.mem_of_getElem? (i := 18) rfl)) rfl
theorem kw_28_19 : Cond.methodLink RL 42 yX9_sort ∈ k_tbl := k_tbl_in (kr_28 _ (List.mem_of_getElem? (i := 19) rfl)) rfl
theorem kw_28_20 : Cond.instanceMethod yX9_sort ∈ k_tbl := k_tbl_in (kr_28 _ (List.mem_of_getElem? (i := 20) rfl)) rfl
theorem kw_28_21 : Cond.selects RX9 yX9_sort yX9_sort ∈ k_tbl := k_tbl_in (kr_28 _ (List.mem_of_getElem? (i := 21) rfl)) rfl
theorem kw_28_22 : Cond.code yX9_sort cX9_sort 3 (some .int) ∈ k_tbl := k_tbl_in (kr_28 _ (List.mem_of_getElem? (i := 22) rfl)) rfl
theorem kw_28_23 : Cond.methodLink RX9 240 yX9_isSort ∈ k_tbl := k_tbl_in (kr_28 _ (List.mem_of_getElem? (i := 23) rfl)) rfl
set_option maxRecDepth 20000 in
theorem kr_29 : ∀ w ∈ wsL_law_r29, w ∈ lw_tbl := k_mem [1163, 76, 1164, 1165, 1167, 77, 1168, 1169, 1171, 78, 1172, 714, 715, 716, 717, 269, 718, 1173, 1174, 1175, 1176, 719, 720, 721] (by decide +kernel)
theorem kw_29_0 : Cond.instanceMethod yX9_isSort ∈ k_tbl := k_tbl_in (kr_29 _ (List.mem_of_getElem? (i := 0) rfl)) rfl
theorem kw_29_1 : Cond.selects RX9 yX9_isSort yX9_isSort ∈ k_tbl := k_tbl_in (kr_29 _ (List.mem_of_getElem? (i := 1) rfl)) rfl
theorem kw_29_2 : Cond.code yX9_isSort cX9_isSort 2 (some .boolean) ∈ k_tbl := k_tbl_in (kr_29 _ (List.mem_of_getElem? (i := 2) rfl)) rfl
theorem kw_29_3 : Cond.methodLink RX9 243 yX9_ofSort ∈ k_tbl := k_tbl_in (kr_29 _ (List.mem_of_getElem? (i := 3) rfl)) rfl
theorem kw_29_4 : Cond.instanceMethod yX9_ofSort ∈ k_tbl := k_tbl_in (kr_29 _ (List.mem_of_getElem? (i := 4) rfl)) rfl
theorem kw_29_5 : Cond.selects RX9 yX9_ofSort yX9_ofSort ∈ k_tbl := k_tbl_in (kr_29 _ (List.mem_of_getElem? (i := 5) rfl)) rfl
theorem kw_29_6 : Cond.code yX9_ofSort cX9_ofSort 3 (some .int) ∈ k_tbl := k_tbl_in (kr_29 _ (List.mem_of_getElem? (i := 6) rfl)) rfl
theorem kw_29_7 : Cond.methodLink RX9 237 yX9_left ∈ k_tbl := k_tbl_in (kr_29 _ (List.mem_of_getElem? (i := 7) rfl)) rfl
theorem kw_29_8 : Cond.instanceMethod yX9_left ∈ k_tbl := k_tbl_in (kr_29 _ (List.mem_of_getElem? (i := 8) rfl)) rfl
theorem kw_29_9 : Cond.selects RX9 yX9_left yX9_left ∈ k_tbl := k_tbl_in (kr_29 _ (List.mem_of_getElem? (i := 9) rfl)) rfl
theorem kw_29_10 : Cond.code yX9_left cX9_left 4 (some .int) ∈ k_tbl := k_tbl_in (kr_29 _ (List.mem_of_getElem? (i := 10) rfl)) rfl
theorem kw_29_11 : Cond.methodLink RL 43 yX8_times ∈ k_tbl := k_tbl_in (kr_29 _ (List.mem_of_getElem? (i := 11) rfl)) rfl
theorem kw_29_12 : Cond.instanceMethod yX8_times ∈ k_tbl := k_tbl_in (kr_29 _ (List.mem_of_getElem? (i := 12) rfl)) rfl
theorem kw_29_13 : Cond.selects RX8 yX8_times yX8_times ∈ k_tbl := k_tbl_in (kr_29 _ (List.mem_of_getElem? (i := 13) rfl)) rfl
theorem kw_29_14 : Cond.code yX8_times cX8_times 5 (some .int) ∈ k_tbl := k_tbl_in (kr_29 _ (List.mem_of_getElem? (i := 14) rfl)) rfl
theorem kw_29_15 : Cond.fieldLink RX8 122 "RootedClasses$Sorts" "pairs" "[I" ∈ k_tbl := k_tbl_in (kr_29 _ (List.mem_of_getElem? (i := 15) rfl)) rfl
theorem kw_29_16 : Cond.methodLink RX8 125 yX6_pairPlace ∈ k_tbl := k_tbl_in (kr_29 _ (List.mem_of_getElem? (i := 16) rfl)) rfl
theorem kw_29_17 : Cond.methodLink RL 47 yX9_times ∈ k_tbl := k_tbl_in (kr_29 _ (List.mem_of_getElem? (i := 17) rfl)) rfl
theorem kw_29_18 : Cond.instanceMethod yX9_times ∈ k_tbl := k_tbl_in (kr_29 _ (List.mem_of_getElem? (i := 18) rfl)) rfl
theorem kw_29_19 : Cond.selects RX9 yX9_times yX9_times ∈ k_tbl := k_tbl_in (kr_29 _ (List.mem_of_getElem? (i := 19) rfl)) rfl
theorem kw_29_20 : Cond.code yX9_times cX9_times 4 (some .int) ∈ k_tbl := k_tbl_in (kr_29 _ (List.mem_of_getElem? (i := 20) rfl)) rfl
theorem kw_29_21 : Cond.methodLink RL 48 yX8_degree ∈ k_tbl := k_tbl_in (kr_29 _ (List.mem_of_getElem? (i := 21) rfl)) rfl
theorem kw_29_22 : Cond.instanceMethod yX8_degree ∈ k_tbl := k_tbl_in (kr_29 _ (List.mem_of_getElem? (i := 22) rfl)) rfl
theorem kw_29_23 : Cond.selects RX8 yX8_degree yX8_degree ∈ k_tbl := k_tbl_in (kr_29 _ (List.mem_of_getElem? (i := 23) rfl)) rfl
set_option maxRecDepth 20000 in
theorem kr_30 : ∀ w ∈ wsL_law_r30, w ∈ lw_tbl := k_mem [722, 370, 372, 1177, 1178, 1179, 1180, 723, 724, 725, 726, 376, 1181, 1182, 1183, 1184, 727, 728, 729, 730, 374, 1185, 1186, 1187] (by decide +kernel)
theorem kw_30_0 : Cond.code yX8_degree cX8_degree 2 (some .int) ∈ k_tbl := k_tbl_in (kr_30 _ (List.mem_of_getElem? (i := 0) rfl)) rfl
theorem kw_30_1 : Cond.fieldLink RX8 129 "RootedClasses$Rows" "count" "I" ∈ k_tbl := k_tbl_in (kr_30 _ (List.mem_of_getElem? (i := 1) rfl)) rfl
theorem kw_30_2 : Cond.fieldLink RX8 130 "RootedClasses$Rows" "degrees" "[I" ∈ k_tbl := k_tbl_in (kr_30 _ (List.mem_of_getElem? (i := 2) rfl)) rfl
theorem kw_30_3 : Cond.methodLink RL 51 yX9_degree ∈ k_tbl := k_tbl_in (kr_30 _ (List.mem_of_getElem? (i := 3) rfl)) rfl
theorem kw_30_4 : Cond.instanceMethod yX9_degree ∈ k_tbl := k_tbl_in (kr_30 _ (List.mem_of_getElem? (i := 4) rfl)) rfl
theorem kw_30_5 : Cond.selects RX9 yX9_degree yX9_degree ∈ k_tbl := k_tbl_in (kr_30 _ (List.mem_of_getElem? (i := 5) rfl)) rfl
theorem kw_30_6 : Cond.code yX9_degree cX9_degree 2 (some .int) ∈ k_tbl := k_tbl_in (kr_30 _ (List.mem_of_getElem? (i := 6) rfl)) rfl
theorem kw_30_7 : Cond.methodLink RL 52 yX8_value ∈ k_tbl := k_tbl_in (kr_30 _ (List.mem_of_getElem? (i := 7) rfl)) rfl
theorem kw_30_8 : Cond.instanceMethod yX8_value ∈ k_tbl := k_tbl_in (kr_30 _ (List.mem_of_getElem? (i := 8) rfl)) rfl
theorem kw_30_9 : Cond.selects RX8 yX8_value yX8_value ∈ k_tbl := k_tbl_in (kr_30 _ (List.mem_of_getElem? (i := 9) rfl)) rfl
theorem kw_30_10 : Cond.code yX8_value cX8_value 3 (some .int) ∈ k_tbl := k_tbl_in (kr_30 _ (List.mem_of_getElem? (i := 10) rfl)) rfl
theorem kw_30_11 : Cond.fieldLink RX8 133 "RootedClasses$Rows" "values" "[[I" ∈ k_tbl := k_tbl_in (kr_30 _ (List.mem_of_getElem? (i := 11) rfl)) rfl
theorem kw_30_12 : Cond.methodLink RL 55 yX9_value ∈ k_tbl := k_tbl_in (kr_30 _ (List.mem_of_getElem? (i := 12) rfl)) rfl
theorem kw_30_13 : Cond.instanceMethod yX9_value ∈ k_tbl := k_tbl_in (kr_30 _ (List.mem_of_getElem? (i := 13) rfl)) rfl
theorem kw_30_14 : Cond.selects RX9 yX9_value yX9_value ∈ k_tbl := k_tbl_in (kr_30 _ (List.mem_of_getElem? (i := 14) rfl)) rfl
theorem kw_30_15 : Cond.code yX9_value cX9_value 3 (some .int) ∈ k_tbl := k_tbl_in (kr_30 _ (List.mem_of_getElem? (i := 15) rfl)) rfl
theorem kw_30_16 : Cond.methodLink RL 56 yX8_spread ∈ k_tbl := k_tbl_in (kr_30 _ (List.mem_of_getElem? (i := 16) rfl)) rfl
theorem kw_30_17 : Cond.instanceMethod yX8_spread ∈ k_tbl := k_tbl_in (kr_30 _ (List.mem_of_getElem? (i := 17) rfl)) rfl
theorem kw_30_18 : Cond.selects RX8 yX8_spread yX8_spread ∈ k_tbl := k_tbl_in (kr_30 _ (List.mem_of_getElem? (i := 18) rfl)) rfl
theorem kw_30_19 : Cond.code yX8_spread cX8_spread 3 (some .int) ∈ k_tbl := k_tbl_in (kr_30 _ (List.mem_of_getElem? (i := 19) rfl)) rfl
theorem kw_30_20 : Cond.fieldLink RX8 137 "RootedClasses$Rows" "spreads" "[[I" ∈ k_tbl := k_tbl_in (kr_30 _ (List.mem_of_getElem? (i := 20) rfl)) rfl
theorem kw_30_21 : Cond.methodLink RL 59 yX9_spread ∈ k_tbl := k_tbl_in (kr_30 _ (List.mem_of_getElem? (i := 21) rfl)) rfl
theorem kw_30_22 : Cond.instanceMethod yX9_spread ∈ k_tbl := k_tbl_in (kr_30 _ (List.mem_of_getElem? (i := 22) rfl)) rfl
theorem kw_30_23 : Cond.selects RX9 yX9_spread yX9_spread ∈ k_tbl := k_tbl_in (kr_30 _ (List.mem_of_getElem? (i := 23) rfl)) rfl
set_option maxRecDepth 20000 in
theorem kr_31 : ∀ w ∈ wsL_law_r31, w ∈ lw_tbl := k_mem [1188, 731, 732, 733, 734, 735, 736, 737, 738, 258, 250, 309, 739, 740, 102, 741, 742, 1189, 1190, 1191, 1192, 743, 744, 745] (by decide +kernel)
theorem kw_31_0 : Cond.code yX9_spread cX9_spread 3 (some .int) ∈ k_tbl := k_tbl_in (kr_31 _ (List.mem_of_getElem? (i := 0) rfl)) rfl
theorem kw_31_1 : Cond.methodLink RL 60 yX8_part ∈ k_tbl := k_tbl_in (kr_31 _ (List.mem_of_getElem? (i := 1) rfl)) rfl
theorem kw_31_2 : Cond.instanceMethod yX8_part ∈ k_tbl := k_tbl_in (kr_31 _ (List.mem_of_getElem? (i := 2) rfl)) rfl
theorem kw_31_3 : Cond.selects RX8 yX8_part yX8_part ∈ k_tbl := k_tbl_in (kr_31 _ (List.mem_of_getElem? (i := 3) rfl)) rfl
theorem kw_31_4 : Cond.code yX8_part cX8_part 4 (some .int) ∈ k_tbl := k_tbl_in (kr_31 _ (List.mem_of_getElem? (i := 4) rfl)) rfl
theorem kw_31_5 : Cond.methodLink RX8 140 yX3_rootCount ∈ k_tbl := k_tbl_in (kr_31 _ (List.mem_of_getElem? (i := 5) rfl)) rfl
theorem kw_31_6 : Cond.instanceMethod yX3_rootCount ∈ k_tbl := k_tbl_in (kr_31 _ (List.mem_of_getElem? (i := 6) rfl)) rfl
theorem kw_31_7 : Cond.selects RX3 yX3_rootCount yX3_rootCount ∈ k_tbl := k_tbl_in (kr_31 _ (List.mem_of_getElem? (i := 7) rfl)) rfl
theorem kw_31_8 : Cond.code yX3_rootCount cX3_rootCount 9 (some .int) ∈ k_tbl := k_tbl_in (kr_31 _ (List.mem_of_getElem? (i := 8) rfl)) rfl
theorem kw_31_9 : Cond.fieldLink RX3 74 "RootedClasses$Sorts" "turns" "[I" ∈ k_tbl := k_tbl_in (kr_31 _ (List.mem_of_getElem? (i := 9) rfl)) rfl
theorem kw_31_10 : Cond.fieldLink RX3 77 "RootedClasses$Sorts" "exponent" "I" ∈ k_tbl := k_tbl_in (kr_31 _ (List.mem_of_getElem? (i := 10) rfl)) rfl
theorem kw_31_11 : Cond.fieldLink RX3 88 "RootedClasses$Prime" "rootPowers" "[I" ∈ k_tbl := k_tbl_in (kr_31 _ (List.mem_of_getElem? (i := 11) rfl)) rfl
theorem kw_31_12 : Cond.methodLink RX3 80 yJ9_floorMod_7cf53 ∈ k_tbl := k_tbl_in (kr_31 _ (List.mem_of_getElem? (i := 12) rfl)) rfl
theorem kw_31_13 : Cond.static yJ9_floorMod_7cf53 ∈ k_tbl := k_tbl_in (kr_31 _ (List.mem_of_getElem? (i := 13) rfl)) rfl
theorem kw_31_14 : Cond.initialized RJ9 ∈ k_tbl := k_tbl_in (kr_31 _ (List.mem_of_getElem? (i := 14) rfl)) rfl
theorem kw_31_15 : Cond.code yJ9_floorMod_7cf53 cJ9_floorMod_7cf53 3 (some .int) ∈ k_tbl := k_tbl_in (kr_31 _ (List.mem_of_getElem? (i := 15) rfl)) rfl
theorem kw_31_16 : Cond.methodLink RX3 85 yX6_powerSort ∈ k_tbl := k_tbl_in (kr_31 _ (List.mem_of_getElem? (i := 16) rfl)) rfl
theorem kw_31_17 : Cond.methodLink RL 63 yX9_part ∈ k_tbl := k_tbl_in (kr_31 _ (List.mem_of_getElem? (i := 17) rfl)) rfl
theorem kw_31_18 : Cond.instanceMethod yX9_part ∈ k_tbl := k_tbl_in (kr_31 _ (List.mem_of_getElem? (i := 18) rfl)) rfl
theorem kw_31_19 : Cond.selects RX9 yX9_part yX9_part ∈ k_tbl := k_tbl_in (kr_31 _ (List.mem_of_getElem? (i := 19) rfl)) rfl
theorem kw_31_20 : Cond.code yX9_part cX9_part 9 (some .int) ∈ k_tbl := k_tbl_in (kr_31 _ (List.mem_of_getElem? (i := 20) rfl)) rfl
theorem kw_31_21 : Cond.methodLink RL 64 yX8_mirror ∈ k_tbl := k_tbl_in (kr_31 _ (List.mem_of_getElem? (i := 21) rfl)) rfl
theorem kw_31_22 : Cond.instanceMethod yX8_mirror ∈ k_tbl := k_tbl_in (kr_31 _ (List.mem_of_getElem? (i := 22) rfl)) rfl
theorem kw_31_23 : Cond.selects RX8 yX8_mirror yX8_mirror ∈ k_tbl := k_tbl_in (kr_31 _ (List.mem_of_getElem? (i := 23) rfl)) rfl
set_option maxRecDepth 20000 in
theorem kr_32 : ∀ w ∈ wsL_law_r32, w ∈ lw_tbl := k_mem [746, 747, 748, 749, 750, 301, 1193, 1194, 1195, 1196, 1197, 1199, 79, 1200, 751, 752, 753, 754, 755, 756, 757, 758, 1201, 1202] (by decide +kernel)
theorem kw_32_0 : Cond.code yX8_mirror cX8_mirror 2 (some .int) ∈ k_tbl := k_tbl_in (kr_32 _ (List.mem_of_getElem? (i := 0) rfl)) rfl
theorem kw_32_1 : Cond.methodLink RX8 143 yX3_mirrorSign ∈ k_tbl := k_tbl_in (kr_32 _ (List.mem_of_getElem? (i := 1) rfl)) rfl
theorem kw_32_2 : Cond.instanceMethod yX3_mirrorSign ∈ k_tbl := k_tbl_in (kr_32 _ (List.mem_of_getElem? (i := 2) rfl)) rfl
theorem kw_32_3 : Cond.selects RX3 yX3_mirrorSign yX3_mirrorSign ∈ k_tbl := k_tbl_in (kr_32 _ (List.mem_of_getElem? (i := 3) rfl)) rfl
theorem kw_32_4 : Cond.code yX3_mirrorSign cX3_mirrorSign 4 (some .int) ∈ k_tbl := k_tbl_in (kr_32 _ (List.mem_of_getElem? (i := 4) rfl)) rfl
theorem kw_32_5 : Cond.fieldLink RX3 100 "RootedClasses$Prime" "p" "I" ∈ k_tbl := k_tbl_in (kr_32 _ (List.mem_of_getElem? (i := 5) rfl)) rfl
theorem kw_32_6 : Cond.methodLink RL 67 yX9_mirror ∈ k_tbl := k_tbl_in (kr_32 _ (List.mem_of_getElem? (i := 6) rfl)) rfl
theorem kw_32_7 : Cond.instanceMethod yX9_mirror ∈ k_tbl := k_tbl_in (kr_32 _ (List.mem_of_getElem? (i := 7) rfl)) rfl
theorem kw_32_8 : Cond.selects RX9 yX9_mirror yX9_mirror ∈ k_tbl := k_tbl_in (kr_32 _ (List.mem_of_getElem? (i := 8) rfl)) rfl
theorem kw_32_9 : Cond.code yX9_mirror cX9_mirror 2 (some .int) ∈ k_tbl := k_tbl_in (kr_32 _ (List.mem_of_getElem? (i := 9) rfl)) rfl
theorem kw_32_10 : Cond.methodLink RX9 246 yX9_mirrorOf ∈ k_tbl := k_tbl_in (kr_32 _ (List.mem_of_getElem? (i := 10) rfl)) rfl
theorem kw_32_11 : Cond.instanceMethod yX9_mirrorOf ∈ k_tbl := k_tbl_in (kr_32 _ (List.mem_of_getElem? (i := 11) rfl)) rfl
theorem kw_32_12 : Cond.selects RX9 yX9_mirrorOf yX9_mirrorOf ∈ k_tbl := k_tbl_in (kr_32 _ (List.mem_of_getElem? (i := 12) rfl)) rfl
theorem kw_32_13 : Cond.code yX9_mirrorOf cX9_mirrorOf 4 (some .int) ∈ k_tbl := k_tbl_in (kr_32 _ (List.mem_of_getElem? (i := 13) rfl)) rfl
theorem kw_32_14 : Cond.methodLink RL 68 yX8_blind ∈ k_tbl := k_tbl_in (kr_32 _ (List.mem_of_getElem? (i := 14) rfl)) rfl
theorem kw_32_15 : Cond.instanceMethod yX8_blind ∈ k_tbl := k_tbl_in (kr_32 _ (List.mem_of_getElem? (i := 15) rfl)) rfl
theorem kw_32_16 : Cond.selects RX8 yX8_blind yX8_blind ∈ k_tbl := k_tbl_in (kr_32 _ (List.mem_of_getElem? (i := 16) rfl)) rfl
theorem kw_32_17 : Cond.code yX8_blind cX8_blind 2 (some .int) ∈ k_tbl := k_tbl_in (kr_32 _ (List.mem_of_getElem? (i := 17) rfl)) rfl
theorem kw_32_18 : Cond.methodLink RX8 146 yX3_blindBits ∈ k_tbl := k_tbl_in (kr_32 _ (List.mem_of_getElem? (i := 18) rfl)) rfl
theorem kw_32_19 : Cond.instanceMethod yX3_blindBits ∈ k_tbl := k_tbl_in (kr_32 _ (List.mem_of_getElem? (i := 19) rfl)) rfl
theorem kw_32_20 : Cond.selects RX3 yX3_blindBits yX3_blindBits ∈ k_tbl := k_tbl_in (kr_32 _ (List.mem_of_getElem? (i := 20) rfl)) rfl
theorem kw_32_21 : Cond.code yX3_blindBits cX3_blindBits 4 (some .int) ∈ k_tbl := k_tbl_in (kr_32 _ (List.mem_of_getElem? (i := 21) rfl)) rfl
theorem kw_32_22 : Cond.methodLink RL 71 yX9_blind ∈ k_tbl := k_tbl_in (kr_32 _ (List.mem_of_getElem? (i := 22) rfl)) rfl
theorem kw_32_23 : Cond.instanceMethod yX9_blind ∈ k_tbl := k_tbl_in (kr_32 _ (List.mem_of_getElem? (i := 23) rfl)) rfl
set_option maxRecDepth 20000 in
theorem kr_33 : ∀ w ∈ wsL_law_r33, w ∈ lw_tbl := k_mem [1203, 1204, 759, 760, 761, 762, 378, 763, 764, 765, 766, 767, 768, 769, 770, 1205, 1206, 1207, 1208, 1209, 1211, 80, 1212, 1213] (by decide +kernel)
theorem kw_33_0 : Cond.selects RX9 yX9_blind yX9_blind ∈ k_tbl := k_tbl_in (kr_33 _ (List.mem_of_getElem? (i := 0) rfl)) rfl
theorem kw_33_1 : Cond.code yX9_blind cX9_blind 4 (some .int) ∈ k_tbl := k_tbl_in (kr_33 _ (List.mem_of_getElem? (i := 1) rfl)) rfl
theorem kw_33_2 : Cond.methodLink RL 72 yX8_within ∈ k_tbl := k_tbl_in (kr_33 _ (List.mem_of_getElem? (i := 2) rfl)) rfl
theorem kw_33_3 : Cond.instanceMethod yX8_within ∈ k_tbl := k_tbl_in (kr_33 _ (List.mem_of_getElem? (i := 3) rfl)) rfl
theorem kw_33_4 : Cond.selects RX8 yX8_within yX8_within ∈ k_tbl := k_tbl_in (kr_33 _ (List.mem_of_getElem? (i := 4) rfl)) rfl
theorem kw_33_5 : Cond.code yX8_within cX8_within 4 (some .int) ∈ k_tbl := k_tbl_in (kr_33 _ (List.mem_of_getElem? (i := 5) rfl)) rfl
theorem kw_33_6 : Cond.fieldLink RX8 153 "RootedClasses$Rows" "multiplied" "[I" ∈ k_tbl := k_tbl_in (kr_33 _ (List.mem_of_getElem? (i := 6) rfl)) rfl
theorem kw_33_7 : Cond.methodLink RX8 149 yX3_multiplyRows ∈ k_tbl := k_tbl_in (kr_33 _ (List.mem_of_getElem? (i := 7) rfl)) rfl
theorem kw_33_8 : Cond.instanceMethod yX3_multiplyRows ∈ k_tbl := k_tbl_in (kr_33 _ (List.mem_of_getElem? (i := 8) rfl)) rfl
theorem kw_33_9 : Cond.selects RX3 yX3_multiplyRows yX3_multiplyRows ∈ k_tbl := k_tbl_in (kr_33 _ (List.mem_of_getElem? (i := 9) rfl)) rfl
theorem kw_33_10 : Cond.code yX3_multiplyRows cX3_multiplyRows 4 none ∈ k_tbl := k_tbl_in (kr_33 _ (List.mem_of_getElem? (i := 10) rfl)) rfl
theorem kw_33_11 : Cond.methodLink RX8 155 yX3_meet ∈ k_tbl := k_tbl_in (kr_33 _ (List.mem_of_getElem? (i := 11) rfl)) rfl
theorem kw_33_12 : Cond.instanceMethod yX3_meet ∈ k_tbl := k_tbl_in (kr_33 _ (List.mem_of_getElem? (i := 12) rfl)) rfl
theorem kw_33_13 : Cond.selects RX3 yX3_meet yX3_meet ∈ k_tbl := k_tbl_in (kr_33 _ (List.mem_of_getElem? (i := 13) rfl)) rfl
theorem kw_33_14 : Cond.code yX3_meet cX3_meet 5 (some .int) ∈ k_tbl := k_tbl_in (kr_33 _ (List.mem_of_getElem? (i := 14) rfl)) rfl
theorem kw_33_15 : Cond.methodLink RL 75 yX9_within ∈ k_tbl := k_tbl_in (kr_33 _ (List.mem_of_getElem? (i := 15) rfl)) rfl
theorem kw_33_16 : Cond.instanceMethod yX9_within ∈ k_tbl := k_tbl_in (kr_33 _ (List.mem_of_getElem? (i := 16) rfl)) rfl
theorem kw_33_17 : Cond.selects RX9 yX9_within yX9_within ∈ k_tbl := k_tbl_in (kr_33 _ (List.mem_of_getElem? (i := 17) rfl)) rfl
theorem kw_33_18 : Cond.code yX9_within cX9_within 4 (some .int) ∈ k_tbl := k_tbl_in (kr_33 _ (List.mem_of_getElem? (i := 18) rfl)) rfl
theorem kw_33_19 : Cond.methodLink RX9 249 yX9_multiply ∈ k_tbl := k_tbl_in (kr_33 _ (List.mem_of_getElem? (i := 19) rfl)) rfl
theorem kw_33_20 : Cond.instanceMethod yX9_multiply ∈ k_tbl := k_tbl_in (kr_33 _ (List.mem_of_getElem? (i := 20) rfl)) rfl
theorem kw_33_21 : Cond.selects RX9 yX9_multiply yX9_multiply ∈ k_tbl := k_tbl_in (kr_33 _ (List.mem_of_getElem? (i := 21) rfl)) rfl
theorem kw_33_22 : Cond.code yX9_multiply cX9_multiply 4 none ∈ k_tbl := k_tbl_in (kr_33 _ (List.mem_of_getElem? (i := 22) rfl)) rfl
theorem kw_33_23 : Cond.methodLink RX9 253 yX9_meet ∈ k_tbl := k_tbl_in (kr_33 _ (List.mem_of_getElem? (i := 23) rfl)) rfl
set_option maxRecDepth 20000 in
theorem kr_34 : ∀ w ∈ wsL_law_r34, w ∈ lw_tbl := k_mem [1215, 81, 1216, 771, 772, 773, 774, 1217, 1218, 1219, 1220, 775, 776, 777, 778, 779, 780, 781, 782, 1221, 1222, 1223, 1224, 783] (by decide +kernel)
theorem kw_34_0 : Cond.instanceMethod yX9_meet ∈ k_tbl := k_tbl_in (kr_34 _ (List.mem_of_getElem? (i := 0) rfl)) rfl
theorem kw_34_1 : Cond.selects RX9 yX9_meet yX9_meet ∈ k_tbl := k_tbl_in (kr_34 _ (List.mem_of_getElem? (i := 1) rfl)) rfl
theorem kw_34_2 : Cond.code yX9_meet cX9_meet 4 (some .int) ∈ k_tbl := k_tbl_in (kr_34 _ (List.mem_of_getElem? (i := 2) rfl)) rfl
theorem kw_34_3 : Cond.methodLink RL 76 yX8_natural ∈ k_tbl := k_tbl_in (kr_34 _ (List.mem_of_getElem? (i := 3) rfl)) rfl
theorem kw_34_4 : Cond.instanceMethod yX8_natural ∈ k_tbl := k_tbl_in (kr_34 _ (List.mem_of_getElem? (i := 4) rfl)) rfl
theorem kw_34_5 : Cond.selects RX8 yX8_natural yX8_natural ∈ k_tbl := k_tbl_in (kr_34 _ (List.mem_of_getElem? (i := 5) rfl)) rfl
theorem kw_34_6 : Cond.code yX8_natural cX8_natural 2 (some .int) ∈ k_tbl := k_tbl_in (kr_34 _ (List.mem_of_getElem? (i := 6) rfl)) rfl
theorem kw_34_7 : Cond.methodLink RL 79 yX9_natural ∈ k_tbl := k_tbl_in (kr_34 _ (List.mem_of_getElem? (i := 7) rfl)) rfl
theorem kw_34_8 : Cond.instanceMethod yX9_natural ∈ k_tbl := k_tbl_in (kr_34 _ (List.mem_of_getElem? (i := 8) rfl)) rfl
theorem kw_34_9 : Cond.selects RX9 yX9_natural yX9_natural ∈ k_tbl := k_tbl_in (kr_34 _ (List.mem_of_getElem? (i := 9) rfl)) rfl
theorem kw_34_10 : Cond.code yX9_natural cX9_natural 3 (some .int) ∈ k_tbl := k_tbl_in (kr_34 _ (List.mem_of_getElem? (i := 10) rfl)) rfl
theorem kw_34_11 : Cond.methodLink RL 80 yX8_turned ∈ k_tbl := k_tbl_in (kr_34 _ (List.mem_of_getElem? (i := 11) rfl)) rfl
theorem kw_34_12 : Cond.instanceMethod yX8_turned ∈ k_tbl := k_tbl_in (kr_34 _ (List.mem_of_getElem? (i := 12) rfl)) rfl
theorem kw_34_13 : Cond.selects RX8 yX8_turned yX8_turned ∈ k_tbl := k_tbl_in (kr_34 _ (List.mem_of_getElem? (i := 13) rfl)) rfl
theorem kw_34_14 : Cond.code yX8_turned cX8_turned 3 (some .int) ∈ k_tbl := k_tbl_in (kr_34 _ (List.mem_of_getElem? (i := 14) rfl)) rfl
theorem kw_34_15 : Cond.methodLink RX8 162 yX3_rowLike ∈ k_tbl := k_tbl_in (kr_34 _ (List.mem_of_getElem? (i := 15) rfl)) rfl
theorem kw_34_16 : Cond.instanceMethod yX3_rowLike ∈ k_tbl := k_tbl_in (kr_34 _ (List.mem_of_getElem? (i := 16) rfl)) rfl
theorem kw_34_17 : Cond.selects RX3 yX3_rowLike yX3_rowLike ∈ k_tbl := k_tbl_in (kr_34 _ (List.mem_of_getElem? (i := 17) rfl)) rfl
theorem kw_34_18 : Cond.code yX3_rowLike cX3_rowLike 3 (some .int) ∈ k_tbl := k_tbl_in (kr_34 _ (List.mem_of_getElem? (i := 18) rfl)) rfl
theorem kw_34_19 : Cond.methodLink RL 83 yX9_turned ∈ k_tbl := k_tbl_in (kr_34 _ (List.mem_of_getElem? (i := 19) rfl)) rfl
theorem kw_34_20 : Cond.instanceMethod yX9_turned ∈ k_tbl := k_tbl_in (kr_34 _ (List.mem_of_getElem? (i := 20) rfl)) rfl
theorem kw_34_21 : Cond.selects RX9 yX9_turned yX9_turned ∈ k_tbl := k_tbl_in (kr_34 _ (List.mem_of_getElem? (i := 21) rfl)) rfl
theorem kw_34_22 : Cond.code yX9_turned cX9_turned 6 (some .int) ∈ k_tbl := k_tbl_in (kr_34 _ (List.mem_of_getElem? (i := 22) rfl)) rfl
theorem kw_34_23 : Cond.methodLink RL 84 yX8_type ∈ k_tbl := k_tbl_in (kr_34 _ (List.mem_of_getElem? (i := 23) rfl)) rfl
set_option maxRecDepth 20000 in
theorem kr_35 : ∀ w ∈ wsL_law_r35, w ∈ lw_tbl := k_mem [784, 785, 786, 787, 788, 789, 790, 1225, 1226, 1227, 1228, 891, 792, 793, 794, 795, 796, 797, 798, 799, 1229, 1230, 1231, 1232] (by decide +kernel)
theorem kw_35_0 : Cond.instanceMethod yX8_type ∈ k_tbl := k_tbl_in (kr_35 _ (List.mem_of_getElem? (i := 0) rfl)) rfl
theorem kw_35_1 : Cond.selects RX8 yX8_type yX8_type ∈ k_tbl := k_tbl_in (kr_35 _ (List.mem_of_getElem? (i := 1) rfl)) rfl
theorem kw_35_2 : Cond.code yX8_type cX8_type 3 (some .int) ∈ k_tbl := k_tbl_in (kr_35 _ (List.mem_of_getElem? (i := 2) rfl)) rfl
theorem kw_35_3 : Cond.methodLink RX8 166 yX4_append ∈ k_tbl := k_tbl_in (kr_35 _ (List.mem_of_getElem? (i := 3) rfl)) rfl
theorem kw_35_4 : Cond.instanceMethod yX4_append ∈ k_tbl := k_tbl_in (kr_35 _ (List.mem_of_getElem? (i := 4) rfl)) rfl
theorem kw_35_5 : Cond.selects RX4 yX4_append yX4_append ∈ k_tbl := k_tbl_in (kr_35 _ (List.mem_of_getElem? (i := 5) rfl)) rfl
theorem kw_35_6 : Cond.code yX4_append cX4_append 2 (some .int) ∈ k_tbl := k_tbl_in (kr_35 _ (List.mem_of_getElem? (i := 6) rfl)) rfl
theorem kw_35_7 : Cond.methodLink RL 87 yX9_type ∈ k_tbl := k_tbl_in (kr_35 _ (List.mem_of_getElem? (i := 7) rfl)) rfl
theorem kw_35_8 : Cond.instanceMethod yX9_type ∈ k_tbl := k_tbl_in (kr_35 _ (List.mem_of_getElem? (i := 8) rfl)) rfl
theorem kw_35_9 : Cond.selects RX9 yX9_type yX9_type ∈ k_tbl := k_tbl_in (kr_35 _ (List.mem_of_getElem? (i := 9) rfl)) rfl
theorem kw_35_10 : Cond.code yX9_type cX9_type 2 (some .int) ∈ k_tbl := k_tbl_in (kr_35 _ (List.mem_of_getElem? (i := 10) rfl)) rfl
theorem kw_35_11 : Cond.fieldLink RX9 256 "RootedClassesModel" "typed" "I" ∈ k_tbl := k_tbl_in (kr_35 _ (List.mem_of_getElem? (i := 11) rfl)) rfl
theorem kw_35_12 : Cond.methodLink RL 88 yX8_clear ∈ k_tbl := k_tbl_in (kr_35 _ (List.mem_of_getElem? (i := 12) rfl)) rfl
theorem kw_35_13 : Cond.instanceMethod yX8_clear ∈ k_tbl := k_tbl_in (kr_35 _ (List.mem_of_getElem? (i := 13) rfl)) rfl
theorem kw_35_14 : Cond.selects RX8 yX8_clear yX8_clear ∈ k_tbl := k_tbl_in (kr_35 _ (List.mem_of_getElem? (i := 14) rfl)) rfl
theorem kw_35_15 : Cond.code yX8_clear cX8_clear 1 (some .int) ∈ k_tbl := k_tbl_in (kr_35 _ (List.mem_of_getElem? (i := 15) rfl)) rfl
theorem kw_35_16 : Cond.methodLink RX8 169 yX4_empty ∈ k_tbl := k_tbl_in (kr_35 _ (List.mem_of_getElem? (i := 16) rfl)) rfl
theorem kw_35_17 : Cond.instanceMethod yX4_empty ∈ k_tbl := k_tbl_in (kr_35 _ (List.mem_of_getElem? (i := 17) rfl)) rfl
theorem kw_35_18 : Cond.selects RX4 yX4_empty yX4_empty ∈ k_tbl := k_tbl_in (kr_35 _ (List.mem_of_getElem? (i := 18) rfl)) rfl
theorem kw_35_19 : Cond.code yX4_empty cX4_empty 2 (some .int) ∈ k_tbl := k_tbl_in (kr_35 _ (List.mem_of_getElem? (i := 19) rfl)) rfl
theorem kw_35_20 : Cond.methodLink RL 92 yX9_clear ∈ k_tbl := k_tbl_in (kr_35 _ (List.mem_of_getElem? (i := 20) rfl)) rfl
theorem kw_35_21 : Cond.instanceMethod yX9_clear ∈ k_tbl := k_tbl_in (kr_35 _ (List.mem_of_getElem? (i := 21) rfl)) rfl
theorem kw_35_22 : Cond.selects RX9 yX9_clear yX9_clear ∈ k_tbl := k_tbl_in (kr_35 _ (List.mem_of_getElem? (i := 22) rfl)) rfl
theorem kw_35_23 : Cond.code yX9_clear cX9_clear 2 (some .int) ∈ k_tbl := k_tbl_in (kr_35 _ (List.mem_of_getElem? (i := 23) rfl)) rfl
set_option maxRecDepth 20000 in
theorem kr_36 : ∀ w ∈ wsL_law_r36, w ∈ lw_tbl := k_mem [800, 801, 802, 803, 804, 805, 806, 807, 120, 808, 810, 36, 811, 812, 814, 37, 815, 816, 818, 38, 819, 820, 822, 39] (by decide +kernel)
theorem kw_36_0 : Cond.methodLink RL 93 yX8_reads ∈ k_tbl := k_tbl_in (kr_36 _ (List.mem_of_getElem? (i := 0) rfl)) rfl
theorem kw_36_1 : Cond.instanceMethod yX8_reads ∈ k_tbl := k_tbl_in (kr_36 _ (List.mem_of_getElem? (i := 1) rfl)) rfl
theorem kw_36_2 : Cond.selects RX8 yX8_reads yX8_reads ∈ k_tbl := k_tbl_in (kr_36 _ (List.mem_of_getElem? (i := 2) rfl)) rfl
theorem kw_36_3 : Cond.code yX8_reads cX8_reads 2 (some .int) ∈ k_tbl := k_tbl_in (kr_36 _ (List.mem_of_getElem? (i := 3) rfl)) rfl
theorem kw_36_4 : Cond.methodLink RX8 173 yX4_carryOut ∈ k_tbl := k_tbl_in (kr_36 _ (List.mem_of_getElem? (i := 4) rfl)) rfl
theorem kw_36_5 : Cond.instanceMethod yX4_carryOut ∈ k_tbl := k_tbl_in (kr_36 _ (List.mem_of_getElem? (i := 5) rfl)) rfl
theorem kw_36_6 : Cond.selects RX4 yX4_carryOut yX4_carryOut ∈ k_tbl := k_tbl_in (kr_36 _ (List.mem_of_getElem? (i := 6) rfl)) rfl
theorem kw_36_7 : Cond.code yX4_carryOut cX4_carryOut 4 (some .int) ∈ k_tbl := k_tbl_in (kr_36 _ (List.mem_of_getElem? (i := 7) rfl)) rfl
theorem kw_36_8 : Cond.fieldLink RX4 47 "RootedClasses$Setting" "points" "I" ∈ k_tbl := k_tbl_in (kr_36 _ (List.mem_of_getElem? (i := 8) rfl)) rfl
theorem kw_36_9 : Cond.methodLink RX4 52 yX4_findFault ∈ k_tbl := k_tbl_in (kr_36 _ (List.mem_of_getElem? (i := 9) rfl)) rfl
theorem kw_36_10 : Cond.instanceMethod yX4_findFault ∈ k_tbl := k_tbl_in (kr_36 _ (List.mem_of_getElem? (i := 10) rfl)) rfl
theorem kw_36_11 : Cond.selects RX4 yX4_findFault yX4_findFault ∈ k_tbl := k_tbl_in (kr_36 _ (List.mem_of_getElem? (i := 11) rfl)) rfl
theorem kw_36_12 : Cond.code yX4_findFault cX4_findFault 4 (some .int) ∈ k_tbl := k_tbl_in (kr_36 _ (List.mem_of_getElem? (i := 12) rfl)) rfl
theorem kw_36_13 : Cond.methodLink RX4 69 yX4_takes ∈ k_tbl := k_tbl_in (kr_36 _ (List.mem_of_getElem? (i := 13) rfl)) rfl
theorem kw_36_14 : Cond.instanceMethod yX4_takes ∈ k_tbl := k_tbl_in (kr_36 _ (List.mem_of_getElem? (i := 14) rfl)) rfl
theorem kw_36_15 : Cond.selects RX4 yX4_takes yX4_takes ∈ k_tbl := k_tbl_in (kr_36 _ (List.mem_of_getElem? (i := 15) rfl)) rfl
theorem kw_36_16 : Cond.code yX4_takes cX4_takes 2 (some .boolean) ∈ k_tbl := k_tbl_in (kr_36 _ (List.mem_of_getElem? (i := 16) rfl)) rfl
theorem kw_36_17 : Cond.methodLink RX4 73 yX4_opens ∈ k_tbl := k_tbl_in (kr_36 _ (List.mem_of_getElem? (i := 17) rfl)) rfl
theorem kw_36_18 : Cond.instanceMethod yX4_opens ∈ k_tbl := k_tbl_in (kr_36 _ (List.mem_of_getElem? (i := 18) rfl)) rfl
theorem kw_36_19 : Cond.selects RX4 yX4_opens yX4_opens ∈ k_tbl := k_tbl_in (kr_36 _ (List.mem_of_getElem? (i := 19) rfl)) rfl
theorem kw_36_20 : Cond.code yX4_opens cX4_opens 2 (some .boolean) ∈ k_tbl := k_tbl_in (kr_36 _ (List.mem_of_getElem? (i := 20) rfl)) rfl
theorem kw_36_21 : Cond.methodLink RX4 76 yX4_takesFigure ∈ k_tbl := k_tbl_in (kr_36 _ (List.mem_of_getElem? (i := 21) rfl)) rfl
theorem kw_36_22 : Cond.instanceMethod yX4_takesFigure ∈ k_tbl := k_tbl_in (kr_36 _ (List.mem_of_getElem? (i := 22) rfl)) rfl
theorem kw_36_23 : Cond.selects RX4 yX4_takesFigure yX4_takesFigure ∈ k_tbl := k_tbl_in (kr_36 _ (List.mem_of_getElem? (i := 23) rfl)) rfl
set_option maxRecDepth 20000 in
theorem kr_37 : ∀ w ∈ wsL_law_r37, w ∈ lw_tbl := k_mem [823, 824, 826, 40, 827, 828, 829, 830, 831, 832, 833, 1233, 1234, 1235, 1236, 892, 893, 894, 895, 1237, 1239, 82, 1240, 1241] (by decide +kernel)
theorem kw_37_0 : Cond.code yX4_takesFigure cX4_takesFigure 2 (some .boolean) ∈ k_tbl := k_tbl_in (kr_37 _ (List.mem_of_getElem? (i := 0) rfl)) rfl
theorem kw_37_1 : Cond.methodLink RX4 79 yX4_closes ∈ k_tbl := k_tbl_in (kr_37 _ (List.mem_of_getElem? (i := 1) rfl)) rfl
theorem kw_37_2 : Cond.instanceMethod yX4_closes ∈ k_tbl := k_tbl_in (kr_37 _ (List.mem_of_getElem? (i := 2) rfl)) rfl
theorem kw_37_3 : Cond.selects RX4 yX4_closes yX4_closes ∈ k_tbl := k_tbl_in (kr_37 _ (List.mem_of_getElem? (i := 3) rfl)) rfl
theorem kw_37_4 : Cond.code yX4_closes cX4_closes 2 (some .boolean) ∈ k_tbl := k_tbl_in (kr_37 _ (List.mem_of_getElem? (i := 4) rfl)) rfl
theorem kw_37_5 : Cond.methodLink RX4 56 yX4_obey ∈ k_tbl := k_tbl_in (kr_37 _ (List.mem_of_getElem? (i := 5) rfl)) rfl
theorem kw_37_6 : Cond.static yX4_obey ∈ k_tbl := k_tbl_in (kr_37 _ (List.mem_of_getElem? (i := 6) rfl)) rfl
theorem kw_37_7 : Cond.code yX4_obey cX4_obey 3 (some .int) ∈ k_tbl := k_tbl_in (kr_37 _ (List.mem_of_getElem? (i := 7) rfl)) rfl
theorem kw_37_8 : Cond.methodLink RX4 60 yX5_setPoints ∈ k_tbl := k_tbl_in (kr_37 _ (List.mem_of_getElem? (i := 8) rfl)) rfl
theorem kw_37_9 : Cond.methodLink RX4 63 yX5_addGenerator ∈ k_tbl := k_tbl_in (kr_37 _ (List.mem_of_getElem? (i := 9) rfl)) rfl
theorem kw_37_10 : Cond.methodLink RX4 66 yX5_dropGenerator ∈ k_tbl := k_tbl_in (kr_37 _ (List.mem_of_getElem? (i := 10) rfl)) rfl
theorem kw_37_11 : Cond.methodLink RL 96 yX9_reads ∈ k_tbl := k_tbl_in (kr_37 _ (List.mem_of_getElem? (i := 11) rfl)) rfl
theorem kw_37_12 : Cond.instanceMethod yX9_reads ∈ k_tbl := k_tbl_in (kr_37 _ (List.mem_of_getElem? (i := 12) rfl)) rfl
theorem kw_37_13 : Cond.selects RX9 yX9_reads yX9_reads ∈ k_tbl := k_tbl_in (kr_37 _ (List.mem_of_getElem? (i := 13) rfl)) rfl
theorem kw_37_14 : Cond.code yX9_reads cX9_reads 3 (some .int) ∈ k_tbl := k_tbl_in (kr_37 _ (List.mem_of_getElem? (i := 14) rfl)) rfl
theorem kw_37_15 : Cond.fieldLink RX9 259 "RootedClassesModel" "at" "I" ∈ k_tbl := k_tbl_in (kr_37 _ (List.mem_of_getElem? (i := 15) rfl)) rfl
theorem kw_37_16 : Cond.fieldLink RX9 262 "RootedClassesModel" "fault" "I" ∈ k_tbl := k_tbl_in (kr_37 _ (List.mem_of_getElem? (i := 16) rfl)) rfl
theorem kw_37_17 : Cond.fieldLink RX9 278 "RootedClassesModel" "orders" "I" ∈ k_tbl := k_tbl_in (kr_37 _ (List.mem_of_getElem? (i := 17) rfl)) rfl
theorem kw_37_18 : Cond.fieldLink RX9 272 "RootedClassesModel" "pointsThen" "I" ∈ k_tbl := k_tbl_in (kr_37 _ (List.mem_of_getElem? (i := 18) rfl)) rfl
theorem kw_37_19 : Cond.methodLink RX9 265 yX9_here ∈ k_tbl := k_tbl_in (kr_37 _ (List.mem_of_getElem? (i := 19) rfl)) rfl
theorem kw_37_20 : Cond.instanceMethod yX9_here ∈ k_tbl := k_tbl_in (kr_37 _ (List.mem_of_getElem? (i := 20) rfl)) rfl
theorem kw_37_21 : Cond.selects RX9 yX9_here yX9_here ∈ k_tbl := k_tbl_in (kr_37 _ (List.mem_of_getElem? (i := 21) rfl)) rfl
theorem kw_37_22 : Cond.code yX9_here cX9_here 1 (some .int) ∈ k_tbl := k_tbl_in (kr_37 _ (List.mem_of_getElem? (i := 22) rfl)) rfl
theorem kw_37_23 : Cond.methodLink RX9 287 yX9_readOrder ∈ k_tbl := k_tbl_in (kr_37 _ (List.mem_of_getElem? (i := 23) rfl)) rfl
set_option maxRecDepth 20000 in
theorem kr_38 : ∀ w ∈ wsL_law_r38, w ∈ lw_tbl := k_mem [1243, 83, 1244, 1245, 1247, 84, 1248, 1249, 1251, 85, 1252, 1253, 1254, 1255, 1256, 1258, 86, 1259, 1260, 1262, 87, 1263, 834, 835] (by decide +kernel)
theorem kw_38_0 : Cond.instanceMethod yX9_readOrder ∈ k_tbl := k_tbl_in (kr_38 _ (List.mem_of_getElem? (i := 0) rfl)) rfl
theorem kw_38_1 : Cond.selects RX9 yX9_readOrder yX9_readOrder ∈ k_tbl := k_tbl_in (kr_38 _ (List.mem_of_getElem? (i := 1) rfl)) rfl
theorem kw_38_2 : Cond.code yX9_readOrder cX9_readOrder 2 none ∈ k_tbl := k_tbl_in (kr_38 _ (List.mem_of_getElem? (i := 2) rfl)) rfl
theorem kw_38_3 : Cond.methodLink RX9 268 yX9_must ∈ k_tbl := k_tbl_in (kr_38 _ (List.mem_of_getElem? (i := 3) rfl)) rfl
theorem kw_38_4 : Cond.instanceMethod yX9_must ∈ k_tbl := k_tbl_in (kr_38 _ (List.mem_of_getElem? (i := 4) rfl)) rfl
theorem kw_38_5 : Cond.selects RX9 yX9_must yX9_must ∈ k_tbl := k_tbl_in (kr_38 _ (List.mem_of_getElem? (i := 5) rfl)) rfl
theorem kw_38_6 : Cond.code yX9_must cX9_must 2 none ∈ k_tbl := k_tbl_in (kr_38 _ (List.mem_of_getElem? (i := 6) rfl)) rfl
theorem kw_38_7 : Cond.methodLink RX9 281 yX9_readMove ∈ k_tbl := k_tbl_in (kr_38 _ (List.mem_of_getElem? (i := 7) rfl)) rfl
theorem kw_38_8 : Cond.instanceMethod yX9_readMove ∈ k_tbl := k_tbl_in (kr_38 _ (List.mem_of_getElem? (i := 8) rfl)) rfl
theorem kw_38_9 : Cond.selects RX9 yX9_readMove yX9_readMove ∈ k_tbl := k_tbl_in (kr_38 _ (List.mem_of_getElem? (i := 9) rfl)) rfl
theorem kw_38_10 : Cond.code yX9_readMove cX9_readMove 5 (some .int) ∈ k_tbl := k_tbl_in (kr_38 _ (List.mem_of_getElem? (i := 10) rfl)) rfl
theorem kw_38_11 : Cond.methodLink RX9 275 yX9_has ∈ k_tbl := k_tbl_in (kr_38 _ (List.mem_of_getElem? (i := 11) rfl)) rfl
theorem kw_38_12 : Cond.static yX9_has ∈ k_tbl := k_tbl_in (kr_38 _ (List.mem_of_getElem? (i := 12) rfl)) rfl
theorem kw_38_13 : Cond.code yX9_has cX9_has 2 (some .boolean) ∈ k_tbl := k_tbl_in (kr_38 _ (List.mem_of_getElem? (i := 13) rfl)) rfl
theorem kw_38_14 : Cond.methodLink RX9 284 yX9_figure ∈ k_tbl := k_tbl_in (kr_38 _ (List.mem_of_getElem? (i := 14) rfl)) rfl
theorem kw_38_15 : Cond.instanceMethod yX9_figure ∈ k_tbl := k_tbl_in (kr_38 _ (List.mem_of_getElem? (i := 15) rfl)) rfl
theorem kw_38_16 : Cond.selects RX9 yX9_figure yX9_figure ∈ k_tbl := k_tbl_in (kr_38 _ (List.mem_of_getElem? (i := 16) rfl)) rfl
theorem kw_38_17 : Cond.code yX9_figure cX9_figure 4 (some .int) ∈ k_tbl := k_tbl_in (kr_38 _ (List.mem_of_getElem? (i := 17) rfl)) rfl
theorem kw_38_18 : Cond.methodLink RX9 290 yX9_doOrder ∈ k_tbl := k_tbl_in (kr_38 _ (List.mem_of_getElem? (i := 18) rfl)) rfl
theorem kw_38_19 : Cond.instanceMethod yX9_doOrder ∈ k_tbl := k_tbl_in (kr_38 _ (List.mem_of_getElem? (i := 19) rfl)) rfl
theorem kw_38_20 : Cond.selects RX9 yX9_doOrder yX9_doOrder ∈ k_tbl := k_tbl_in (kr_38 _ (List.mem_of_getElem? (i := 20) rfl)) rfl
theorem kw_38_21 : Cond.code yX9_doOrder cX9_doOrder 2 (some .int) ∈ k_tbl := k_tbl_in (kr_38 _ (List.mem_of_getElem? (i := 21) rfl)) rfl
theorem kw_38_22 : Cond.methodLink RL 97 yX8_back ∈ k_tbl := k_tbl_in (kr_38 _ (List.mem_of_getElem? (i := 22) rfl)) rfl
theorem kw_38_23 : Cond.instanceMethod yX8_back ∈ k_tbl := k_tbl_in (kr_38 _ (List.mem_of_getElem? (i := 23) rfl)) rfl
set_option maxRecDepth 20000 in
theorem kr_39 : ∀ w ∈ wsL_law_r39, w ∈ lw_tbl := k_mem [836, 837, 145, 838, 839, 840, 841, 980, 981, 982, 983, 842, 843, 844, 845, 159, 121, 1264, 1265, 1266, 1267, 1268, 1270, 88] (by decide +kernel)
theorem kw_39_0 : Cond.selects RX8 yX8_back yX8_back ∈ k_tbl := k_tbl_in (kr_39 _ (List.mem_of_getElem? (i := 0) rfl)) rfl
theorem kw_39_1 : Cond.code yX8_back cX8_back 1 (some .int) ∈ k_tbl := k_tbl_in (kr_39 _ (List.mem_of_getElem? (i := 1) rfl)) rfl
theorem kw_39_2 : Cond.fieldLink RX8 177 "RootedClasses$Past" "count" "I" ∈ k_tbl := k_tbl_in (kr_39 _ (List.mem_of_getElem? (i := 2) rfl)) rfl
theorem kw_39_3 : Cond.methodLink RX8 178 yX1_restore ∈ k_tbl := k_tbl_in (kr_39 _ (List.mem_of_getElem? (i := 3) rfl)) rfl
theorem kw_39_4 : Cond.instanceMethod yX1_restore ∈ k_tbl := k_tbl_in (kr_39 _ (List.mem_of_getElem? (i := 4) rfl)) rfl
theorem kw_39_5 : Cond.selects RX1 yX1_restore yX1_restore ∈ k_tbl := k_tbl_in (kr_39 _ (List.mem_of_getElem? (i := 5) rfl)) rfl
theorem kw_39_6 : Cond.code yX1_restore cX1_restore 2 none ∈ k_tbl := k_tbl_in (kr_39 _ (List.mem_of_getElem? (i := 6) rfl)) rfl
theorem kw_39_7 : Cond.methodLink RL 100 yX9_back ∈ k_tbl := k_tbl_in (kr_39 _ (List.mem_of_getElem? (i := 7) rfl)) rfl
theorem kw_39_8 : Cond.instanceMethod yX9_back ∈ k_tbl := k_tbl_in (kr_39 _ (List.mem_of_getElem? (i := 8) rfl)) rfl
theorem kw_39_9 : Cond.selects RX9 yX9_back yX9_back ∈ k_tbl := k_tbl_in (kr_39 _ (List.mem_of_getElem? (i := 9) rfl)) rfl
theorem kw_39_10 : Cond.code yX9_back cX9_back 2 (some .int) ∈ k_tbl := k_tbl_in (kr_39 _ (List.mem_of_getElem? (i := 10) rfl)) rfl
theorem kw_39_11 : Cond.methodLink RL 101 yX8_told ∈ k_tbl := k_tbl_in (kr_39 _ (List.mem_of_getElem? (i := 11) rfl)) rfl
theorem kw_39_12 : Cond.instanceMethod yX8_told ∈ k_tbl := k_tbl_in (kr_39 _ (List.mem_of_getElem? (i := 12) rfl)) rfl
theorem kw_39_13 : Cond.selects RX8 yX8_told yX8_told ∈ k_tbl := k_tbl_in (kr_39 _ (List.mem_of_getElem? (i := 13) rfl)) rfl
theorem kw_39_14 : Cond.code yX8_told cX8_told 2 (some .int) ∈ k_tbl := k_tbl_in (kr_39 _ (List.mem_of_getElem? (i := 14) rfl)) rfl
theorem kw_39_15 : Cond.fieldLink RX8 184 "RootedClasses$Script" "length" "I" ∈ k_tbl := k_tbl_in (kr_39 _ (List.mem_of_getElem? (i := 15) rfl)) rfl
theorem kw_39_16 : Cond.fieldLink RX8 187 "RootedClasses$Setting" "points" "I" ∈ k_tbl := k_tbl_in (kr_39 _ (List.mem_of_getElem? (i := 16) rfl)) rfl
theorem kw_39_17 : Cond.methodLink RL 104 yX9_told ∈ k_tbl := k_tbl_in (kr_39 _ (List.mem_of_getElem? (i := 17) rfl)) rfl
theorem kw_39_18 : Cond.instanceMethod yX9_told ∈ k_tbl := k_tbl_in (kr_39 _ (List.mem_of_getElem? (i := 18) rfl)) rfl
theorem kw_39_19 : Cond.selects RX9 yX9_told yX9_told ∈ k_tbl := k_tbl_in (kr_39 _ (List.mem_of_getElem? (i := 19) rfl)) rfl
theorem kw_39_20 : Cond.code yX9_told cX9_told 2 (some .int) ∈ k_tbl := k_tbl_in (kr_39 _ (List.mem_of_getElem? (i := 20) rfl)) rfl
theorem kw_39_21 : Cond.methodLink RX9 293 yX9_toldOf ∈ k_tbl := k_tbl_in (kr_39 _ (List.mem_of_getElem? (i := 21) rfl)) rfl
theorem kw_39_22 : Cond.instanceMethod yX9_toldOf ∈ k_tbl := k_tbl_in (kr_39 _ (List.mem_of_getElem? (i := 22) rfl)) rfl
theorem kw_39_23 : Cond.selects RX9 yX9_toldOf yX9_toldOf ∈ k_tbl := k_tbl_in (kr_39 _ (List.mem_of_getElem? (i := 23) rfl)) rfl
set_option maxRecDepth 20000 in
theorem kr_40 : ∀ w ∈ wsL_law_r40, w ∈ lw_tbl := k_mem [1271, 846, 847, 848, 849, 850, 851, 852, 1272, 1273, 1274, 1275, 1276, 898, 1277, 1279, 89, 1280, 1281] (by decide +kernel)
theorem kw_40_0 : Cond.code yX9_toldOf cX9_toldOf 2 (some .int) ∈ k_tbl := k_tbl_in (kr_40 _ (List.mem_of_getElem? (i := 0) rfl)) rfl
theorem kw_40_1 : Cond.methodLink RL 105 yX8_digest ∈ k_tbl := k_tbl_in (kr_40 _ (List.mem_of_getElem? (i := 1) rfl)) rfl
theorem kw_40_2 : Cond.instanceMethod yX8_digest ∈ k_tbl := k_tbl_in (kr_40 _ (List.mem_of_getElem? (i := 2) rfl)) rfl
theorem kw_40_3 : Cond.selects RX8 yX8_digest yX8_digest ∈ k_tbl := k_tbl_in (kr_40 _ (List.mem_of_getElem? (i := 3) rfl)) rfl
theorem kw_40_4 : Cond.code yX8_digest cX8_digest 5 (some .long) ∈ k_tbl := k_tbl_in (kr_40 _ (List.mem_of_getElem? (i := 4) rfl)) rfl
theorem kw_40_5 : Cond.constantLong RX8 191 (2447) ∈ k_tbl := k_tbl_in (kr_40 _ (List.mem_of_getElem? (i := 5) rfl)) rfl
theorem kw_40_6 : Cond.constantLong RX8 193 (31) ∈ k_tbl := k_tbl_in (kr_40 _ (List.mem_of_getElem? (i := 6) rfl)) rfl
theorem kw_40_7 : Cond.methodLink RX8 195 yX8_told ∈ k_tbl := k_tbl_in (kr_40 _ (List.mem_of_getElem? (i := 7) rfl)) rfl
theorem kw_40_8 : Cond.methodLink RL 109 yX9_digest ∈ k_tbl := k_tbl_in (kr_40 _ (List.mem_of_getElem? (i := 8) rfl)) rfl
theorem kw_40_9 : Cond.instanceMethod yX9_digest ∈ k_tbl := k_tbl_in (kr_40 _ (List.mem_of_getElem? (i := 9) rfl)) rfl
theorem kw_40_10 : Cond.selects RX9 yX9_digest yX9_digest ∈ k_tbl := k_tbl_in (kr_40 _ (List.mem_of_getElem? (i := 10) rfl)) rfl
theorem kw_40_11 : Cond.code yX9_digest cX9_digest 3 (some .long) ∈ k_tbl := k_tbl_in (kr_40 _ (List.mem_of_getElem? (i := 11) rfl)) rfl
theorem kw_40_12 : Cond.constantLong RX9 302 (2447) ∈ k_tbl := k_tbl_in (kr_40 _ (List.mem_of_getElem? (i := 12) rfl)) rfl
theorem kw_40_13 : Cond.fieldLink RX9 298 "RootedClassesModel" "h" "J" ∈ k_tbl := k_tbl_in (kr_40 _ (List.mem_of_getElem? (i := 13) rfl)) rfl
theorem kw_40_14 : Cond.methodLink RX9 304 yX9_mix ∈ k_tbl := k_tbl_in (kr_40 _ (List.mem_of_getElem? (i := 14) rfl)) rfl
theorem kw_40_15 : Cond.instanceMethod yX9_mix ∈ k_tbl := k_tbl_in (kr_40 _ (List.mem_of_getElem? (i := 15) rfl)) rfl
theorem kw_40_16 : Cond.selects RX9 yX9_mix yX9_mix ∈ k_tbl := k_tbl_in (kr_40 _ (List.mem_of_getElem? (i := 16) rfl)) rfl
theorem kw_40_17 : Cond.code yX9_mix cX9_mix 2 none ∈ k_tbl := k_tbl_in (kr_40 _ (List.mem_of_getElem? (i := 17) rfl)) rfl
theorem kw_40_18 : Cond.constantLong RX9 296 (31) ∈ k_tbl := k_tbl_in (kr_40 _ (List.mem_of_getElem? (i := 18) rfl)) rfl
theorem kiX0 : ∀ w ∈ u_ws RX0 TX0 9, w ∈ k_tbl := fun w h => k_tbl_in (k_mem (ws := u_ws RX0 TX0 9) [223, 225, 227, 229, 231, 233, 235, 237, 239] (by decide +kernel) w h) (List.all_eq_true.mp (show (u_ws RX0 TX0 9).all goodWord = true by decide +kernel) w h)
theorem kiX1 : ∀ w ∈ u_ws RX1 TX1 2, w ∈ k_tbl := fun w h => k_tbl_in (k_mem (ws := u_ws RX1 TX1 2) [147, 149] (by decide +kernel) w h) (List.all_eq_true.mp (show (u_ws RX1 TX1 2).all goodWord = true by decide +kernel) w h)
theorem kiX2 : ∀ w ∈ u_ws RX2 TX2 4, w ∈ k_tbl := fun w h => k_tbl_in (k_mem (ws := u_ws RX2 TX2 4) [310, 312, 314, 316] (by decide +kernel) w h) (List.all_eq_true.mp (show (u_ws RX2 TX2 4).all goodWord = true by decide +kernel) w h)
theorem kiX3 : ∀ w ∈ u_ws RX3 TX3 8, w ∈ k_tbl := fun w h => k_tbl_in (k_mem (ws := u_ws RX3 TX3 8) [380, 382, 384, 386, 388, 390, 392, 394] (by decide +kernel) w h) (List.all_eq_true.mp (show (u_ws RX3 TX3 8).all goodWord = true by decide +kernel) w h)
theorem kiX4 : ∀ w ∈ u_ws RX4 TX4 10, w ∈ k_tbl := fun w h => k_tbl_in (k_mem (ws := u_ws RX4 TX4 10) [169, 171, 173, 175, 177, 179, 181, 183, 185, 187] (by decide +kernel) w h) (List.all_eq_true.mp (show (u_ws RX4 TX4 10).all goodWord = true by decide +kernel) w h)
theorem kiX5 : ∀ w ∈ u_ws RX5 TX5 3, w ∈ k_tbl := fun w h => k_tbl_in (k_mem (ws := u_ws RX5 TX5 3) [127, 129, 131] (by decide +kernel) w h) (List.all_eq_true.mp (show (u_ws RX5 TX5 3).all goodWord = true by decide +kernel) w h)
theorem kiX6 : ∀ w ∈ u_ws RX6 TX6 11, w ∈ k_tbl := fun w h => k_tbl_in (k_mem (ws := u_ws RX6 TX6 11) [271, 273, 275, 277, 279, 281, 283, 285, 287, 289, 291] (by decide +kernel) w h) (List.all_eq_true.mp (show (u_ws RX6 TX6 11).all goodWord = true by decide +kernel) w h)
theorem kiX7 : ∀ w ∈ u_ws RX7 TX7 12, w ∈ k_tbl := fun w h => k_tbl_in (k_mem (ws := u_ws RX7 TX7 12) [340, 342, 344, 346, 348, 350, 352, 354, 356, 358, 360, 362] (by decide +kernel) w h) (List.all_eq_true.mp (show (u_ws RX7 TX7 12).all goodWord = true by decide +kernel) w h)
theorem kiX8 : ∀ w ∈ u_ws RX8 TX8 8, w ∈ k_tbl := fun w h => k_tbl_in (k_mem (ws := u_ws RX8 TX8 8) [405, 407, 409, 411, 413, 415, 417, 419] (by decide +kernel) w h) (List.all_eq_true.mp (show (u_ws RX8 TX8 8).all goodWord = true by decide +kernel) w h)
theorem kiX9 : ∀ w ∈ u_ws RX9 TX9 40, w ∈ k_tbl := fun w h => k_tbl_in (k_mem (ws := u_ws RX9 TX9 40) [899, 901, 903, 905, 907, 909, 911, 913, 915, 917, 919, 921, 923, 925, 927, 929, 931, 933, 935, 937, 939, 941, 943, 945, 947, 949, 951, 953, 955, 957, 959, 961, 963, 965, 967, 969, 971, 973, 975, 977] (by decide +kernel) w h) (List.all_eq_true.mp (show (u_ws RX9 TX9 40).all goodWord = true by decide +kernel) w h)
