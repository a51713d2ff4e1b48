/-! ===== BEGIN words of one list among another's, by their places ===== -/
theorem goodIn_r {big : List Cond} (ws : List Cond) (ps : List Nat) (hp : ws = ps.filterMap (fun i => big[i]?)) (h : ws.all goodWord = true) : GoodIn big ws := by
  intro w hw
  have h1 := List.all_eq_true.mp h w hw
  rw [hp] at hw
  obtain ⟨i, -, hi⟩ := List.mem_filterMap.mp hw
  have hm : w ∈ big := by first | exact List.mem_of_getElem? hi | exact List.getElem?_mem hi
  exact ⟨hm, good_of_word h1⟩
theorem goodIn_app {big a b : List Cond} (ha : GoodIn big a) (hb : GoodIn big b) : GoodIn big (a ++ b) := fun w h => (List.mem_append.mp h).elim (ha w) (hb w)
theorem goodIn_ca {big a b : List Cond} {c : Cond} (ha : GoodIn big (c :: a)) (hb : GoodIn big b) : GoodIn big (c :: (a ++ b)) := fun w h => (List.mem_cons.mp h).elim (fun e => ha w (List.mem_cons.mpr (Or.inl e))) (fun h => (List.mem_append.mp h).elim (fun h => ha w (List.mem_cons.mpr (Or.inr h))) (hb w))
theorem goodIn_sub {big ws : List Cond} (hm : ∀ w ∈ ws, w ∈ big) (h : ws.all goodWord = true) : GoodIn big ws := fun w hw => ⟨hm w hw, good_of_word (List.all_eq_true.mp h w hw)⟩
/-! ===== END ===== -/

/-! ===== BEGIN new T[n][m]: the outer array a place, the inner ones among the pooled ===== -/
/-- f, but v at every address of l -/
def vr_up {α : Type} (f : Nat → α) (l : List Nat) (v : α) : Nat → α := fun a => if a ∈ l then v else f a
theorem vr_up_in {α : Type} {f : Nat → α} {l : List Nat} {v : α} {a : Nat} (h : a ∈ l) : vr_up f l v a = v := if_pos h
theorem vr_up_ne {α : Type} {f : Nat → α} {l : List Nat} {v : α} {a : Nat} (h : a ∉ l) : vr_up f l v a = f a := if_neg h
theorem vr_rows {L l : List Nat} {f : Nat → va_E} {e : va_E} (h : ∀ a, a ∈ l → a ∉ L) : va_pl L f ++ l.map (fun a => (a, e)) = va_pl (L ++ l) (vr_up f l e) := by
  unfold va_pl
  rw [List.map_append]
  congr 1
  · apply List.map_congr_left
    intro a ha
    rw [vr_up_ne (fun q => h a q ha)]
  · apply List.map_congr_left
    intro a ha
    rw [vr_up_in ha]
theorem vr_lay {X rows : va_W} {x : Nat × va_E} {pl : va_W} {D : va_G} {cl : List vw_C} {H : Heap} (hP : va_P D cl (((X ++ pl) ++ [x]) ++ rows) H) : va_P D cl ((X ++ [x]) ++ (pl ++ rows)) H := by
  rw [List.append_assoc (X ++ pl)] at hP
  have h := va_P.swap hP
  rw [← List.append_assoc X] at h
  have h2 := va_P.swap h
  rw [List.append_assoc (X ++ [x])] at h2
  exact h2
theorem vr_layD {X rows : va_W} {x : Nat × va_E} {pl : va_W} {A : Nat → Prop} (hD : va_D A (((X ++ pl) ++ [x]) ++ rows)) : va_D A ((X ++ [x]) ++ (pl ++ rows)) := by
  rw [List.append_assoc (X ++ pl)] at hD
  have h := va_D.swap hD
  rw [← List.append_assoc X] at h
  have h2 := va_D.swap h
  rw [List.append_assoc (X ++ [x])] at h2
  exact h2
theorem vr_outer (c : ClassId) (N h0 : Nat) : ∀ i : Nat, Jvm.Free.Multi.outerC c N h0 i = arrV c N (fun j => va_rf (if j < i then some (h0 + 1 + j) else none))
  | 0 => by
    show ({ cls := c, slots := Array.replicate N .null, vm := .none } : Cell) = _
    rw [arrV_new]
    refine congrArg (arrV c N) (funext fun j => ?_)
    simp [va_rf]
  | i + 1 => by
    show (Jvm.Free.Multi.outerC c N h0 i).setSlot i (.ref (h0 + 1 + i)) = _
    rw [vr_outer c N h0 i, arrV_store]
    refine congrArg (arrV c N) (funext fun j => ?_)
    by_cases e : j = i
    · subst e
      simp [updV, va_rf]
    · by_cases h : j < i
      · simp [updV, e, h, Nat.lt_succ_of_lt h]
      · simp [updV, e, h, show ¬ j < i + 1 by omega]
/-- NAMES speaks of it, the kit has it not: as va_AO, for arrays of arrays -/
def va_AOA (ty : FieldType) (U : State) : Prop := (Cond.arrayOver (.array ty)).before #[] U = true
theorem va_AOA.use {ty : FieldType} {A : Array Value} {U : State} (h : va_AOA ty U) : (Cond.arrayOver (.array ty)).before A U = true := h
section VGM
variable {p : Program} {l : Launch} {e : Env} {R : Room} {s : State} {m : MethodId} {args : Array Value} {below : List Frame} {meth : Method} {c : Code} {H : Heap} {locs : List Loc} {cells slots : Nat} {Q : State → Prop}
variable {cc : ByteArray} {pc : Nat} {ls : Array Slot} {rest : List Value} {D : va_G} {cl : List vw_C} {A : Nat → Prop} {a : Nat} {tys : List (ClassId × FieldType)} {ws : va_W} {H0 : Heap}
theorem va_mna {X : va_W} {L : List Nat} {f : Nat → va_E} {cc : ByteArray} (hexec : p.tables.exec = Jvm.exec) (hb : c.code = cc) {own : String} {index : Nat} {ty : FieldType} {cy : ClassId} (hown : s.vm.findClass own = some m.cls) (hclink : (Cond.classLink own index ("[" ++ (FieldType.array ty).toString)).before args s = true) (hover : va_AOA ty s) (harr : (Cond.arrayClass ty).before args s = true) (hcy : s.vm.findClass (FieldType.array ty).toString = some cy)
    (hK : va_K D cl tys s) (hP : va_P D cl (X ++ va_pl L f) H) (hD : va_D A (X ++ va_pl L f)) (hS : va_S A H0 H locs) (hA : ∀ q, H0.size ≤ q → A q) {n k : Int32} {N' K' : Nat} {z : vp_A} (hn : ¬ n < 0) (hk : ¬ k < 0) (hN : n.toNatClampNeg = N') (hM : k.toNatClampNeg = K')
    (hb1 : N' * 4 ≤ 536870912) (hb2 : K' * componentBytes ty ≤ 536870912) (hb3 : K' ≤ 536870912) (hdf : fits ty (defaultValue ty) = true) (hdd : (defaultValue ty).isDefault = true) (hcells : cells + (1 + N') ≤ R.cells) (hslots : slots + (N' + N' * K') ≤ R.slots) (hz : ∀ c : ClassId, Jvm.Free.Multi.innerC c K' (defaultValue ty) = vp_cell c z) (hdg : decode cc pc = .ok (.multianewarray index 2, 4))
    (kk : ∀ (q : Nat) (r : Nat → Nat) (cA : ClassId) (H1 : Heap), (∀ i j : Nat, i < N' → j < N' → r i = r j → i = j) → (∀ i : Nat, i < N' → r i ∉ L) → va_K D cl (tys ++ [(cA, .array ty)]) s →
      va_P D cl ((X ++ [(q, .inl (cA, N', .inr (.inr (.inr (.inr (fun i => if i < N' then some (r i) else none))))))]) ++ va_pl (L ++ (List.range N').map r) (vr_up f ((List.range N').map r) (.inl (cy, z)))) H1 → va_D A ((X ++ [(q, .inl (cA, N', .inr (.inr (.inr (.inr (fun i => if i < N' then some (r i) else none))))))]) ++ va_pl (L ++ (List.range N').map r) (vr_up f ((List.range N').map r) (.inl (cy, z)))) → va_S A H0 H1 locs →
      W p l e R s m args below meth c H1 locs (cells + 1 + N') (slots + N' + N' * K') Q (F0 m (pc + 4) ls (.ref q :: rest))) : W p l e R s m args below meth c H locs cells slots Q (F0 m pc ls (.int k :: .int n :: rest)) := by
  subst hN
  subst hM
  intro T hT Xs
  obtain ⟨vm₁, cA, comp, -, fA, fC, hO, -, X', step⟩ := Xs.multianewarray2F hexec hown hclink (va_AOA.use hover) harr (g := F0 m pc ls (.int k :: .int n :: rest)) rfl (by rw [hb]; exact hdg) rfl hn hk hb1 hb2 hb3 hdf hdd hcells hslots
  have ec : some cy = some comp := hcy.symm.trans fC
  cases ec
  generalize hF : Jvm.Free.Multi.fill (T.setVm vm₁) cA cy n.toNatClampNeg k.toNatClampNeg (defaultValue ty) n.toNatClampNeg = F at X' step
  have hTh : (T.setVm vm₁).heap = H := hT
  obtain ⟨f1, f2, -, -⟩ := Jvm.Free.Multi.fill_facts (T.setVm vm₁) cA cy n.toNatClampNeg k.toNatClampNeg (defaultValue ty) n.toNatClampNeg
  rw [hF, hTh] at f1 f2
  have hold : ∀ x : Nat, x < H.size → F.heap[x]? = H[x]? := fun x hx => by
    have := Jvm.Free.Multi.fill_old (T.setVm vm₁) cA cy n.toNatClampNeg k.toNatClampNeg (defaultValue ty) (a := x) (by rw [hTh]; exact hx) n.toNatClampNeg
    rw [hF, hTh] at this
    exact this
  have hrow : ∀ j : Nat, j < n.toNatClampNeg → F.heap[H.size + 1 + j]? = some (vp_cell cy z) := fun j hj => by
    have := Jvm.Free.Multi.fill_inner (T.setVm vm₁) cA cy n.toNatClampNeg k.toNatClampNeg (defaultValue ty) n.toNatClampNeg j hj
    rw [hF, hTh, hz] at this
    exact this
  have hout : Jvm.Free.Multi.outerC cA n.toNatClampNeg H.size n.toNatClampNeg = vp_cell cA (n.toNatClampNeg, .inr (.inr (.inr (.inr (fun i => if i < n.toNatClampNeg then some (H.size + 1 + i) else none))))) := by
    rw [vp_cell_q]
    exact vr_outer cA n.toNatClampNeg H.size n.toNatClampNeg
  rw [hout] at f2
  have hlt : ∀ a, a ∈ L → a < H.size := fun a ha => by
    obtain ⟨k9, hk9⟩ := va_pl_get (X := X) (f := f) ha
    exact (hP k9 _ hk9).lt
  have hnl : ∀ i : Nat, i < n.toNatClampNeg → H.size + 1 + i ∉ L := fun i _ h => by
    have := hlt _ h
    omega
  have hnm : ∀ a, a ∈ (List.range n.toNatClampNeg).map (fun i => H.size + 1 + i) → a ∉ L := fun a ha h => by
    obtain ⟨i, -, rfl⟩ := List.mem_map.mp ha
    have := hlt _ h
    omega
  have hP0 : va_P D cl (X ++ va_pl L f) F.heap := hP.kept (fun k9 x hx => hold x.1 ((hP k9 x hx).lt))
  have hP1 : va_P D cl ((X ++ va_pl L f) ++ [(H.size, .inl (cA, n.toNatClampNeg, .inr (.inr (.inr (.inr (fun i => if i < n.toNatClampNeg then some (H.size + 1 + i) else none))))))]) F.heap := hP0.app (fun k9 x hx => by
    have h0 : k9 < 1 := (List.getElem?_eq_some_iff.mp hx).1
    rw [show k9 = 0 by omega] at hx
    cases hx
    exact f2)
  have hP2 : va_P D cl (((X ++ va_pl L f) ++ [(H.size, .inl (cA, n.toNatClampNeg, .inr (.inr (.inr (.inr (fun i => if i < n.toNatClampNeg then some (H.size + 1 + i) else none))))))]) ++ ((List.range n.toNatClampNeg).map (fun i => H.size + 1 + i)).map (fun a => (a, .inl (cy, z)))) F.heap := hP1.app (fun k9 x hx => by
    obtain ⟨a, ha, rfl⟩ := List.mem_map.mp (List.mem_of_getElem? hx)
    obtain ⟨i, hi, rfl⟩ := List.mem_map.mp ha
    exact hrow i (List.mem_range.mp hi))
  have hD2 : va_D A (((X ++ va_pl L f) ++ [(H.size, .inl (cA, n.toNatClampNeg, .inr (.inr (.inr (.inr (fun i => if i < n.toNatClampNeg then some (H.size + 1 + i) else none))))))]) ++ ((List.range n.toNatClampNeg).map (fun i => H.size + 1 + i)).map (fun a => (a, .inl (cy, z)))) := by
    have hD1 := hD.push (e := .inl (cA, n.toNatClampNeg, .inr (.inr (.inr (.inr (fun i => if i < n.toNatClampNeg then some (H.size + 1 + i) else none)))))) hP rfl (hA _ hS.1)
    generalize hW1 : (X ++ va_pl L f) ++ [(H.size, .inl (cA, n.toNatClampNeg, .inr (.inr (.inr (.inr (fun i => if i < n.toNatClampNeg then some (H.size + 1 + i) else none))))))] = W1 at hD1 hP1 ⊢
    have hle : ∀ (k9 : Nat) (x : Nat × va_E), W1[k9]? = some x → x.1 ≤ H.size := fun k9 x hx => by
      rw [← hW1] at hx
      by_cases hl : k9 < (X ++ va_pl L f).length
      · rw [List.getElem?_append_left hl] at hx
        exact Nat.le_of_lt ((hP k9 x hx).lt)
      · rw [List.getElem?_append_right (by omega)] at hx
        have h0 : k9 - (X ++ va_pl L f).length < 1 := (List.getElem?_eq_some_iff.mp hx).1
        rw [show k9 - (X ++ va_pl L f).length = 0 by omega] at hx
        cases hx
        exact Nat.le_refl _
    have hr : ∀ (k9 : Nat) (x : Nat × va_E), (((List.range n.toNatClampNeg).map (fun i => H.size + 1 + i)).map (fun a => ((a, .inl (cy, z)) : Nat × va_E)))[k9]? = some x → x.1 = H.size + 1 + k9 := fun k9 x hx => by
      rw [List.getElem?_map, List.getElem?_map] at hx
      by_cases h9 : k9 < n.toNatClampNeg
      · rw [List.getElem?_range h9] at hx
        cases hx
        rfl
      · have hn0 : (List.range n.toNatClampNeg)[k9]? = none := List.getElem?_eq_none (by rw [List.length_range]; omega)
        rw [hn0] at hx
        cases hx
    refine ⟨fun i j x y hi hj hxy => ?_, fun k9 x hx => ?_⟩
    · by_cases h1 : i < W1.length <;> by_cases h2 : j < W1.length
      · rw [List.getElem?_append_left h1] at hi
        rw [List.getElem?_append_left h2] at hj
        exact hD1.1 i j x y hi hj hxy
      · rw [List.getElem?_append_left h1] at hi
        rw [List.getElem?_append_right (by omega)] at hj
        have := hle _ _ hi
        have := hr _ _ hj
        omega
      · rw [List.getElem?_append_right (by omega)] at hi
        rw [List.getElem?_append_left h2] at hj
        have := hle _ _ hj
        have := hr _ _ hi
        omega
      · rw [List.getElem?_append_right (by omega)] at hi hj
        have := hr _ _ hi
        have := hr _ _ hj
        omega
    · by_cases h1 : k9 < W1.length
      · rw [List.getElem?_append_left h1] at hx
        exact hD1.2 k9 x hx
      · rw [List.getElem?_append_right (by omega)] at hx
        have := hr _ _ hx
        exact hA _ (by have := hS.1; omega)
  have hAr : ArrOfT s cA (.array ty) := fun N9 z9 => by
    obtain ⟨-, k9, hk9, cm9, hkk9⟩ := (hO 0 0 0).1
    exact ⟨(fun q hq => by cases hq), k9, hk9, cm9, hkk9⟩
  have hK2 : va_K D cl (tys ++ [(cA, .array ty)]) s := ⟨hK.1, fun k9 x hx => by
    by_cases hl : k9 < tys.length
    · rw [List.getElem?_append_left hl] at hx
      exact hK.2 k9 x hx
    · rw [List.getElem?_append_right (by omega)] at hx
      have h0 : k9 - tys.length < 1 := (List.getElem?_eq_some_iff.mp hx).1
      rw [show k9 - tys.length = 0 by omega] at hx
      cases hx
      exact ⟨hAr, fA⟩⟩
  obtain ⟨t, a1, b1⟩ := kk H.size (fun i => H.size + 1 + i) cA F.heap (fun i j _ _ h => by have h9 : H.size + 1 + i = H.size + 1 + j := h; omega) hnl hK2 (by rw [← vr_rows hnm]; exact vr_lay hP2) (by rw [← vr_rows hnm]; exact vr_layD hD2) ⟨by rw [f1]; have := hS.1; omega, fun x h1 h2 => (hold x (Nat.lt_of_lt_of_le h1 hS.1)).trans (hS.2.1 x h1 h2), hS.2.2⟩ F rfl X'
  refine ⟨t, step t ?_, b1⟩
  have e : T.heap.size = H.size := by rw [hT]
  rw [e]
  exact a1
end VGM
/-! ===== END ===== -/

/-! ===== BEGIN printed: names, fields, word lists, decode rows ===== -/
def RX0 : String := "RootedClasses$Elements"
def TX0 : u_T := fun k => match k with
  | 0 => ("RootedClasses$Elements", "order", "I", false)
  | 1 => ("RootedClasses$Elements", "codes", "[I", true)
  | 2 => ("RootedClasses$Elements", "inverses", "[I", true)
  | 3 => ("RootedClasses$Elements", "points", "I", false)
  | 4 => ("RootedClasses$Elements", "figures", "[I", true)
  | 5 => ("RootedClasses$Elements", "generators", "[I", true)
  | 6 => ("RootedClasses$Elements", "codeAtKey", "[I", true)
  | 7 => ("RootedClasses$Elements", "placeAtKey", "[I", true)
  | _ => ("RootedClasses$Elements", "made", "[I", true)
def tyX0 : Nat → FieldType := fun k => match k with
  | 0 => .int
  | 1 => .array .int
  | 2 => .array .int
  | 3 => .int
  | 4 => .array .int
  | 5 => .array .int
  | 6 => .array .int
  | 7 => .array .int
  | _ => .array .int
abbrev wsX00 : List Cond := u_ws RX0 TX0 9
theorem nmX0 : ∀ a, a < 9 → ∀ b, b < 9 → a ≠ b → (TX0 a).2.1 ≠ (TX0 b).2.1 := by decide +kernel
theorem tyX0_ok : ∀ k, k < 9 → parseFieldDescriptor (TX0 k).2.2.1 = some (tyX0 k) := by decide +kernel
abbrev cX0_init : ByteArray := prog_2_method_1_code
def yX0_init : MethodName := ⟨RX0, "<init>", "()V"⟩
abbrev cX0_build : ByteArray := prog_2_method_2_code
def yX0_build : MethodName := ⟨RX0, "build", "(LRootedClasses$Setting;)V"⟩
abbrev cX0_multiplied : ByteArray := prog_2_method_3_code
def yX0_multiplied : MethodName := ⟨RX0, "multiplied", "(II)I"⟩
abbrev cX0_movedBy : ByteArray := prog_2_method_4_code
def yX0_movedBy : MethodName := ⟨RX0, "movedBy", "(II)I"⟩
abbrev cX0_pointsLeft : ByteArray := prog_2_method_5_code
def yX0_pointsLeft : MethodName := ⟨RX0, "pointsLeft", "(I)I"⟩
abbrev cX0_makeAll : ByteArray := prog_2_method_6_code
def yX0_makeAll : MethodName := ⟨RX0, "makeAll", "(I)V"⟩
abbrev cX0_addMade : ByteArray := prog_2_method_7_code
def yX0_addMade : MethodName := ⟨RX0, "addMade", "()V"⟩
abbrev cX0_putInOrder : ByteArray := prog_2_method_8_code
def yX0_putInOrder : MethodName := ⟨RX0, "putInOrder", "()V"⟩
abbrev cX0_findInverses : ByteArray := prog_2_method_9_code
def yX0_findInverses : MethodName := ⟨RX0, "findInverses", "()V"⟩
abbrev cX0_spell : ByteArray := prog_2_method_10_code
def yX0_spell : MethodName := ⟨RX0, "spell", "(I[II)V"⟩
abbrev cX0_placeOfMade : ByteArray := prog_2_method_11_code
def yX0_placeOfMade : MethodName := ⟨RX0, "placeOfMade", "()I"⟩
abbrev cX0_keyOfMade : ByteArray := prog_2_method_12_code
def yX0_keyOfMade : MethodName := ⟨RX0, "keyOfMade", "()I"⟩
def RX1 : String := "RootedClasses$Past"
def TX1 : u_T := fun k => match k with
  | 0 => ("RootedClasses$Past", "count", "I", false)
  | _ => ("RootedClasses$Past", "states", "[LRootedClasses$Setting;", true)
def tyX1 : Nat → FieldType := fun k => match k with
  | 0 => .int
  | _ => .array (.object "RootedClasses$Setting")
abbrev wsX10 : List Cond := u_ws RX1 TX1 2
theorem nmX1 : ∀ a, a < 2 → ∀ b, b < 2 → a ≠ b → (TX1 a).2.1 ≠ (TX1 b).2.1 := by decide +kernel
theorem tyX1_ok : ∀ k, k < 2 → parseFieldDescriptor (TX1 k).2.2.1 = some (tyX1 k) := by decide +kernel
abbrev cX1_init : ByteArray := prog_3_method_1_code
def yX1_init : MethodName := ⟨RX1, "<init>", "()V"⟩
abbrev cX1_keep : ByteArray := prog_3_method_2_code
def yX1_keep : MethodName := ⟨RX1, "keep", "(LRootedClasses$Setting;)V"⟩
abbrev cX1_restore : ByteArray := prog_3_method_3_code
def yX1_restore : MethodName := ⟨RX1, "restore", "(LRootedClasses$Setting;)V"⟩
abbrev cX1_loseOldest : ByteArray := prog_3_method_4_code
def yX1_loseOldest : MethodName := ⟨RX1, "loseOldest", "()V"⟩
def RX2 : String := "RootedClasses$Prime"
def TX2 : u_T := fun k => match k with
  | 0 => ("RootedClasses$Prime", "p", "I", false)
  | 1 => ("RootedClasses$Prime", "root", "I", false)
  | 2 => ("RootedClasses$Prime", "over", "[I", true)
  | _ => ("RootedClasses$Prime", "rootPowers", "[I", true)
def tyX2 : Nat → FieldType := fun k => match k with
  | 0 => .int
  | 1 => .int
  | 2 => .array .int
  | _ => .array .int
abbrev wsX20 : List Cond := u_ws RX2 TX2 4
theorem nmX2 : ∀ a, a < 4 → ∀ b, b < 4 → a ≠ b → (TX2 a).2.1 ≠ (TX2 b).2.1 := by decide +kernel
theorem tyX2_ok : ∀ k, k < 4 → parseFieldDescriptor (TX2 k).2.2.1 = some (tyX2 k) := by decide +kernel
abbrev cX2_init : ByteArray := prog_4_method_1_code
def yX2_init : MethodName := ⟨RX2, "<init>", "()V"⟩
abbrev cX2_choose : ByteArray := prog_4_method_2_code
def yX2_choose : MethodName := ⟨RX2, "choose", "(II)V"⟩
abbrev cX2_left : ByteArray := prog_4_method_3_code
def yX2_left : MethodName := ⟨RX2, "left", "(I)I"⟩
abbrev cX2_divided : ByteArray := prog_4_method_4_code
def yX2_divided : MethodName := ⟨RX2, "divided", "(II)I"⟩
abbrev cX2_isPrime : ByteArray := prog_4_method_5_code
def yX2_isPrime : MethodName := ⟨RX2, "isPrime", "(I)Z"⟩
abbrev cX2_findOver : ByteArray := prog_4_method_6_code
def yX2_findOver : MethodName := ⟨RX2, "findOver", "()V"⟩
abbrev cX2_powerOf : ByteArray := prog_4_method_7_code
def yX2_powerOf : MethodName := ⟨RX2, "powerOf", "(II)I"⟩
abbrev cX2_leastMaker : ByteArray := prog_4_method_8_code
def yX2_leastMaker : MethodName := ⟨RX2, "leastMaker", "()I"⟩
def RX3 : String := "RootedClasses$Rows"
def TX3 : u_T := fun k => match k with
  | 0 => ("RootedClasses$Rows", "sorts", "LRootedClasses$Sorts;", true)
  | 1 => ("RootedClasses$Rows", "prime", "LRootedClasses$Prime;", true)
  | 2 => ("RootedClasses$Rows", "count", "I", false)
  | 3 => ("RootedClasses$Rows", "degrees", "[I", true)
  | 4 => ("RootedClasses$Rows", "spreads", "[[I", true)
  | 5 => ("RootedClasses$Rows", "values", "[[I", true)
  | 6 => ("RootedClasses$Rows", "multiplied", "[I", true)
  | _ => ("RootedClasses$Rows", "spaces", "LRootedClasses$Spaces;", true)
def tyX3 : Nat → FieldType := fun k => match k with
  | 0 => .object "RootedClasses$Sorts"
  | 1 => .object "RootedClasses$Prime"
  | 2 => .int
  | 3 => .array .int
  | 4 => .array (.array .int)
  | 5 => .array (.array .int)
  | 6 => .array .int
  | _ => .object "RootedClasses$Spaces"
abbrev wsX30 : List Cond := u_ws RX3 TX3 8
theorem nmX3 : ∀ a, a < 8 → ∀ b, b < 8 → a ≠ b → (TX3 a).2.1 ≠ (TX3 b).2.1 := by decide +kernel
theorem tyX3_ok : ∀ k, k < 8 → parseFieldDescriptor (TX3 k).2.2.1 = some (tyX3 k) := by decide +kernel
abbrev cX3_init : ByteArray := prog_5_method_1_code
def yX3_init : MethodName := ⟨RX3, "<init>", "()V"⟩
abbrev cX3_build : ByteArray := prog_5_method_2_code
def yX3_build : MethodName := ⟨RX3, "build", "()V"⟩
abbrev cX3_countOfDegreeOne : ByteArray := prog_5_method_3_code
def yX3_countOfDegreeOne : MethodName := ⟨RX3, "countOfDegreeOne", "()I"⟩
abbrev cX3_rootCount : ByteArray := prog_5_method_4_code
def yX3_rootCount : MethodName := ⟨RX3, "rootCount", "(III)I"⟩
abbrev cX3_mirrorSign : ByteArray := prog_5_method_5_code
def yX3_mirrorSign : MethodName := ⟨RX3, "mirrorSign", "(I)I"⟩
abbrev cX3_blindBits : ByteArray := prog_5_method_6_code
def yX3_blindBits : MethodName := ⟨RX3, "blindBits", "(I)I"⟩
abbrev cX3_meet : ByteArray := prog_5_method_7_code
def yX3_meet : MethodName := ⟨RX3, "meet", "([I[I)I"⟩
abbrev cX3_multiplyRows : ByteArray := prog_5_method_8_code
def yX3_multiplyRows : MethodName := ⟨RX3, "multiplyRows", "(II)V"⟩
abbrev cX3_rowLike : ByteArray := prog_5_method_9_code
def yX3_rowLike : MethodName := ⟨RX3, "rowLike", "([I)I"⟩
abbrev cX3_degreeOf : ByteArray := prog_5_method_10_code
def yX3_degreeOf : MethodName := ⟨RX3, "degreeOf", "([I)I"⟩
abbrev cX3_putInOrder : ByteArray := prog_5_method_11_code
def yX3_putInOrder : MethodName := ⟨RX3, "putInOrder", "()V"⟩
abbrev cX3_comesBefore : ByteArray := prog_5_method_12_code
def yX3_comesBefore : MethodName := ⟨RX3, "comesBefore", "(II)Z"⟩
abbrev cX3_differAt : ByteArray := prog_5_method_13_code
def yX3_differAt : MethodName := ⟨RX3, "differAt", "([I[I)I"⟩
abbrev cX3_exchange : ByteArray := prog_5_method_14_code
def yX3_exchange : MethodName := ⟨RX3, "exchange", "(II)V"⟩
def RX4 : String := "RootedClasses$Script"
def TX4 : u_T := fun k => match k with
  | 0 => ("RootedClasses$Script", "length", "I", false)
  | 1 => ("RootedClasses$Script", "bytes", "[I", true)
  | 2 => ("RootedClasses$Script", "kinds", "[I", true)
  | 3 => ("RootedClasses$Script", "numbers", "[I", true)
  | 4 => ("RootedClasses$Script", "orders", "I", false)
  | 5 => ("RootedClasses$Script", "kind", "I", false)
  | 6 => ("RootedClasses$Script", "number", "I", false)
  | 7 => ("RootedClasses$Script", "figuresDue", "I", false)
  | 8 => ("RootedClasses$Script", "figuresSeen", "I", false)
  | _ => ("RootedClasses$Script", "pointsThen", "I", false)
def tyX4 : Nat → FieldType := fun k => match k with
  | 0 => .int
  | 1 => .array .int
  | 2 => .array .int
  | 3 => .array .int
  | 4 => .int
  | 5 => .int
  | 6 => .int
  | 7 => .int
  | 8 => .int
  | _ => .int
abbrev wsX40 : List Cond := u_ws RX4 TX4 10
theorem nmX4 : ∀ a, a < 10 → ∀ b, b < 10 → a ≠ b → (TX4 a).2.1 ≠ (TX4 b).2.1 := by decide +kernel
theorem tyX4_ok : ∀ k, k < 10 → parseFieldDescriptor (TX4 k).2.2.1 = some (tyX4 k) := by decide +kernel
abbrev cX4_init : ByteArray := prog_6_method_1_code
def yX4_init : MethodName := ⟨RX4, "<init>", "()V"⟩
abbrev cX4_append : ByteArray := prog_6_method_2_code
def yX4_append : MethodName := ⟨RX4, "append", "(I)I"⟩
abbrev cX4_empty : ByteArray := prog_6_method_3_code
def yX4_empty : MethodName := ⟨RX4, "empty", "()I"⟩
abbrev cX4_carryOut : ByteArray := prog_6_method_4_code
def yX4_carryOut : MethodName := ⟨RX4, "carryOut", "(LRootedClasses$Setting;)I"⟩
abbrev cX4_obey : ByteArray := prog_6_method_5_code
def yX4_obey : MethodName := ⟨RX4, "obey", "(LRootedClasses$Setting;II)I"⟩
abbrev cX4_findFault : ByteArray := prog_6_method_6_code
def yX4_findFault : MethodName := ⟨RX4, "findFault", "(I)I"⟩
abbrev cX4_takes : ByteArray := prog_6_method_7_code
def yX4_takes : MethodName := ⟨RX4, "takes", "(I)Z"⟩
abbrev cX4_opens : ByteArray := prog_6_method_8_code
def yX4_opens : MethodName := ⟨RX4, "opens", "(I)Z"⟩
abbrev cX4_takesFigure : ByteArray := prog_6_method_9_code
def yX4_takesFigure : MethodName := ⟨RX4, "takesFigure", "(I)Z"⟩
abbrev cX4_closes : ByteArray := prog_6_method_10_code
def yX4_closes : MethodName := ⟨RX4, "closes", "(I)Z"⟩
def RX5 : String := "RootedClasses$Setting"
def TX5 : u_T := fun k => match k with
  | 0 => ("RootedClasses$Setting", "points", "I", false)
  | 1 => ("RootedClasses$Setting", "count", "I", false)
  | _ => ("RootedClasses$Setting", "codes", "[I", true)
def tyX5 : Nat → FieldType := fun k => match k with
  | 0 => .int
  | 1 => .int
  | _ => .array .int
abbrev wsX50 : List Cond := u_ws RX5 TX5 3
theorem nmX5 : ∀ a, a < 3 → ∀ b, b < 3 → a ≠ b → (TX5 a).2.1 ≠ (TX5 b).2.1 := by decide +kernel
theorem tyX5_ok : ∀ k, k < 3 → parseFieldDescriptor (TX5 k).2.2.1 = some (tyX5 k) := by decide +kernel
abbrev cX5_init : ByteArray := prog_7_method_1_code
def yX5_init : MethodName := ⟨RX5, "<init>", "()V"⟩
abbrev cX5_copyFrom : ByteArray := prog_7_method_2_code
def yX5_copyFrom : MethodName := ⟨RX5, "copyFrom", "(LRootedClasses$Setting;)V"⟩
abbrev cX5_setPoints : ByteArray := prog_7_method_3_code
def yX5_setPoints : MethodName := ⟨RX5, "setPoints", "(I)I"⟩
abbrev cX5_addGenerator : ByteArray := prog_7_method_4_code
def yX5_addGenerator : MethodName := ⟨RX5, "addGenerator", "(I)I"⟩
abbrev cX5_dropGenerator : ByteArray := prog_7_method_5_code
def yX5_dropGenerator : MethodName := ⟨RX5, "dropGenerator", "(I)I"⟩
abbrev cX5_isMove : ByteArray := prog_7_method_6_code
def yX5_isMove : MethodName := ⟨RX5, "isMove", "(I)Z"⟩
def RX6 : String := "RootedClasses$Sorts"
def TX6 : u_T := fun k => match k with
  | 0 => ("RootedClasses$Sorts", "elements", "LRootedClasses$Elements;", true)
  | 1 => ("RootedClasses$Sorts", "count", "I", false)
  | 2 => ("RootedClasses$Sorts", "exponent", "I", false)
  | 3 => ("RootedClasses$Sorts", "sortOf", "[I", true)
  | 4 => ("RootedClasses$Sorts", "sizes", "[I", true)
  | 5 => ("RootedClasses$Sorts", "turns", "[I", true)
  | 6 => ("RootedClasses$Sorts", "leasts", "[I", true)
  | 7 => ("RootedClasses$Sorts", "inverses", "[I", true)
  | 8 => ("RootedClasses$Sorts", "pointsLeft", "[I", true)
  | 9 => ("RootedClasses$Sorts", "pairs", "[I", true)
  | _ => ("RootedClasses$Sorts", "powers", "[I", true)
def tyX6 : Nat → FieldType := fun k => match k with
  | 0 => .object "RootedClasses$Elements"
  | 1 => .int
  | 2 => .int
  | 3 => .array .int
  | 4 => .array .int
  | 5 => .array .int
  | 6 => .array .int
  | 7 => .array .int
  | 8 => .array .int
  | 9 => .array .int
  | _ => .array .int
abbrev wsX60 : List Cond := u_ws RX6 TX6 11
theorem nmX6 : ∀ a, a < 11 → ∀ b, b < 11 → a ≠ b → (TX6 a).2.1 ≠ (TX6 b).2.1 := by decide +kernel
theorem tyX6_ok : ∀ k, k < 11 → parseFieldDescriptor (TX6 k).2.2.1 = some (tyX6 k) := by decide +kernel
abbrev cX6_init : ByteArray := prog_8_method_1_code
def yX6_init : MethodName := ⟨RX6, "<init>", "()V"⟩
abbrev cX6_pairPlace : ByteArray := prog_8_method_2_code
def yX6_pairPlace : MethodName := ⟨RX6, "pairPlace", "(III)I"⟩
abbrev cX6_takeApart : ByteArray := prog_8_method_3_code
def yX6_takeApart : MethodName := ⟨RX6, "takeApart", "()V"⟩
abbrev cX6_describe : ByteArray := prog_8_method_4_code
def yX6_describe : MethodName := ⟨RX6, "describe", "()V"⟩
abbrev cX6_countAlone : ByteArray := prog_8_method_5_code
def yX6_countAlone : MethodName := ⟨RX6, "countAlone", "()I"⟩
abbrev cX6_powerSort : ByteArray := prog_8_method_6_code
def yX6_powerSort : MethodName := ⟨RX6, "powerSort", "(II)I"⟩
abbrev cX6_gather : ByteArray := prog_8_method_7_code
def yX6_gather : MethodName := ⟨RX6, "gather", "(II)I"⟩
abbrev cX6_findPowers : ByteArray := prog_8_method_8_code
def yX6_findPowers : MethodName := ⟨RX6, "findPowers", "(I)V"⟩
abbrev cX6_leastShared : ByteArray := prog_8_method_9_code
def yX6_leastShared : MethodName := ⟨RX6, "leastShared", "(II)I"⟩
abbrev cX6_countPairs : ByteArray := prog_8_method_10_code
def yX6_countPairs : MethodName := ⟨RX6, "countPairs", "()V"⟩
def RX7 : String := "RootedClasses$Spaces"
def TX7 : u_T := fun k => match k with
  | 0 => ("RootedClasses$Spaces", "lines", "[[I", false)
  | 1 => ("RootedClasses$Spaces", "nextLines", "[[I", false)
  | 2 => ("RootedClasses$Spaces", "starts", "[I", false)
  | 3 => ("RootedClasses$Spaces", "nextStarts", "[I", false)
  | 4 => ("RootedClasses$Spaces", "spaces", "I", false)
  | 5 => ("RootedClasses$Spaces", "nextSpaces", "I", false)
  | 6 => ("RootedClasses$Spaces", "nextCount", "I", false)
  | 7 => ("RootedClasses$Spaces", "width", "I", false)
  | 8 => ("RootedClasses$Spaces", "action", "[[I", true)
  | 9 => ("RootedClasses$Spaces", "work", "[[I", true)
  | 10 => ("RootedClasses$Spaces", "pivots", "[I", true)
  | _ => ("RootedClasses$Spaces", "mix", "[I", true)
def tyX7 : Nat → FieldType := fun k => match k with
  | 0 => .array (.array .int)
  | 1 => .array (.array .int)
  | 2 => .array .int
  | 3 => .array .int
  | 4 => .int
  | 5 => .int
  | 6 => .int
  | 7 => .int
  | 8 => .array (.array .int)
  | 9 => .array (.array .int)
  | 10 => .array .int
  | _ => .array .int
abbrev wsX70 : List Cond := u_ws RX7 TX7 12
theorem nmX7 : ∀ a, a < 12 → ∀ b, b < 12 → a ≠ b → (TX7 a).2.1 ≠ (TX7 b).2.1 := by decide +kernel
theorem tyX7_ok : ∀ k, k < 12 → parseFieldDescriptor (TX7 k).2.2.1 = some (tyX7 k) := by decide +kernel
abbrev cX7_init : ByteArray := prog_9_method_1_code
def yX7_init : MethodName := ⟨RX7, "<init>", "()V"⟩
abbrev cX7_takeApart : ByteArray := prog_9_method_2_code
def yX7_takeApart : MethodName := ⟨RX7, "takeApart", "(LRootedClasses$Sorts;LRootedClasses$Prime;)V"⟩
abbrev cX7_copyLine : ByteArray := prog_9_method_3_code
def yX7_copyLine : MethodName := ⟨RX7, "copyLine", "(I[ILRootedClasses$Prime;)V"⟩
abbrev cX7_begin : ByteArray := prog_9_method_4_code
def yX7_begin : MethodName := ⟨RX7, "begin", "(I)V"⟩
abbrev cX7_takeNext : ByteArray := prog_9_method_5_code
def yX7_takeNext : MethodName := ⟨RX7, "takeNext", "()V"⟩
abbrev cX7_splitSpace : ByteArray := prog_9_method_6_code
def yX7_splitSpace : MethodName := ⟨RX7, "splitSpace", "(IILRootedClasses$Sorts;LRootedClasses$Prime;)V"⟩
abbrev cX7_keepLine : ByteArray := prog_9_method_7_code
def yX7_keepLine : MethodName := ⟨RX7, "keepLine", "(I)V"⟩
abbrev cX7_fillAction : ByteArray := prog_9_method_8_code
def yX7_fillAction : MethodName := ⟨RX7, "fillAction", "(IIILRootedClasses$Sorts;LRootedClasses$Prime;)V"⟩
abbrev cX7_fillWork : ByteArray := prog_9_method_9_code
def yX7_fillWork : MethodName := ⟨RX7, "fillWork", "(IILRootedClasses$Prime;)V"⟩
abbrev cX7_addMixes : ByteArray := prog_9_method_10_code
def yX7_addMixes : MethodName := ⟨RX7, "addMixes", "(IIILRootedClasses$Prime;)V"⟩
abbrev cX7_mixLines : ByteArray := prog_9_method_11_code
def yX7_mixLines : MethodName := ⟨RX7, "mixLines", "(II[ILRootedClasses$Prime;)V"⟩
abbrev cX7_reduce : ByteArray := prog_9_method_12_code
def yX7_reduce : MethodName := ⟨RX7, "reduce", "([[IIIILRootedClasses$Prime;)I"⟩
abbrev cX7_lineWith : ByteArray := prog_9_method_13_code
def yX7_lineWith : MethodName := ⟨RX7, "lineWith", "([[IIII)I"⟩
abbrev cX7_scale : ByteArray := prog_9_method_14_code
def yX7_scale : MethodName := ⟨RX7, "scale", "([IIIII)V"⟩
abbrev cX7_clearColumn : ByteArray := prog_9_method_15_code
def yX7_clearColumn : MethodName := ⟨RX7, "clearColumn", "([I[IIII)V"⟩
def RX8 : String := "RootedClasses"
def TX8 : u_T := fun k => match k with
  | 0 => ("RootedClasses", "now", "LRootedClasses$Setting;", true)
  | 1 => ("RootedClasses", "trial", "LRootedClasses$Setting;", true)
  | 2 => ("RootedClasses", "past", "LRootedClasses$Past;", true)
  | 3 => ("RootedClasses", "script", "LRootedClasses$Script;", true)
  | 4 => ("RootedClasses", "rows", "LRootedClasses$Rows;", true)
  | 5 => ("RootedClasses", "refusals", "[I", true)
  | 6 => ("RootedClasses", "sortsKnown", "Z", false)
  | _ => ("RootedClasses", "rowsKnown", "Z", false)
def tyX8 : Nat → FieldType := fun k => match k with
  | 0 => .object "RootedClasses$Setting"
  | 1 => .object "RootedClasses$Setting"
  | 2 => .object "RootedClasses$Past"
  | 3 => .object "RootedClasses$Script"
  | 4 => .object "RootedClasses$Rows"
  | 5 => .array .int
  | 6 => .boolean
  | _ => .boolean
abbrev wsX80 : List Cond := u_ws RX8 TX8 8
theorem nmX8 : ∀ a, a < 8 → ∀ b, b < 8 → a ≠ b → (TX8 a).2.1 ≠ (TX8 b).2.1 := by decide +kernel
theorem tyX8_ok : ∀ k, k < 8 → parseFieldDescriptor (TX8 k).2.2.1 = some (tyX8 k) := by decide +kernel
abbrev cX8_init : ByteArray := prog_1_method_1_code
def yX8_init : MethodName := ⟨RX8, "<init>", "()V"⟩
abbrev cX8_points : ByteArray := prog_1_method_2_code
def yX8_points : MethodName := ⟨RX8, "points", "(I)I"⟩
abbrev cX8_moves : ByteArray := prog_1_method_3_code
def yX8_moves : MethodName := ⟨RX8, "moves", "(I)I"⟩
abbrev cX8_drops : ByteArray := prog_1_method_4_code
def yX8_drops : MethodName := ⟨RX8, "drops", "(I)I"⟩
abbrev cX8_of : ByteArray := prog_1_method_5_code
def yX8_of : MethodName := ⟨RX8, "of", "(I)I"⟩
abbrev cX8_element : ByteArray := prog_1_method_6_code
def yX8_element : MethodName := ⟨RX8, "element", "(II)I"⟩
abbrev cX8_product : ByteArray := prog_1_method_7_code
def yX8_product : MethodName := ⟨RX8, "product", "(II)I"⟩
abbrev cX8_sort : ByteArray := prog_1_method_8_code
def yX8_sort : MethodName := ⟨RX8, "sort", "(II)I"⟩
abbrev cX8_times : ByteArray := prog_1_method_9_code
def yX8_times : MethodName := ⟨RX8, "times", "(III)I"⟩
abbrev cX8_degree : ByteArray := prog_1_method_10_code
def yX8_degree : MethodName := ⟨RX8, "degree", "(I)I"⟩
abbrev cX8_value : ByteArray := prog_1_method_11_code
def yX8_value : MethodName := ⟨RX8, "value", "(II)I"⟩
abbrev cX8_spread : ByteArray := prog_1_method_12_code
def yX8_spread : MethodName := ⟨RX8, "spread", "(II)I"⟩
abbrev cX8_part : ByteArray := prog_1_method_13_code
def yX8_part : MethodName := ⟨RX8, "part", "(III)I"⟩
abbrev cX8_mirror : ByteArray := prog_1_method_14_code
def yX8_mirror : MethodName := ⟨RX8, "mirror", "(I)I"⟩
abbrev cX8_blind : ByteArray := prog_1_method_15_code
def yX8_blind : MethodName := ⟨RX8, "blind", "(I)I"⟩
abbrev cX8_within : ByteArray := prog_1_method_16_code
def yX8_within : MethodName := ⟨RX8, "within", "(III)I"⟩
abbrev cX8_natural : ByteArray := prog_1_method_17_code
def yX8_natural : MethodName := ⟨RX8, "natural", "(I)I"⟩
abbrev cX8_turned : ByteArray := prog_1_method_18_code
def yX8_turned : MethodName := ⟨RX8, "turned", "(II)I"⟩
abbrev cX8_type : ByteArray := prog_1_method_19_code
def yX8_type : MethodName := ⟨RX8, "type", "(I)I"⟩
abbrev cX8_clear : ByteArray := prog_1_method_20_code
def yX8_clear : MethodName := ⟨RX8, "clear", "()I"⟩
abbrev cX8_reads : ByteArray := prog_1_method_21_code
def yX8_reads : MethodName := ⟨RX8, "reads", "()I"⟩
abbrev cX8_back : ByteArray := prog_1_method_22_code
def yX8_back : MethodName := ⟨RX8, "back", "()I"⟩
abbrev cX8_told : ByteArray := prog_1_method_23_code
def yX8_told : MethodName := ⟨RX8, "told", "(I)I"⟩
abbrev cX8_digest : ByteArray := prog_1_method_24_code
def yX8_digest : MethodName := ⟨RX8, "digest", "()J"⟩
abbrev cX8_isBelow : ByteArray := prog_1_method_25_code
def yX8_isBelow : MethodName := ⟨RX8, "isBelow", "(II)Z"⟩
abbrev cX8_refused : ByteArray := prog_1_method_26_code
def yX8_refused : MethodName := ⟨RX8, "refused", "(I)I"⟩
abbrev cX8_settled : ByteArray := prog_1_method_27_code
def yX8_settled : MethodName := ⟨RX8, "settled", "(I)I"⟩
abbrev cX8_forgetReckoned : ByteArray := prog_1_method_28_code
def yX8_forgetReckoned : MethodName := ⟨RX8, "forgetReckoned", "()V"⟩
abbrev cX8_learnSorts : ByteArray := prog_1_method_29_code
def yX8_learnSorts : MethodName := ⟨RX8, "learnSorts", "()V"⟩
abbrev cX8_learnRows : ByteArray := prog_1_method_30_code
def yX8_learnRows : MethodName := ⟨RX8, "learnRows", "()V"⟩
abbrev cX8_wholeAnswer : ByteArray := prog_1_method_31_code
def yX8_wholeAnswer : MethodName := ⟨RX8, "wholeAnswer", "(I)I"⟩
abbrev cX8_sortAnswer : ByteArray := prog_1_method_32_code
def yX8_sortAnswer : MethodName := ⟨RX8, "sortAnswer", "(II)I"⟩
def RX9 : String := "RootedClassesModel"
def TX9 : u_T := fun k => match k with
  | 0 => ("RootedClassesModel", "now", "[I", true)
  | 1 => ("RootedClassesModel", "held", "[I", true)
  | 2 => ("RootedClassesModel", "past", "[I", true)
  | 3 => ("RootedClassesModel", "pasts", "I", false)
  | 4 => ("RootedClassesModel", "refused", "[I", true)
  | 5 => ("RootedClassesModel", "isLaid", "Z", false)
  | 6 => ("RootedClassesModel", "order", "I", false)
  | 7 => ("RootedClassesModel", "elements", "[I", true)
  | 8 => ("RootedClassesModel", "products", "[I", true)
  | 9 => ("RootedClassesModel", "sortOf", "[I", true)
  | 10 => ("RootedClassesModel", "inverse", "[I", true)
  | 11 => ("RootedClassesModel", "turns", "[I", true)
  | 12 => ("RootedClassesModel", "sorts", "I", false)
  | 13 => ("RootedClassesModel", "size", "[I", true)
  | 14 => ("RootedClassesModel", "least", "[I", true)
  | 15 => ("RootedClassesModel", "exponent", "I", false)
  | 16 => ("RootedClassesModel", "prime", "I", false)
  | 17 => ("RootedClassesModel", "root", "I", false)
  | 18 => ("RootedClassesModel", "timesOf", "[I", true)
  | 19 => ("RootedClassesModel", "spaces", "I", false)
  | 20 => ("RootedClassesModel", "wide", "[I", true)
  | 21 => ("RootedClassesModel", "bases", "[I", true)
  | 22 => ("RootedClassesModel", "splits", "I", false)
  | 23 => ("RootedClassesModel", "newWide", "[I", true)
  | 24 => ("RootedClassesModel", "newBases", "[I", true)
  | 25 => ("RootedClassesModel", "grid", "[I", true)
  | 26 => ("RootedClassesModel", "lead", "[I", true)
  | 27 => ("RootedClassesModel", "spreads", "[I", true)
  | 28 => ("RootedClassesModel", "degrees", "[I", true)
  | 29 => ("RootedClassesModel", "values", "[I", true)
  | 30 => ("RootedClassesModel", "one", "[I", true)
  | 31 => ("RootedClassesModel", "text", "[I", true)
  | 32 => ("RootedClassesModel", "typed", "I", false)
  | 33 => ("RootedClassesModel", "at", "I", false)
  | 34 => ("RootedClassesModel", "fault", "I", false)
  | 35 => ("RootedClassesModel", "orders", "I", false)
  | 36 => ("RootedClassesModel", "pointsThen", "I", false)
  | 37 => ("RootedClassesModel", "letters", "[I", true)
  | 38 => ("RootedClassesModel", "numbers", "[I", true)
  | _ => ("RootedClassesModel", "h", "J", false)
def tyX9 : Nat → FieldType := fun k => match k with
  | 0 => .array .int
  | 1 => .array .int
  | 2 => .array .int
  | 3 => .int
  | 4 => .array .int
  | 5 => .boolean
  | 6 => .int
  | 7 => .array .int
  | 8 => .array .int
  | 9 => .array .int
  | 10 => .array .int
  | 11 => .array .int
  | 12 => .int
  | 13 => .array .int
  | 14 => .array .int
  | 15 => .int
  | 16 => .int
  | 17 => .int
  | 18 => .array .int
  | 19 => .int
  | 20 => .array .int
  | 21 => .array .int
  | 22 => .int
  | 23 => .array .int
  | 24 => .array .int
  | 25 => .array .int
  | 26 => .array .int
  | 27 => .array .int
  | 28 => .array .int
  | 29 => .array .int
  | 30 => .array .int
  | 31 => .array .int
  | 32 => .int
  | 33 => .int
  | 34 => .int
  | 35 => .int
  | 36 => .int
  | 37 => .array .int
  | 38 => .array .int
  | _ => .long
abbrev wsX90 : List Cond := u_ws RX9 TX9 40
theorem nmX9 : ∀ a, a < 40 → ∀ b, b < 40 → a ≠ b → (TX9 a).2.1 ≠ (TX9 b).2.1 := by decide +kernel
theorem tyX9_ok : ∀ k, k < 40 → parseFieldDescriptor (TX9 k).2.2.1 = some (tyX9 k) := by decide +kernel
abbrev cX9_init : ByteArray := prog_11_method_1_code
def yX9_init : MethodName := ⟨RX9, "<init>", "()V"⟩
abbrev cX9_in : ByteArray := prog_11_method_2_code
def yX9_in : MethodName := ⟨RX9, "in", "(III)Z"⟩
abbrev cX9_has : ByteArray := prog_11_method_3_code
def yX9_has : MethodName := ⟨RX9, "has", "(II)Z"⟩
abbrev cX9_refuses : ByteArray := prog_11_method_4_code
def yX9_refuses : MethodName := ⟨RX9, "refuses", "(I)I"⟩
abbrev cX9_hold : ByteArray := prog_11_method_5_code
def yX9_hold : MethodName := ⟨RX9, "hold", "()V"⟩
abbrev cX9_push : ByteArray := prog_11_method_6_code
def yX9_push : MethodName := ⟨RX9, "push", "()V"⟩
abbrev cX9_ends : ByteArray := prog_11_method_7_code
def yX9_ends : MethodName := ⟨RX9, "ends", "(I)I"⟩
abbrev cX9_back : ByteArray := prog_11_method_8_code
def yX9_back : MethodName := ⟨RX9, "back", "()I"⟩
abbrev cX9_to : ByteArray := prog_11_method_9_code
def yX9_to : MethodName := ⟨RX9, "to", "(II)I"⟩
abbrev cX9_isMove : ByteArray := prog_11_method_10_code
def yX9_isMove : MethodName := ⟨RX9, "isMove", "(I)Z"⟩
abbrev cX9_both : ByteArray := prog_11_method_11_code
def yX9_both : MethodName := ⟨RX9, "both", "(II)I"⟩
abbrev cX9_stays : ByteArray := prog_11_method_12_code
def yX9_stays : MethodName := ⟨RX9, "stays", "()I"⟩
abbrev cX9_doPoints : ByteArray := prog_11_method_13_code
def yX9_doPoints : MethodName := ⟨RX9, "doPoints", "(I)I"⟩
abbrev cX9_doMoves : ByteArray := prog_11_method_14_code
def yX9_doMoves : MethodName := ⟨RX9, "doMoves", "(I)I"⟩
abbrev cX9_doDrops : ByteArray := prog_11_method_15_code
def yX9_doDrops : MethodName := ⟨RX9, "doDrops", "(I)I"⟩
abbrev cX9_points : ByteArray := prog_11_method_16_code
def yX9_points : MethodName := ⟨RX9, "points", "(I)I"⟩
abbrev cX9_moves : ByteArray := prog_11_method_17_code
def yX9_moves : MethodName := ⟨RX9, "moves", "(I)I"⟩
abbrev cX9_drops : ByteArray := prog_11_method_18_code
def yX9_drops : MethodName := ⟨RX9, "drops", "(I)I"⟩
abbrev cX9_find : ByteArray := prog_11_method_19_code
def yX9_find : MethodName := ⟨RX9, "find", "(I)I"⟩
abbrev cX9_findElements : ByteArray := prog_11_method_20_code
def yX9_findElements : MethodName := ⟨RX9, "findElements", "()V"⟩
abbrev cX9_then : ByteArray := prog_11_method_21_code
def yX9_then : MethodName := ⟨RX9, "then", "(II)I"⟩
abbrev cX9_findTurns : ByteArray := prog_11_method_22_code
def yX9_findTurns : MethodName := ⟨RX9, "findTurns", "()V"⟩
abbrev cX9_findSorts : ByteArray := prog_11_method_23_code
def yX9_findSorts : MethodName := ⟨RX9, "findSorts", "()V"⟩
abbrev cX9_common : ByteArray := prog_11_method_24_code
def yX9_common : MethodName := ⟨RX9, "common", "(II)I"⟩
abbrev cX9_isPrime : ByteArray := prog_11_method_25_code
def yX9_isPrime : MethodName := ⟨RX9, "isPrime", "(I)Z"⟩
abbrev cX9_power : ByteArray := prog_11_method_26_code
def yX9_power : MethodName := ⟨RX9, "power", "(II)I"⟩
abbrev cX9_round : ByteArray := prog_11_method_27_code
def yX9_round : MethodName := ⟨RX9, "round", "(I)I"⟩
abbrev cX9_findPrime : ByteArray := prog_11_method_28_code
def yX9_findPrime : MethodName := ⟨RX9, "findPrime", "()V"⟩
abbrev cX9_findTimes : ByteArray := prog_11_method_29_code
def yX9_findTimes : MethodName := ⟨RX9, "findTimes", "()V"⟩
abbrev cX9_lay : ByteArray := prog_11_method_30_code
def yX9_lay : MethodName := ⟨RX9, "lay", "()V"⟩
abbrev cX9_over : ByteArray := prog_11_method_31_code
def yX9_over : MethodName := ⟨RX9, "over", "(I)I"⟩
abbrev cX9_by : ByteArray := prog_11_method_32_code
def yX9_by : MethodName := ⟨RX9, "by", "(II)I"⟩
abbrev cX9_layGrid : ByteArray := prog_11_method_33_code
def yX9_layGrid : MethodName := ⟨RX9, "layGrid", "(III)V"⟩
abbrev cX9_plain : ByteArray := prog_11_method_34_code
def yX9_plain : MethodName := ⟨RX9, "plain", "(I)V"⟩
abbrev cX9_leadBy : ByteArray := prog_11_method_35_code
def yX9_leadBy : MethodName := ⟨RX9, "leadBy", "(IIII)V"⟩
abbrev cX9_split : ByteArray := prog_11_method_36_code
def yX9_split : MethodName := ⟨RX9, "split", "(III)V"⟩
abbrev cX9_findSpreads : ByteArray := prog_11_method_37_code
def yX9_findSpreads : MethodName := ⟨RX9, "findSpreads", "()V"⟩
abbrev cX9_starOf : ByteArray := prog_11_method_38_code
def yX9_starOf : MethodName := ⟨RX9, "starOf", "(I)I"⟩
abbrev cX9_degreeOf : ByteArray := prog_11_method_39_code
def yX9_degreeOf : MethodName := ⟨RX9, "degreeOf", "(I)I"⟩
abbrev cX9_findRows : ByteArray := prog_11_method_40_code
def yX9_findRows : MethodName := ⟨RX9, "findRows", "()V"⟩
abbrev cX9_isAhead : ByteArray := prog_11_method_41_code
def yX9_isAhead : MethodName := ⟨RX9, "isAhead", "(II)Z"⟩
abbrev cX9_exchange : ByteArray := prog_11_method_42_code
def yX9_exchange : MethodName := ⟨RX9, "exchange", "(I)V"⟩
abbrev cX9_isSort : ByteArray := prog_11_method_43_code
def yX9_isSort : MethodName := ⟨RX9, "isSort", "(I)Z"⟩
abbrev cX9_isElement : ByteArray := prog_11_method_44_code
def yX9_isElement : MethodName := ⟨RX9, "isElement", "(I)Z"⟩
abbrev cX9_ofAll : ByteArray := prog_11_method_45_code
def yX9_ofAll : MethodName := ⟨RX9, "ofAll", "(I)I"⟩
abbrev cX9_of : ByteArray := prog_11_method_46_code
def yX9_of : MethodName := ⟨RX9, "of", "(I)I"⟩
abbrev cX9_element : ByteArray := prog_11_method_47_code
def yX9_element : MethodName := ⟨RX9, "element", "(II)I"⟩
abbrev cX9_product : ByteArray := prog_11_method_48_code
def yX9_product : MethodName := ⟨RX9, "product", "(II)I"⟩
abbrev cX9_left : ByteArray := prog_11_method_49_code
def yX9_left : MethodName := ⟨RX9, "left", "(I)I"⟩
abbrev cX9_ofSort : ByteArray := prog_11_method_50_code
def yX9_ofSort : MethodName := ⟨RX9, "ofSort", "(II)I"⟩
abbrev cX9_sort : ByteArray := prog_11_method_51_code
def yX9_sort : MethodName := ⟨RX9, "sort", "(II)I"⟩
abbrev cX9_times : ByteArray := prog_11_method_52_code
def yX9_times : MethodName := ⟨RX9, "times", "(III)I"⟩
abbrev cX9_degree : ByteArray := prog_11_method_53_code
def yX9_degree : MethodName := ⟨RX9, "degree", "(I)I"⟩
abbrev cX9_value : ByteArray := prog_11_method_54_code
def yX9_value : MethodName := ⟨RX9, "value", "(II)I"⟩
abbrev cX9_spread : ByteArray := prog_11_method_55_code
def yX9_spread : MethodName := ⟨RX9, "spread", "(II)I"⟩
abbrev cX9_part : ByteArray := prog_11_method_56_code
def yX9_part : MethodName := ⟨RX9, "part", "(III)I"⟩
abbrev cX9_meet : ByteArray := prog_11_method_57_code
def yX9_meet : MethodName := ⟨RX9, "meet", "(I)I"⟩
abbrev cX9_mirrorOf : ByteArray := prog_11_method_58_code
def yX9_mirrorOf : MethodName := ⟨RX9, "mirrorOf", "(I)I"⟩
abbrev cX9_mirror : ByteArray := prog_11_method_59_code
def yX9_mirror : MethodName := ⟨RX9, "mirror", "(I)I"⟩
abbrev cX9_blind : ByteArray := prog_11_method_60_code
def yX9_blind : MethodName := ⟨RX9, "blind", "(I)I"⟩
abbrev cX9_multiply : ByteArray := prog_11_method_61_code
def yX9_multiply : MethodName := ⟨RX9, "multiply", "(II)V"⟩
abbrev cX9_within : ByteArray := prog_11_method_62_code
def yX9_within : MethodName := ⟨RX9, "within", "(III)I"⟩
abbrev cX9_natural : ByteArray := prog_11_method_63_code
def yX9_natural : MethodName := ⟨RX9, "natural", "(I)I"⟩
abbrev cX9_turned : ByteArray := prog_11_method_64_code
def yX9_turned : MethodName := ⟨RX9, "turned", "(II)I"⟩
abbrev cX9_type : ByteArray := prog_11_method_65_code
def yX9_type : MethodName := ⟨RX9, "type", "(I)I"⟩
abbrev cX9_clear : ByteArray := prog_11_method_66_code
def yX9_clear : MethodName := ⟨RX9, "clear", "()I"⟩
abbrev cX9_here : ByteArray := prog_11_method_67_code
def yX9_here : MethodName := ⟨RX9, "here", "()I"⟩
abbrev cX9_must : ByteArray := prog_11_method_68_code
def yX9_must : MethodName := ⟨RX9, "must", "(Z)V"⟩
abbrev cX9_figure : ByteArray := prog_11_method_69_code
def yX9_figure : MethodName := ⟨RX9, "figure", "(II)I"⟩
abbrev cX9_readMove : ByteArray := prog_11_method_70_code
def yX9_readMove : MethodName := ⟨RX9, "readMove", "()I"⟩
abbrev cX9_readOrder : ByteArray := prog_11_method_71_code
def yX9_readOrder : MethodName := ⟨RX9, "readOrder", "()V"⟩
abbrev cX9_doOrder : ByteArray := prog_11_method_72_code
def yX9_doOrder : MethodName := ⟨RX9, "doOrder", "(I)I"⟩
abbrev cX9_reads : ByteArray := prog_11_method_73_code
def yX9_reads : MethodName := ⟨RX9, "reads", "()I"⟩
abbrev cX9_toldOf : ByteArray := prog_11_method_74_code
def yX9_toldOf : MethodName := ⟨RX9, "toldOf", "(I)I"⟩
abbrev cX9_told : ByteArray := prog_11_method_75_code
def yX9_told : MethodName := ⟨RX9, "told", "(I)I"⟩
abbrev cX9_mix : ByteArray := prog_11_method_76_code
def yX9_mix : MethodName := ⟨RX9, "mix", "(I)V"⟩
abbrev cX9_digest : ByteArray := prog_11_method_77_code
def yX9_digest : MethodName := ⟨RX9, "digest", "()J"⟩
def RJ9 : String := "java/lang/Math"
def TJ9 : u_T := fun k => match k with
  | _ => ("", "", "", false)
def tyJ9 : Nat → FieldType := fun k => match k with
  | _ => .int
abbrev wsJ90 : List Cond := u_ws RJ9 TJ9 0
theorem nmJ9 : ∀ a, a < 0 → ∀ b, b < 0 → a ≠ b → (TJ9 a).2.1 ≠ (TJ9 b).2.1 := by decide +kernel
theorem tyJ9_ok : ∀ k, k < 0 → parseFieldDescriptor (TJ9 k).2.2.1 = some (tyJ9 k) := by decide +kernel
abbrev cJ9_floorMod_7cf53 : ByteArray := prog_12_method_50_code
def yJ9_floorMod_7cf53 : MethodName := ⟨RJ9, "floorMod", "(II)I"⟩
abbrev cJ9_max_7cf53 : ByteArray := prog_12_method_65_code
def yJ9_max_7cf53 : MethodName := ⟨RJ9, "max", "(II)I"⟩
def RJ10 : String := "java/lang/System"
def TJ10 : u_T := fun k => match k with
  | _ => ("", "", "", false)
def tyJ10 : Nat → FieldType := fun k => match k with
  | _ => .int
abbrev wsJ100 : List Cond := u_ws RJ10 TJ10 0
theorem nmJ10 : ∀ a, a < 0 → ∀ b, b < 0 → a ≠ b → (TJ10 a).2.1 ≠ (TJ10 b).2.1 := by decide +kernel
theorem tyJ10_ok : ∀ k, k < 0 → parseFieldDescriptor (TJ10 k).2.2.1 = some (tyJ10 k) := by decide +kernel
def RJ7 : String := "java/util/Arrays"
def TJ7 : u_T := fun k => match k with
  | _ => ("", "", "", false)
def tyJ7 : Nat → FieldType := fun k => match k with
  | _ => .int
abbrev wsJ70 : List Cond := u_ws RJ7 TJ7 0
theorem nmJ7 : ∀ a, a < 0 → ∀ b, b < 0 → a ≠ b → (TJ7 a).2.1 ≠ (TJ7 b).2.1 := by decide +kernel
theorem tyJ7_ok : ∀ k, k < 0 → parseFieldDescriptor (TJ7 k).2.2.1 = some (tyJ7 k) := by decide +kernel
abbrev cJ7_fill_53178 : ByteArray := prog_14_method_103_code
def yJ7_fill_53178 : MethodName := ⟨RJ7, "fill", "([II)V"⟩
def RL : String := "RootedClassesLaw"
abbrev cL_law : ByteArray := code
def yL_law : MethodName := ⟨RL, "law", "([I)Z"⟩
abbrev vwCl : List vw_C := [(RX0, TX0, 9), (RX1, TX1, 2), (RX2, TX2, 4), (RX3, TX3, 8), (RX4, TX4, 10), (RX5, TX5, 3), (RX6, TX6, 11), (RX7, TX7, 12), (RX8, TX8, 8), (RX9, TX9, 40)]
