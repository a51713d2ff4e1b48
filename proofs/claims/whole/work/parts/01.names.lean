/-! ===== BEGIN words of one list among another's, by their places ===== -/
theorem goodIn_r {big : List Cond} (ws : List Cond) (ps : List Nat) (hp : ws = ps.filterMap (fun i => big[i]?)) (h : ws.all goodWord = true) : GoodIn big ws := by
  intro w hw
  have h1 := List.all_eq_true.mp h w hw
  rw [hp] at hw
  obtain ⟨i, -, hi⟩ := List.mem_filterMap.mp hw
  have hm : w ∈ big := by first | exact List.mem_of_getElem? hi | exact List.getElem?_mem hi
  exact ⟨hm, good_of_word h1⟩
theorem goodIn_app {big a b : List Cond} (ha : GoodIn big a) (hb : GoodIn big b) : GoodIn big (a ++ b) := fun w h => (List.mem_append.mp h).elim (ha w) (hb w)
theorem goodIn_ca {big a b : List Cond} {c : Cond} (ha : GoodIn big (c :: a)) (hb : GoodIn big b) : GoodIn big (c :: (a ++ b)) := fun w h => (List.mem_cons.mp h).elim (fun e => ha w (List.mem_cons.mpr (Or.inl e))) (fun h => (List.mem_append.mp h).elim (fun h => ha w (List.mem_cons.mpr (Or.inr h))) (hb w))
theorem goodIn_sub {big ws : List Cond} (hm : ∀ w ∈ ws, w ∈ big) (h : ws.all goodWord = true) : GoodIn big ws := fun w hw => ⟨hm w hw, good_of_word (List.all_eq_true.mp h w hw)⟩
/-! ===== END ===== -/

/-! ===== BEGIN new T[n][m]: the outer array a place, the inner ones among the pooled ===== -/
/-- f, but v at every address of l -/
def vr_up {α : Type} (f : Nat → α) (l : List Nat) (v : α) : Nat → α := fun a => if a ∈ l then v else f a
theorem vr_up_in {α : Type} {f : Nat → α} {l : List Nat} {v : α} {a : Nat} (h : a ∈ l) : vr_up f l v a = v := if_pos h
theorem vr_up_ne {α : Type} {f : Nat → α} {l : List Nat} {v : α} {a : Nat} (h : a ∉ l) : vr_up f l v a = f a := if_neg h
theorem vr_rows {L l : List Nat} {f : Nat → va_E} {e : va_E} (h : ∀ a, a ∈ l → a ∉ L) : va_pl L f ++ l.map (fun a => (a, e)) = va_pl (L ++ l) (vr_up f l e) := by
  unfold va_pl
  rw [List.map_append]
  congr 1
  · apply List.map_congr_left
    intro a ha
    rw [vr_up_ne (fun q => h a q ha)]
  · apply List.map_congr_left
    intro a ha
    rw [vr_up_in ha]
theorem vr_lay {X rows : va_W} {x : Nat × va_E} {pl : va_W} {D : va_G} {cl : List vw_C} {H : Heap} (hP : va_P D cl (((X ++ pl) ++ [x]) ++ rows) H) : va_P D cl ((X ++ [x]) ++ (pl ++ rows)) H := by
  rw [List.append_assoc (X ++ pl)] at hP
  have h := va_P.swap hP
  rw [← List.append_assoc X] at h
  have h2 := va_P.swap h
  rw [List.append_assoc (X ++ [x])] at h2
  exact h2
theorem vr_layD {X rows : va_W} {x : Nat × va_E} {pl : va_W} {A : Nat → Prop} (hD : va_D A (((X ++ pl) ++ [x]) ++ rows)) : va_D A ((X ++ [x]) ++ (pl ++ rows)) := by
  rw [List.append_assoc (X ++ pl)] at hD
  have h := va_D.swap hD
  rw [← List.append_assoc X] at h
  have h2 := va_D.swap h
  rw [List.append_assoc (X ++ [x])] at h2
  exact h2
theorem vr_outer (c : ClassId) (N h0 : Nat) : ∀ i : Nat, Jvm.Free.Multi.outerC c N h0 i = arrV c N (fun j => va_rf (if j < i then some (h0 + 1 + j) else none))
  | 0 => by
    show ({ cls := c, slots := Array.replicate N .null, vm := .none } : Cell) = _
    rw [arrV_new]
    refine congrArg (arrV c N) (funext fun j => ?_)
    simp [va_rf]
  | i + 1 => by
    show (Jvm.Free.Multi.outerC c N h0 i).setSlot i (.ref (h0 + 1 + i)) = _
    rw [vr_outer c N h0 i, arrV_store]
    refine congrArg (arrV c N) (funext fun j => ?_)
    by_cases e : j = i
    · subst e
      simp [updV, va_rf]
    · by_cases h : j < i
      · simp [updV, e, h, Nat.lt_succ_of_lt h]
      · simp [updV, e, h, show ¬ j < i + 1 by omega]
/-- NAMES speaks of it, the kit has it not: as va_AO, for arrays of arrays -/
def va_AOA (ty : FieldType) (U : State) : Prop := (Cond.arrayOver (.array ty)).before #[] U = true
theorem va_AOA.use {ty : FieldType} {A : Array Value} {U : State} (h : va_AOA ty U) : (Cond.arrayOver (.array ty)).before A U = true := h
section VGM
variable {p : Program} {l : Launch} {e : Env} {R : Room} {s : State} {m : MethodId} {args : Array Value} {below : List Frame} {meth : Method} {c : Code} {H : Heap} {locs : List Loc} {cells slots : Nat} {Q : State → Prop}
variable {cc : ByteArray} {pc : Nat} {ls : Array Slot} {rest : List Value} {D : va_G} {cl : List vw_C} {A : Nat → Prop} {a : Nat} {tys : List (ClassId × FieldType)} {ws : va_W} {H0 : Heap}
theorem va_mna {X : va_W} {L : List Nat} {f : Nat → va_E} {cc : ByteArray} (hexec : p.tables.exec = Jvm.exec) (hb : c.code = cc) {own : String} {index : Nat} {ty : FieldType} {cy : ClassId} (hown : s.vm.findClass own = some m.cls) (hclink : (Cond.classLink own index ("[" ++ (FieldType.array ty).toString)).before args s = true) (hover : va_AOA ty s) (harr : (Cond.arrayClass ty).before args s = true) (hcy : s.vm.findClass (FieldType.array ty).toString = some cy)
    (hK : va_K D cl tys s) (hP : va_P D cl (X ++ va_pl L f) H) (hD : va_D A (X ++ va_pl L f)) (hS : va_S A H0 H locs) (hA : ∀ q, H0.size ≤ q → A q) {n k : Int32} {N' K' : Nat} {z : vp_A} (hn : ¬ n < 0) (hk : ¬ k < 0) (hN : n.toNatClampNeg = N') (hM : k.toNatClampNeg = K')
    (hb1 : N' * 4 ≤ 536870912) (hb2 : K' * componentBytes ty ≤ 536870912) (hb3 : K' ≤ 536870912) (hdf : fits ty (defaultValue ty) = true) (hdd : (defaultValue ty).isDefault = true) (hcells : cells + (1 + N') ≤ R.cells) (hslots : slots + (N' + N' * K') ≤ R.slots) (hz : ∀ c : ClassId, Jvm.Free.Multi.innerC c K' (defaultValue ty) = vp_cell c z) (hdg : decode cc pc = .ok (.multianewarray index 2, 4))
    (kk : ∀ (q : Nat) (r : Nat → Nat) (cA : ClassId) (H1 : Heap), (∀ i j : Nat, i < N' → j < N' → r i = r j → i = j) → (∀ i : Nat, i < N' → r i ∉ L) → va_K D cl (tys ++ [(cA, .array ty)]) s →
      va_P D cl ((X ++ [(q, .inl (cA, N', .inr (.inr (.inr (.inr (fun i => if i < N' then some (r i) else none))))))]) ++ va_pl (L ++ (List.range N').map r) (vr_up f ((List.range N').map r) (.inl (cy, z)))) H1 → va_D A ((X ++ [(q, .inl (cA, N', .inr (.inr (.inr (.inr (fun i => if i < N' then some (r i) else none))))))]) ++ va_pl (L ++ (List.range N').map r) (vr_up f ((List.range N').map r) (.inl (cy, z)))) → va_S A H0 H1 locs →
      W p l e R s m args below meth c H1 locs (cells + 1 + N') (slots + N' + N' * K') Q (F0 m (pc + 4) ls (.ref q :: rest))) : W p l e R s m args below meth c H locs cells slots Q (F0 m pc ls (.int k :: .int n :: rest)) := by
  subst hN
  subst hM
  intro T hT Xs
  obtain ⟨vm₁, cA, comp, -, fA, fC, hO, -, X', step⟩ := Xs.multianewarray2F hexec hown hclink (va_AOA.use hover) harr (g := F0 m pc ls (.int k :: .int n :: rest)) rfl (by rw [hb]; exact hdg) rfl hn hk hb1 hb2 hb3 hdf hdd hcells hslots
  have ec : some cy = some comp := hcy.symm.trans fC
  cases ec
  generalize hF : Jvm.Free.Multi.fill (T.setVm vm₁) cA cy n.toNatClampNeg k.toNatClampNeg (defaultValue ty) n.toNatClampNeg = F at X' step
  have hTh : (T.setVm vm₁).heap = H := hT
  obtain ⟨f1, f2, -, -⟩ := Jvm.Free.Multi.fill_facts (T.setVm vm₁) cA cy n.toNatClampNeg k.toNatClampNeg (defaultValue ty) n.toNatClampNeg
  rw [hF, hTh] at f1 f2
  have hold : ∀ x : Nat, x < H.size → F.heap[x]? = H[x]? := fun x hx => by
    have := Jvm.Free.Multi.fill_old (T.setVm vm₁) cA cy n.toNatClampNeg k.toNatClampNeg (defaultValue ty) (a := x) (by rw [hTh]; exact hx) n.toNatClampNeg
    rw [hF, hTh] at this
    exact this
  have hrow : ∀ j : Nat, j < n.toNatClampNeg → F.heap[H.size + 1 + j]? = some (vp_cell cy z) := fun j hj => by
    have := Jvm.Free.Multi.fill_inner (T.setVm vm₁) cA cy n.toNatClampNeg k.toNatClampNeg (defaultValue ty) n.toNatClampNeg j hj
    rw [hF, hTh, hz] at this
    exact this
  have hout : Jvm.Free.Multi.outerC cA n.toNatClampNeg H.size n.toNatClampNeg = vp_cell cA (n.toNatClampNeg, .inr (.inr (.inr (.inr (fun i => if i < n.toNatClampNeg then some (H.size + 1 + i) else none))))) := by
    rw [vp_cell_q]
    exact vr_outer cA n.toNatClampNeg H.size n.toNatClampNeg
  rw [hout] at f2
  have hlt : ∀ a, a ∈ L → a < H.size := fun a ha => by
    obtain ⟨k9, hk9⟩ := va_pl_get (X := X) (f := f) ha
    exact (hP k9 _ hk9).lt
  have hnl : ∀ i : Nat, i < n.toNatClampNeg → H.size + 1 + i ∉ L := fun i _ h => by
    have := hlt _ h
    omega
  have hnm : ∀ a, a ∈ (List.range n.toNatClampNeg).map (fun i => H.size + 1 + i) → a ∉ L := fun a ha h => by
    obtain ⟨i, -, rfl⟩ := List.mem_map.mp ha
    have := hlt _ h
    omega
  have hP0 : va_P D cl (X ++ va_pl L f) F.heap := hP.kept (fun k9 x hx => hold x.1 ((hP k9 x hx).lt))
  have hP1 : va_P D cl ((X ++ va_pl L f) ++ [(H.size, .inl (cA, n.toNatClampNeg, .inr (.inr (.inr (.inr (fun i => if i < n.toNatClampNeg then some (H.size + 1 + i) else none))))))]) F.heap := hP0.app (fun k9 x hx => by
    have h0 : k9 < 1 := (List.getElem?_eq_some_iff.mp hx).1
    rw [show k9 = 0 by omega] at hx
    cases hx
    exact f2)
  have hP2 : va_P D cl (((X ++ va_pl L f) ++ [(H.size, .inl (cA, n.toNatClampNeg, .inr (.inr (.inr (.inr (fun i => if i < n.toNatClampNeg then some (H.size + 1 + i) else none))))))]) ++ ((List.range n.toNatClampNeg).map (fun i => H.size + 1 + i)).map (fun a => (a, .inl (cy, z)))) F.heap := hP1.app (fun k9 x hx => by
    obtain ⟨a, ha, rfl⟩ := List.mem_map.mp (List.mem_of_getElem? hx)
    obtain ⟨i, hi, rfl⟩ := List.mem_map.mp ha
    exact hrow i (List.mem_range.mp hi))
  have hD2 : va_D A (((X ++ va_pl L f) ++ [(H.size, .inl (cA, n.toNatClampNeg, .inr (.inr (.inr (.inr (fun i => if i < n.toNatClampNeg then some (H.size + 1 + i) else none))))))]) ++ ((List.range n.toNatClampNeg).map (fun i => H.size + 1 + i)).map (fun a => (a, .inl (cy, z)))) := by
    have hD1 := hD.push (e := .inl (cA, n.toNatClampNeg, .inr (.inr (.inr (.inr (fun i => if i < n.toNatClampNeg then some (H.size + 1 + i) else none)))))) hP rfl (hA _ hS.1)
    generalize hW1 : (X ++ va_pl L f) ++ [(H.size, .inl (cA, n.toNatClampNeg, .inr (.inr (.inr (.inr (fun i => if i < n.toNatClampNeg then some (H.size + 1 + i) else none))))))] = W1 at hD1 hP1 ⊢
    have hle : ∀ (k9 : Nat) (x : Nat × va_E), W1[k9]? = some x → x.1 ≤ H.size := fun k9 x hx => by
      rw [← hW1] at hx
      by_cases hl : k9 < (X ++ va_pl L f).length
      · rw [List.getElem?_append_left hl] at hx
        exact Nat.le_of_lt ((hP k9 x hx).lt)
      · rw [List.getElem?_append_right (by omega)] at hx
        have h0 : k9 - (X ++ va_pl L f).length < 1 := (List.getElem?_eq_some_iff.mp hx).1
        rw [show k9 - (X ++ va_pl L f).length = 0 by omega] at hx
        cases hx
        exact Nat.le_refl _
    have hr : ∀ (k9 : Nat) (x : Nat × va_E), (((List.range n.toNatClampNeg).map (fun i => H.size + 1 + i)).map (fun a => ((a, .inl (cy, z)) : Nat × va_E)))[k9]? = some x → x.1 = H.size + 1 + k9 := fun k9 x hx => by
      rw [List.getElem?_map, List.getElem?_map] at hx
      by_cases h9 : k9 < n.toNatClampNeg
      · rw [List.getElem?_range h9] at hx
        cases hx
        rfl
      · have hn0 : (List.range n.toNatClampNeg)[k9]? = none := List.getElem?_eq_none (by rw [List.length_range]; omega)
        rw [hn0] at hx
        cases hx
    refine ⟨fun i j x y hi hj hxy => ?_, fun k9 x hx => ?_⟩
    · by_cases h1 : i < W1.length <;> by_cases h2 : j < W1.length
      · rw [List.getElem?_append_left h1] at hi
        rw [List.getElem?_append_left h2] at hj
        exact hD1.1 i j x y hi hj hxy
      · rw [List.getElem?_append_left h1] at hi
        rw [List.getElem?_append_right (by omega)] at hj
        have := hle _ _ hi
        have := hr _ _ hj
        omega
      · rw [List.getElem?_append_right (by omega)] at hi
        rw [List.getElem?_append_left h2] at hj
        have := hle _ _ hj
        have := hr _ _ hi
        omega
      · rw [List.getElem?_append_right (by omega)] at hi hj
        have := hr _ _ hi
        have := hr _ _ hj
        omega
    · by_cases h1 : k9 < W1.length
      · rw [List.getElem?_append_left h1] at hx
        exact hD1.2 k9 x hx
      · rw [List.getElem?_append_right (by omega)] at hx
        have := hr _ _ hx
        exact hA _ (by have := hS.1; omega)
  have hAr : ArrOfT s cA (.array ty) := fun N9 z9 => by
    obtain ⟨-, k9, hk9, cm9, hkk9⟩ := (hO 0 0 0).1
    exact ⟨(fun q hq => by cases hq), k9, hk9, cm9, hkk9⟩
  have hK2 : va_K D cl (tys ++ [(cA, .array ty)]) s := ⟨hK.1, fun k9 x hx => by
    by_cases hl : k9 < tys.length
    · rw [List.getElem?_append_left hl] at hx
      exact hK.2 k9 x hx
    · rw [List.getElem?_append_right (by omega)] at hx
      have h0 : k9 - tys.length < 1 := (List.getElem?_eq_some_iff.mp hx).1
      rw [show k9 - tys.length = 0 by omega] at hx
      cases hx
      exact ⟨hAr, fA⟩⟩
  obtain ⟨t, a1, b1⟩ := kk H.size (fun i => H.size + 1 + i) cA F.heap (fun i j _ _ h => by have h9 : H.size + 1 + i = H.size + 1 + j := h; omega) hnl hK2 (by rw [← vr_rows hnm]; exact vr_lay hP2) (by rw [← vr_rows hnm]; exact vr_layD hD2) ⟨by rw [f1]; have := hS.1; omega, fun x h1 h2 => (hold x (Nat.lt_of_lt_of_le h1 hS.1)).trans (hS.2.1 x h1 h2), hS.2.2⟩ F rfl X'
  refine ⟨t, step t ?_, b1⟩
  have e : T.heap.size = H.size := by rw [hT]
  rw [e]
  exact a1
end VGM
/-! ===== END ===== -/

/-! ===== BEGIN printed: names, fields, word lists, decode rows ===== -/
def RX0 : String := "RootedClasses$Elements"
def TX0 : u_T := fun k => match k with
  | 0 => ("RootedClasses$Elements", "order", "I", false)
  | 1 => ("RootedClasses$Elements", "codes", "[I", true)
  | 2 => ("RootedClasses$Elements", "inverses", "[I", true)
  | 3 => ("RootedClasses$Elements", "points", "I", false)
  | 4 => ("RootedClasses$Elements", "figures", "[I", true)
  | 5 => ("RootedClasses$Elements", "generators", "[I", true)
  | 6 => ("RootedClasses$Elements", "codeAtKey", "[I", true)
  | 7 => ("RootedClasses$Elements", "placeAtKey", "[I", true)
  | _ => ("RootedClasses$Elements", "made", "[I", true)
def tyX0 : Nat → FieldType := fun k => match k with
  | 0 => .int
  | 1 => .array .int
  | 2 => .array .int
  | 3 => .int
  | 4 => .array .int
  | 5 => .array .int
  | 6 => .array .int
  | 7 => .array .int
  | _ => .array .int
abbrev wsX00 : List Cond := u_ws RX0 TX0 9
theorem nmX0 : ∀ a, a < 9 → ∀ b, b < 9 → a ≠ b → (TX0 a).2.1 ≠ (TX0 b).2.1 := by decide +kernel
theorem tyX0_ok : ∀ k, k < 9 → parseFieldDescriptor (TX0 k).2.2.1 = some (tyX0 k) := by decide +kernel
abbrev cX0_init : ByteArray := prog_2_method_1_code
def yX0_init : MethodName := ⟨RX0, "<init>", "()V"⟩
abbrev cX0_build : ByteArray := prog_2_method_2_code
def yX0_build : MethodName := ⟨RX0, "build", "(LRootedClasses$Setting;)V"⟩
abbrev cX0_multiplied : ByteArray := prog_2_method_3_code
def yX0_multiplied : MethodName := ⟨RX0, "multiplied", "(II)I"⟩
abbrev cX0_movedBy : ByteArray := prog_2_method_4_code
def yX0_movedBy : MethodName := ⟨RX0, "movedBy", "(II)I"⟩
abbrev cX0_pointsLeft : ByteArray := prog_2_method_5_code
def yX0_pointsLeft : MethodName := ⟨RX0, "pointsLeft", "(I)I"⟩
abbrev cX0_makeAll : ByteArray := prog_2_method_6_code
def yX0_makeAll : MethodName := ⟨RX0, "makeAll", "(I)V"⟩
abbrev cX0_addMade : ByteArray := prog_2_method_7_code
def yX0_addMade : MethodName := ⟨RX0, "addMade", "()V"⟩
abbrev cX0_putInOrder : ByteArray := prog_2_method_8_code
def yX0_putInOrder : MethodName := ⟨RX0, "putInOrder", "()V"⟩
abbrev cX0_findInverses : ByteArray := prog_2_method_9_code
def yX0_findInverses : MethodName := ⟨RX0, "findInverses", "()V"⟩
abbrev cX0_spell : ByteArray := prog_2_method_10_code
def yX0_spell : MethodName := ⟨RX0, "spell", "(I[II)V"⟩
abbrev cX0_placeOfMade : ByteArray := prog_2_method_11_code
def yX0_placeOfMade : MethodName := ⟨RX0, "placeOfMade", "()I"⟩
abbrev cX0_keyOfMade : ByteArray := prog_2_method_12_code
def yX0_keyOfMade : MethodName := ⟨RX0, "keyOfMade", "()I"⟩
def RX1 : String := "RootedClasses$Past"
def TX1 : u_T := fun k => match k with
  | 0 => ("RootedClasses$Past", "count", "I", false)
  | _ => ("RootedClasses$Past", "states", "[LRootedClasses$Setting;", true)
def tyX1 : Nat → FieldType := fun k => match k with
  | 0 => .int
  | _ => .array (.object "RootedClasses$Setting")
abbrev wsX10 : List Cond := u_ws RX1 TX1 2
theorem nmX1 : ∀ a, a < 2 → ∀ b, b < 2 → a ≠ b → (TX1 a).2.1 ≠ (TX1 b).2.1 := by decide +kernel
theorem tyX1_ok : ∀ k, k < 2 → parseFieldDescriptor (TX1 k).2.2.1 = some (tyX1 k) := by decide +kernel
abbrev cX1_init : ByteArray := prog_3_method_1_code
def yX1_init : MethodName := ⟨RX1, "<init>", "()V"⟩
abbrev cX1_keep : ByteArray := prog_3_method_2_code
def yX1_keep : MethodName := ⟨RX1, "keep", "(LRootedClasses$Setting;)V"⟩
abbrev cX1_restore : ByteArray := prog_3_method_3_code
def yX1_restore : MethodName := ⟨RX1, "restore", "(LRootedClasses$Setting;)V"⟩
abbrev cX1_loseOldest : ByteArray := prog_3_method_4_code
def yX1_loseOldest : MethodName := ⟨RX1, "loseOldest", "()V"⟩
def RX2 : String := "RootedClasses$Prime"
def TX2 : u_T := fun k => match k with
  | 0 => ("RootedClasses$Prime", "p", "I", false)
  | 1 => ("RootedClasses$Prime", "root", "I", false)
  | 2 => ("RootedClasses$Prime", "over", "[I", true)
  | _ => ("RootedClasses$Prime", "rootPowers", "[I", true)
def tyX2 : Nat → FieldType := fun k => match k with
  | 0 => .int
  | 1 => .int
  | 2 => .array .int
  | _ => .array .int
abbrev wsX20 : List Cond := u_ws RX2 TX2 4
theorem nmX2 : ∀ a, a < 4 → ∀ b, b < 4 → a ≠ b → (TX2 a).2.1 ≠ (TX2 b).2.1 := by decide +kernel
theorem tyX2_ok : ∀ k, k < 4 → parseFieldDescriptor (TX2 k).2.2.1 = some (tyX2 k) := by decide +kernel
abbrev cX2_init : ByteArray := prog_4_method_1_code
def yX2_init : MethodName := ⟨RX2, "<init>", "()V"⟩
abbrev cX2_choose : ByteArray := prog_4_method_2_code
def yX2_choose : MethodName := ⟨RX2, "choose", "(II)V"⟩
abbrev cX2_left : ByteArray := prog_4_method_3_code
def yX2_left : MethodName := ⟨RX2, "left", "(I)I"⟩
abbrev cX2_divided : ByteArray := prog_4_method_4_code
def yX2_divided : MethodName := ⟨RX2, "divided", "(II)I"⟩
abbrev cX2_isPrime : ByteArray := prog_4_method_5_code
def yX2_isPrime : MethodName := ⟨RX2, "isPrime", "(I)Z"⟩
abbrev cX2_findOver : ByteArray := prog_4_method_6_code
def yX2_findOver : MethodName := ⟨RX2, "findOver", "()V"⟩
abbrev cX2_powerOf : ByteArray := prog_4_method_7_code
def yX2_powerOf : MethodName := ⟨RX2, "powerOf", "(II)I"⟩
abbrev cX2_leastMaker : ByteArray := prog_4_method_8_code
def yX2_leastMaker : MethodName := ⟨RX2, "leastMaker", "()I"⟩
def RX3 : String := "RootedClasses$Rows"
def TX3 : u_T := fun k => match k with
  | 0 => ("RootedClasses$Rows", "sorts", "LRootedClasses$Sorts;", true)
  | 1 => ("RootedClasses$Rows", "prime", "LRootedClasses$Prime;", true)
  | 2 => ("RootedClasses$Rows", "count", "I", false)
  | 3 => ("RootedClasses$Rows", "degrees", "[I", true)
  | 4 => ("RootedClasses$Rows", "spreads", "[[I", true)
  | 5 => ("RootedClasses$Rows", "values", "[[I", true)
  | 6 => ("RootedClasses$Rows", "multiplied", "[I", true)
  | _ => ("RootedClasses$Rows", "spaces", "LRootedClasses$Spaces;", true)
def tyX3 : Nat → FieldType := fun k => match k with
  | 0 => .object "RootedClasses$Sorts"
  | 1 => .object "RootedClasses$Prime"
  | 2 => .int
  | 3 => .array .int
  | 4 => .array (.array .int)
  | 5 => .array (.array .int)
  | 6 => .array .int
  | _ => .object "RootedClasses$Spaces"
abbrev wsX30 : List Cond := u_ws RX3 TX3 8
theorem nmX3 : ∀ a, a < 8 → ∀ b, b < 8 → a ≠ b → (TX3 a).2.1 ≠ (TX3 b).2.1 := by decide +kernel
theorem tyX3_ok : ∀ k, k < 8 → parseFieldDescriptor (TX3 k).2.2.1 = some (tyX3 k) := by decide +kernel
abbrev cX3_init : ByteArray := prog_5_method_1_code
def yX3_init : MethodName := ⟨RX3, "<init>", "()V"⟩
abbrev cX3_build : ByteArray := prog_5_method_2_code
def yX3_build : MethodName := ⟨RX3, "build", "()V"⟩
abbrev cX3_countOfDegreeOne : ByteArray := prog_5_method_3_code
def yX3_countOfDegreeOne : MethodName := ⟨RX3, "countOfDegreeOne", "()I"⟩
abbrev cX3_rootCount : ByteArray := prog_5_method_4_code
def yX3_rootCount : MethodName := ⟨RX3, "rootCount", "(III)I"⟩
abbrev cX3_mirrorSign : ByteArray := prog_5_method_5_code
def yX3_mirrorSign : MethodName := ⟨RX3, "mirrorSign", "(I)I"⟩
abbrev cX3_blindBits : ByteArray := prog_5_method_6_code
def yX3_blindBits : MethodName := ⟨RX3, "blindBits", "(I)I"⟩
abbrev cX3_meet : ByteArray := prog_5_method_7_code
def yX3_meet : MethodName := ⟨RX3, "meet", "([I[I)I"⟩
abbrev cX3_multiplyRows : ByteArray := prog_5_method_8_code
def yX3_multiplyRows : MethodName := ⟨RX3, "multiplyRows", "(II)V"⟩
abbrev cX3_rowLike : ByteArray := prog_5_method_9_code
def yX3_rowLike : MethodName := ⟨RX3, "rowLike", "([I)I"⟩
abbrev cX3_degreeOf : ByteArray := prog_5_method_10_code
def yX3_degreeOf : MethodName := ⟨RX3, "degreeOf", "([I)I"⟩
abbrev cX3_putInOrder : ByteArray := prog_5_method_11_code
def yX3_putInOrder : MethodName := ⟨RX3, "putInOrder", "()V"⟩
abbrev cX3_comesBefore : ByteArray := prog_5_method_12_code
def yX3_comesBefore : MethodName := ⟨RX3, "comesBefore", "(II)Z"⟩
abbrev cX3_differAt : ByteArray := prog_5_method_13_code
def yX3_differAt : MethodName := ⟨RX3, "differAt", "([I[I)I"⟩
abbrev cX3_exchange : ByteArray := prog_5_method_14_code
def yX3_exchange : MethodName := ⟨RX3, "exchange", "(II)V"⟩
def RX4 : String := "RootedClasses$Script"
def TX4 : u_T := fun k => match k with
  | 0 => ("RootedClasses$Script", "length", "I", false)
  | 1 => ("RootedClasses$Script", "bytes", "[I", true)
  | 2 => ("RootedClasses$Script", "kinds", "[I", true)
  | 3 => ("RootedClasses$Script", "numbers", "[I", true)
  | 4 => ("RootedClasses$Script", "orders", "I", false)
  | 5 => ("RootedClasses$Script", "kind", "I", false)
  | 6 => ("RootedClasses$Script", "number", "I", false)
  | 7 => ("RootedClasses$Script", "figuresDue", "I", false)
  | 8 => ("RootedClasses$Script", "figuresSeen", "I", false)
  | _ => ("RootedClasses$Script", "pointsThen", "I", false)
def tyX4 : Nat → FieldType := fun k => match k with
  | 0 => .int
  | 1 => .array .int
  | 2 => .array .int
  | 3 => .array .int
  | 4 => .int
  | 5 => .int
  | 6 => .int
  | 7 => .int
  | 8 => .int
  | _ => .int
abbrev wsX40 : List Cond := u_ws RX4 TX4 10
theorem nmX4 : ∀ a, a < 10 → ∀ b, b < 10 → a ≠ b → (TX4 a).2.1 ≠ (TX4 b).2.1 := by decide +kernel
theorem tyX4_ok : ∀ k, k < 10 → parseFieldDescriptor (TX4 k).2.2.1 = some (tyX4 k) := by decide +kernel
abbrev cX4_init : ByteArray := prog_6_method_1_code
def yX4_init : MethodName := ⟨RX4, "<init>", "()V"⟩
abbrev cX4_append : ByteArray := prog_6_method_2_code
def yX4_append : MethodName := ⟨RX4, "append", "(I)I"⟩
abbrev cX4_empty : ByteArray := prog_6_method_3_code
def yX4_empty : MethodName := ⟨RX4, "empty", "()I"⟩
abbrev cX4_carryOut : ByteArray := prog_6_method_4_code
def yX4_carryOut : MethodName := ⟨RX4, "carryOut", "(LRootedClasses$Setting;)I"⟩
abbrev cX4_obey : ByteArray := prog_6_method_5_code
def yX4_obey : MethodName := ⟨RX4, "obey", "(LRootedClasses$Setting;II)I"⟩
abbrev cX4_findFault : ByteArray := prog_6_method_6_code
def yX4_findFault : MethodName := ⟨RX4, "findFault", "(I)I"⟩
abbrev cX4_takes : ByteArray := prog_6_method_7_code
def yX4_takes : MethodName := ⟨RX4, "takes", "(I)Z"⟩
abbrev cX4_opens : ByteArray := prog_6_method_8_code
def yX4_opens : MethodName := ⟨RX4, "opens", "(I)Z"⟩
abbrev cX4_takesFigure : ByteArray := prog_6_method_9_code
def yX4_takesFigure : MethodName := ⟨RX4, "takesFigure", "(I)Z"⟩
abbrev cX4_closes : ByteArray := prog_6_method_10_code
def yX4_closes : MethodName := ⟨RX4, "closes", "(I)Z"⟩
def RX5 : String := "RootedClasses$Setting"
def TX5 : u_T := fun k => match k with
  | 0 => ("RootedClasses$Setting", "points", "I", false)
  | 1 => ("RootedClasses$Setting", "count", "I", false)
  | _ => ("RootedClasses$Setting", "codes", "[I", true)
def tyX5 : Nat → FieldType := fun k => match k with
  | 0 => .int
  | 1 => .int
  | _ => .array .int
abbrev wsX50 : List Cond := u_ws RX5 TX5 3
theorem nmX5 : ∀ a, a < 3 → ∀ b, b < 3 → a ≠ b → (TX5 a).2.1 ≠ (TX5 b).2.1 := by decide +kernel
theorem tyX5_ok : ∀ k, k < 3 → parseFieldDescriptor (TX5 k).2.2.1 = some (tyX5 k) := by decide +kernel
abbrev cX5_init : ByteArray := prog_7_method_1_code
def yX5_init : MethodName := ⟨RX5, "<init>", "()V"⟩
abbrev cX5_copyFrom : ByteArray := prog_7_method_2_code
def yX5_copyFrom : MethodName := ⟨RX5, "copyFrom", "(LRootedClasses$Setting;)V"⟩
abbrev cX5_setPoints : ByteArray := prog_7_method_3_code
def yX5_setPoints : MethodName := ⟨RX5, "setPoints", "(I)I"⟩
abbrev cX5_addGenerator : ByteArray := prog_7_method_4_code
def yX5_addGenerator : MethodName := ⟨RX5, "addGenerator", "(I)I"⟩
abbrev cX5_dropGenerator : ByteArray := prog_7_method_5_code
def yX5_dropGenerator : MethodName := ⟨RX5, "dropGenerator", "(I)I"⟩
abbrev cX5_isMove : ByteArray := prog_7_method_6_code
def yX5_isMove : MethodName := ⟨RX5, "isMove", "(I)Z"⟩
def RX6 : String := "RootedClasses$Sorts"
def TX6 : u_T := fun k => match k with
  | 0 => ("RootedClasses$Sorts", "elements", "LRootedClasses$Elements;", true)
  | 1 => ("RootedClasses$Sorts", "count", "I", false)
  | 2 => ("RootedClasses$Sorts", "exponent", "I", false)
  | 3 => ("RootedClasses$Sorts", "sortOf", "[I", true)
  | 4 => ("RootedClasses$Sorts", "sizes", "[I", true)
  | 5 => ("RootedClasses$Sorts", "turns", "[I", true)
  | 6 => ("RootedClasses$Sorts", "leasts", "[I", true)
  | 7 => ("RootedClasses$Sorts", "inverses", "[I", true)
  | 8 => ("RootedClasses$Sorts", "pointsLeft", "[I", true)
  | 9 => ("RootedClasses$Sorts", "pairs", "[I", true)
  | _ => ("RootedClasses$Sorts", "powers", "[I", true)
def tyX6 : Nat → FieldType := fun k => match k with
  | 0 => .object "RootedClasses$Elements"
  | 1 => .int
  | 2 => .int
  | 3 => .array .int
  | 4 => .array .int
  | 5 => .array .int
  | 6 => .array .int
  | 7 => .array .int
  | 8 => .array .int
  | 9 => .array .int
  | _ => .array .int
abbrev wsX60 : List Cond := u_ws RX6 TX6 11
theorem nmX6 : ∀ a, a < 11 → ∀ b, b < 11 → a ≠ b → (TX6 a).2.1 ≠ (TX6 b).2.1 := by decide +kernel
theorem tyX6_ok : ∀ k, k < 11 → parseFieldDescriptor (TX6 k).2.2.1 = some (tyX6 k) := by decide +kernel
abbrev cX6_init : ByteArray := prog_8_method_1_code
def yX6_init : MethodName := ⟨RX6, "<init>", "()V"⟩
abbrev cX6_pairPlace : ByteArray := prog_8_method_2_code
def yX6_pairPlace : MethodName := ⟨RX6, "pairPlace", "(III)I"⟩
abbrev cX6_takeApart : ByteArray := prog_8_method_3_code
def yX6_takeApart : MethodName := ⟨RX6, "takeApart", "()V"⟩
abbrev cX6_describe : ByteArray := prog_8_method_4_code
def yX6_describe : MethodName := ⟨RX6, "describe", "()V"⟩
abbrev cX6_countAlone : ByteArray := prog_8_method_5_code
def yX6_countAlone : MethodName := ⟨RX6, "countAlone", "()I"⟩
abbrev cX6_powerSort : ByteArray := prog_8_method_6_code
def yX6_powerSort : MethodName := ⟨RX6, "powerSort", "(II)I"⟩
abbrev cX6_gather : ByteArray := prog_8_method_7_code
def yX6_gather : MethodName := ⟨RX6, "gather", "(II)I"⟩
abbrev cX6_findPowers : ByteArray := prog_8_method_8_code
def yX6_findPowers : MethodName := ⟨RX6, "findPowers", "(I)V"⟩
abbrev cX6_leastShared : ByteArray := prog_8_method_9_code
def yX6_leastShared : MethodName := ⟨RX6, "leastShared", "(II)I"⟩
abbrev cX6_countPairs : ByteArray := prog_8_method_10_code
def yX6_countPairs : MethodName := ⟨RX6, "countPairs", "()V"⟩
def RX7 : String := "RootedClasses$Spaces"
def TX7 : u_T := fun k => match k with
  | 0 => ("RootedClasses$Spaces", "lines", "[[I", false)
  | 1 => ("RootedClasses$Spaces", "nextLines", "[[I", false)
  | 2 => ("RootedClasses$Spaces", "starts", "[I", false)
  | 3 => ("RootedClasses$Spaces", "nextStarts", "[I", false)
  | 4 => ("RootedClasses$Spaces", "spaces", "I", false)
  | 5 => ("RootedClasses$Spaces", "nextSpaces", "I", false)
  | 6 => ("RootedClasses$Spaces", "nextCount", "I", false)
  | 7 => ("RootedClasses$Spaces", "width", "I", false)
  | 8 => ("RootedClasses$Spaces", "action", "[[I", true)
  | 9 => ("RootedClasses$Spaces", "work", "[[I", true)
  | 10 => ("RootedClasses$Spaces", "pivots", "[I", true)
  | _ => ("RootedClasses$Spaces", "mix", "[I", true)
def tyX7 : Nat → FieldType := fun k => match k with
  | 0 => .array (.array .int)
  | 1 => .array (.array .int)
  | 2 => .array .int
  | 3 => .array .int
  | 4 => .int
  | 5 => .int
  | 6 => .int
  | 7 => .int
  | 8 => .array (.array .int)
  | 9 => .array (.array .int)
  | 10 => .array .int
  | _ => .array .int
abbrev wsX70 : List Cond := u_ws RX7 TX7 12
theorem nmX7 : ∀ a, a < 12 → ∀ b, b < 12 → a ≠ b → (TX7 a).2.1 ≠ (TX7 b).2.1 := by decide +kernel
theorem tyX7_ok : ∀ k, k < 12 → parseFieldDescriptor (TX7 k).2.2.1 = some (tyX7 k) := by decide +kernel
abbrev cX7_init : ByteArray := prog_9_method_1_code
def yX7_init : MethodName := ⟨RX7, "<init>", "()V"⟩
abbrev cX7_takeApart : ByteArray := prog_9_method_2_code
def yX7_takeApart : MethodName := ⟨RX7, "takeApart", "(LRootedClasses$Sorts;LRootedClasses$Prime;)V"⟩
abbrev cX7_copyLine : ByteArray := prog_9_method_3_code
def yX7_copyLine : MethodName := ⟨RX7, "copyLine", "(I[ILRootedClasses$Prime;)V"⟩
abbrev cX7_begin : ByteArray := prog_9_method_4_code
def yX7_begin : MethodName := ⟨RX7, "begin", "(I)V"⟩
abbrev cX7_takeNext : ByteArray := prog_9_method_5_code
def yX7_takeNext : MethodName := ⟨RX7, "takeNext", "()V"⟩
abbrev cX7_splitSpace : ByteArray := prog_9_method_6_code
def yX7_splitSpace : MethodName := ⟨RX7, "splitSpace", "(IILRootedClasses$Sorts;LRootedClasses$Prime;)V"⟩
abbrev cX7_keepLine : ByteArray := prog_9_method_7_code
def yX7_keepLine : MethodName := ⟨RX7, "keepLine", "(I)V"⟩
abbrev cX7_fillAction : ByteArray := prog_9_method_8_code
def yX7_fillAction : MethodName := ⟨RX7, "fillAction", "(IIILRootedClasses$Sorts;LRootedClasses$Prime;)V"⟩
abbrev cX7_fillWork : ByteArray := prog_9_method_9_code
def yX7_fillWork : MethodName := ⟨RX7, "fillWork", "(IILRootedClasses$Prime;)V"⟩
abbrev cX7_addMixes : ByteArray := prog_9_method_10_code
def yX7_addMixes : MethodName := ⟨RX7, "addMixes", "(IIILRootedClasses$Prime;)V"⟩
abbrev cX7_mixLines : ByteArray := prog_9_method_11_code
def yX7_mixLines : MethodName := ⟨RX7, "mixLines", "(II[ILRootedClasses$Prime;)V"⟩
abbrev cX7_reduce : ByteArray := prog_9_method_12_code
def yX7_reduce : MethodName := ⟨RX7, "reduce", "([[IIIILRootedClasses$Prime;)I"⟩
abbrev cX7_lineWith : ByteArray := prog_9_method_13_code
def yX7_lineWith : MethodName := ⟨RX7, "lineWith", "([[IIII)I"⟩
abbrev cX7_scale : ByteArray := prog_9_method_14_code
def yX7_scale : MethodName := ⟨RX7, "scale", "([IIIII)V"⟩
abbrev cX7_clearColumn : ByteArray := prog_9_method_15_code
def yX7_clearColumn : MethodName := ⟨RX7, "clearColumn", "([I[IIII)V"⟩
def RX8 : String := "RootedClasses"
def TX8 : u_T := fun k => match k with
  | 0 => ("RootedClasses", "now", "LRootedClasses$Setting;", true)
  | 1 => ("RootedClasses", "trial", "LRootedClasses$Setting;", true)
  | 2 => ("RootedClasses", "past", "LRootedClasses$Past;", true)
  | 3 => ("RootedClasses", "script", "LRootedClasses$Script;", true)
  | 4 => ("RootedClasses", "rows", "LRootedClasses$Rows;", true)
  | 5 => ("RootedClasses", "refusals", "[I", true)
  | 6 => ("RootedClasses", "sortsKnown", "Z", false)
  | _ => ("RootedClasses", "rowsKnown", "Z", false)
def tyX8 : Nat → FieldType := fun k => match k with
  | 0 => .object "RootedClasses$Setting"
  | 1 => .object "RootedClasses$Setting"
  | 2 => .object "RootedClasses$Past"
  | 3 => .object "RootedClasses$Script"
  | 4 => .object "RootedClasses$Rows"
  | 5 => .array .int
  | 6 => .boolean
  | _ => .boolean
abbrev wsX80 : List Cond := u_ws RX8 TX8 8
theorem nmX8 : ∀ a, a < 8 → ∀ b, b < 8 → a ≠ b → (TX8 a).2.1 ≠ (TX8 b).2.1 := by decide +kernel
theorem tyX8_ok : ∀ k, k < 8 → parseFieldDescriptor (TX8 k).2.2.1 = some (tyX8 k) := by decide +kernel
abbrev cX8_init : ByteArray := prog_1_method_1_code
def yX8_init : MethodName := ⟨RX8, "<init>", "()V"⟩
abbrev cX8_points : ByteArray := prog_1_method_2_code
def yX8_points : MethodName := ⟨RX8, "points", "(I)I"⟩
abbrev cX8_moves : ByteArray := prog_1_method_3_code
def yX8_moves : MethodName := ⟨RX8, "moves", "(I)I"⟩
abbrev cX8_drops : ByteArray := prog_1_method_4_code
def yX8_drops : MethodName := ⟨RX8, "drops", "(I)I"⟩
abbrev cX8_of : ByteArray := prog_1_method_5_code
def yX8_of : MethodName := ⟨RX8, "of", "(I)I"⟩
abbrev cX8_element : ByteArray := prog_1_method_6_code
def yX8_element : MethodName := ⟨RX8, "element", "(II)I"⟩
abbrev cX8_product : ByteArray := prog_1_method_7_code
def yX8_product : MethodName := ⟨RX8, "product", "(II)I"⟩
abbrev cX8_sort : ByteArray := prog_1_method_8_code
def yX8_sort : MethodName := ⟨RX8, "sort", "(II)I"⟩
abbrev cX8_times : ByteArray := prog_1_method_9_code
def yX8_times : MethodName := ⟨RX8, "times", "(III)I"⟩
abbrev cX8_degree : ByteArray := prog_1_method_10_code
def yX8_degree : MethodName := ⟨RX8, "degree", "(I)I"⟩
abbrev cX8_value : ByteArray := prog_1_method_11_code
def yX8_value : MethodName := ⟨RX8, "value", "(II)I"⟩
abbrev cX8_spread : ByteArray := prog_1_method_12_code
def yX8_spread : MethodName := ⟨RX8, "spread", "(II)I"⟩
abbrev cX8_part : ByteArray := prog_1_method_13_code
def yX8_part : MethodName := ⟨RX8, "part", "(III)I"⟩
abbrev cX8_mirror : ByteArray := prog_1_method_14_code
def yX8_mirror : MethodName := ⟨RX8, "mirror", "(I)I"⟩
abbrev cX8_blind : ByteArray := prog_1_method_15_code
def yX8_blind : MethodName := ⟨RX8, "blind", "(I)I"⟩
abbrev cX8_within : ByteArray := prog_1_method_16_code
def yX8_within : MethodName := ⟨RX8, "within", "(III)I"⟩
abbrev cX8_natural : ByteArray := prog_1_method_17_code
def yX8_natural : MethodName := ⟨RX8, "natural", "(I)I"⟩
abbrev cX8_turned : ByteArray := prog_1_method_18_code
def yX8_turned : MethodName := ⟨RX8, "turned", "(II)I"⟩
abbrev cX8_type : ByteArray := prog_1_method_19_code
def yX8_type : MethodName := ⟨RX8, "type", "(I)I"⟩
abbrev cX8_clear : ByteArray := prog_1_method_20_code
def yX8_clear : MethodName := ⟨RX8, "clear", "()I"⟩
abbrev cX8_reads : ByteArray := prog_1_method_21_code
def yX8_reads : MethodName := ⟨RX8, "reads", "()I"⟩
abbrev cX8_back : ByteArray := prog_1_method_22_code
def yX8_back : MethodName := ⟨RX8, "back", "()I"⟩
abbrev cX8_told : ByteArray := prog_1_method_23_code
def yX8_told : MethodName := ⟨RX8, "told", "(I)I"⟩
abbrev cX8_digest : ByteArray := prog_1_method_24_code
def yX8_digest : MethodName := ⟨RX8, "digest", "()J"⟩
abbrev cX8_isBelow : ByteArray := prog_1_method_25_code
def yX8_isBelow : MethodName := ⟨RX8, "isBelow", "(II)Z"⟩
abbrev cX8_refused : ByteArray := prog_1_method_26_code
def yX8_refused : MethodName := ⟨RX8, "refused", "(I)I"⟩
abbrev cX8_settled : ByteArray := prog_1_method_27_code
def yX8_settled : MethodName := ⟨RX8, "settled", "(I)I"⟩
abbrev cX8_forgetReckoned : ByteArray := prog_1_method_28_code
def yX8_forgetReckoned : MethodName := ⟨RX8, "forgetReckoned", "()V"⟩
abbrev cX8_learnSorts : ByteArray := prog_1_method_29_code
def yX8_learnSorts : MethodName := ⟨RX8, "learnSorts", "()V"⟩
abbrev cX8_learnRows : ByteArray := prog_1_method_30_code
def yX8_learnRows : MethodName := ⟨RX8, "learnRows", "()V"⟩
abbrev cX8_wholeAnswer : ByteArray := prog_1_method_31_code
def yX8_wholeAnswer : MethodName := ⟨RX8, "wholeAnswer", "(I)I"⟩
abbrev cX8_sortAnswer : ByteArray := prog_1_method_32_code
def yX8_sortAnswer : MethodName := ⟨RX8, "sortAnswer", "(II)I"⟩
def RX9 : String := "RootedClassesModel"
def TX9 : u_T := fun k => match k with
  | 0 => ("RootedClassesModel", "now", "[I", true)
  | 1 => ("RootedClassesModel", "held", "[I", true)
  | 2 => ("RootedClassesModel", "past", "[I", true)
  | 3 => ("RootedClassesModel", "pasts", "I", false)
  | 4 => ("RootedClassesModel", "refused", "[I", true)
  | 5 => ("RootedClassesModel", "isLaid", "Z", false)
  | 6 => ("RootedClassesModel", "order", "I", false)
  | 7 => ("RootedClassesModel", "elements", "[I", true)
  | 8 => ("RootedClassesModel", "products", "[I", true)
  | 9 => ("RootedClassesModel", "sortOf", "[I", true)
  | 10 => ("RootedClassesModel", "inverse", "[I", true)
  | 11 => ("RootedClassesModel", "turns", "[I", true)
  | 12 => ("RootedClassesModel", "sorts", "I", false)
  | 13 => ("RootedClassesModel", "size", "[I", true)
  | 14 => ("RootedClassesModel", "least", "[I", true)
  | 15 => ("RootedClassesModel", "exponent", "I", false)
  | 16 => ("RootedClassesModel", "prime", "I", false)
  | 17 => ("RootedClassesModel", "root", "I", false)
  | 18 => ("RootedClassesModel", "timesOf", "[I", true)
  | 19 => ("RootedClassesModel", "spaces", "I", false)
  | 20 => ("RootedClassesModel", "wide", "[I", true)
  | 21 => ("RootedClassesModel", "bases", "[I", true)
  | 22 => ("RootedClassesModel", "splits", "I", false)
  | 23 => ("RootedClassesModel", "newWide", "[I", true)
  | 24 => ("RootedClassesModel", "newBases", "[I", true)
  | 25 => ("RootedClassesModel", "grid", "[I", true)
  | 26 => ("RootedClassesModel", "lead", "[I", true)
  | 27 => ("RootedClassesModel", "spreads", "[I", true)
  | 28 => ("RootedClassesModel", "degrees", "[I", true)
  | 29 => ("RootedClassesModel", "values", "[I", true)
  | 30 => ("RootedClassesModel", "one", "[I", true)
  | 31 => ("RootedClassesModel", "text", "[I", true)
  | 32 => ("RootedClassesModel", "typed", "I", false)
  | 33 => ("RootedClassesModel", "at", "I", false)
  | 34 => ("RootedClassesModel", "fault", "I", false)
  | 35 => ("RootedClassesModel", "orders", "I", false)
  | 36 => ("RootedClassesModel", "pointsThen", "I", false)
  | 37 => ("RootedClassesModel", "letters", "[I", true)
  | 38 => ("RootedClassesModel", "numbers", "[I", true)
  | _ => ("RootedClassesModel", "h", "J", false)
def tyX9 : Nat → FieldType := fun k => match k with
  | 0 => .array .int
  | 1 => .array .int
  | 2 => .array .int
  | 3 => .int
  | 4 => .array .int
  | 5 => .boolean
  | 6 => .int
  | 7 => .array .int
  | 8 => .array .int
  | 9 => .array .int
  | 10 => .array .int
  | 11 => .array .int
  | 12 => .int
  | 13 => .array .int
  | 14 => .array .int
  | 15 => .int
  | 16 => .int
  | 17 => .int
  | 18 => .array .int
  | 19 => .int
  | 20 => .array .int
  | 21 => .array .int
  | 22 => .int
  | 23 => .array .int
  | 24 => .array .int
  | 25 => .array .int
  | 26 => .array .int
  | 27 => .array .int
  | 28 => .array .int
  | 29 => .array .int
  | 30 => .array .int
  | 31 => .array .int
  | 32 => .int
  | 33 => .int
  | 34 => .int
  | 35 => .int
  | 36 => .int
  | 37 => .array .int
  | 38 => .array .int
  | _ => .long
abbrev wsX90 : List Cond := u_ws RX9 TX9 40
theorem nmX9 : ∀ a, a < 40 → ∀ b, b < 40 → a ≠ b → (TX9 a).2.1 ≠ (TX9 b).2.1 := by decide +kernel
theorem tyX9_ok : ∀ k, k < 40 → parseFieldDescriptor (TX9 k).2.2.1 = some (tyX9 k) := by decide +kernel
abbrev cX9_init : ByteArray := prog_11_method_1_code
def yX9_init : MethodName := ⟨RX9, "<init>", "()V"⟩
abbrev cX9_in : ByteArray := prog_11_method_2_code
def yX9_in : MethodName := ⟨RX9, "in", "(III)Z"⟩
abbrev cX9_has : ByteArray := prog_11_method_3_code
def yX9_has : MethodName := ⟨RX9, "has", "(II)Z"⟩
abbrev cX9_refuses : ByteArray := prog_11_method_4_code
def yX9_refuses : MethodName := ⟨RX9, "refuses", "(I)I"⟩
abbrev cX9_hold : ByteArray := prog_11_method_5_code
def yX9_hold : MethodName := ⟨RX9, "hold", "()V"⟩
abbrev cX9_push : ByteArray := prog_11_method_6_code
def yX9_push : MethodName := ⟨RX9, "push", "()V"⟩
abbrev cX9_ends : ByteArray := prog_11_method_7_code
def yX9_ends : MethodName := ⟨RX9, "ends", "(I)I"⟩
abbrev cX9_back : ByteArray := prog_11_method_8_code
def yX9_back : MethodName := ⟨RX9, "back", "()I"⟩
abbrev cX9_to : ByteArray := prog_11_method_9_code
def yX9_to : MethodName := ⟨RX9, "to", "(II)I"⟩
abbrev cX9_isMove : ByteArray := prog_11_method_10_code
def yX9_isMove : MethodName := ⟨RX9, "isMove", "(I)Z"⟩
abbrev cX9_both : ByteArray := prog_11_method_11_code
def yX9_both : MethodName := ⟨RX9, "both", "(II)I"⟩
abbrev cX9_stays : ByteArray := prog_11_method_12_code
def yX9_stays : MethodName := ⟨RX9, "stays", "()I"⟩
abbrev cX9_doPoints : ByteArray := prog_11_method_13_code
def yX9_doPoints : MethodName := ⟨RX9, "doPoints", "(I)I"⟩
abbrev cX9_doMoves : ByteArray := prog_11_method_14_code
def yX9_doMoves : MethodName := ⟨RX9, "doMoves", "(I)I"⟩
abbrev cX9_doDrops : ByteArray := prog_11_method_15_code
def yX9_doDrops : MethodName := ⟨RX9, "doDrops", "(I)I"⟩
abbrev cX9_points : ByteArray := prog_11_method_16_code
def yX9_points : MethodName := ⟨RX9, "points", "(I)I"⟩
abbrev cX9_moves : ByteArray := prog_11_method_17_code
def yX9_moves : MethodName := ⟨RX9, "moves", "(I)I"⟩
abbrev cX9_drops : ByteArray := prog_11_method_18_code
def yX9_drops : MethodName := ⟨RX9, "drops", "(I)I"⟩
abbrev cX9_find : ByteArray := prog_11_method_19_code
def yX9_find : MethodName := ⟨RX9, "find", "(I)I"⟩
abbrev cX9_findElements : ByteArray := prog_11_method_20_code
def yX9_findElements : MethodName := ⟨RX9, "findElements", "()V"⟩
abbrev cX9_then : ByteArray := prog_11_method_21_code
def yX9_then : MethodName := ⟨RX9, "then", "(II)I"⟩
abbrev cX9_findTurns : ByteArray := prog_11_method_22_code
def yX9_findTurns : MethodName := ⟨RX9, "findTurns", "()V"⟩
abbrev cX9_findSorts : ByteArray := prog_11_method_23_code
def yX9_findSorts : MethodName := ⟨RX9, "findSorts", "()V"⟩
abbrev cX9_common : ByteArray := prog_11_method_24_code
def yX9_common : MethodName := ⟨RX9, "common", "(II)I"⟩
abbrev cX9_isPrime : ByteArray := prog_11_method_25_code
def yX9_isPrime : MethodName := ⟨RX9, "isPrime", "(I)Z"⟩
abbrev cX9_power : ByteArray := prog_11_method_26_code
def yX9_power : MethodName := ⟨RX9, "power", "(II)I"⟩
abbrev cX9_round : ByteArray := prog_11_method_27_code
def yX9_round : MethodName := ⟨RX9, "round", "(I)I"⟩
abbrev cX9_findPrime : ByteArray := prog_11_method_28_code
def yX9_findPrime : MethodName := ⟨RX9, "findPrime", "()V"⟩
abbrev cX9_findTimes : ByteArray := prog_11_method_29_code
def yX9_findTimes : MethodName := ⟨RX9, "findTimes", "()V"⟩
abbrev cX9_lay : ByteArray := prog_11_method_30_code
def yX9_lay : MethodName := ⟨RX9, "lay", "()V"⟩
abbrev cX9_over : ByteArray := prog_11_method_31_code
def yX9_over : MethodName := ⟨RX9, "over", "(I)I"⟩
abbrev cX9_by : ByteArray := prog_11_method_32_code
def yX9_by : MethodName := ⟨RX9, "by", "(II)I"⟩
abbrev cX9_layGrid : ByteArray := prog_11_method_33_code
def yX9_layGrid : MethodName := ⟨RX9, "layGrid", "(III)V"⟩
abbrev cX9_plain : ByteArray := prog_11_method_34_code
def yX9_plain : MethodName := ⟨RX9, "plain", "(I)V"⟩
abbrev cX9_leadBy : ByteArray := prog_11_method_35_code
def yX9_leadBy : MethodName := ⟨RX9, "leadBy", "(IIII)V"⟩
abbrev cX9_split : ByteArray := prog_11_method_36_code
def yX9_split : MethodName := ⟨RX9, "split", "(III)V"⟩
abbrev cX9_findSpreads : ByteArray := prog_11_method_37_code
def yX9_findSpreads : MethodName := ⟨RX9, "findSpreads", "()V"⟩
abbrev cX9_starOf : ByteArray := prog_11_method_38_code
def yX9_starOf : MethodName := ⟨RX9, "starOf", "(I)I"⟩
abbrev cX9_degreeOf : ByteArray := prog_11_method_39_code
def yX9_degreeOf : MethodName := ⟨RX9, "degreeOf", "(I)I"⟩
abbrev cX9_findRows : ByteArray := prog_11_method_40_code
def yX9_findRows : MethodName := ⟨RX9, "findRows", "()V"⟩
abbrev cX9_isAhead : ByteArray := prog_11_method_41_code
def yX9_isAhead : MethodName := ⟨RX9, "isAhead", "(II)Z"⟩
abbrev cX9_exchange : ByteArray := prog_11_method_42_code
def yX9_exchange : MethodName := ⟨RX9, "exchange", "(I)V"⟩
abbrev cX9_isSort : ByteArray := prog_11_method_43_code
def yX9_isSort : MethodName := ⟨RX9, "isSort", "(I)Z"⟩
abbrev cX9_isElement : ByteArray := prog_11_method_44_code
def yX9_isElement : MethodName := ⟨RX9, "isElement", "(I)Z"⟩
abbrev cX9_ofAll : ByteArray := prog_11_method_45_code
def yX9_ofAll : MethodName := ⟨RX9, "ofAll", "(I)I"⟩
abbrev cX9_of : ByteArray := prog_11_method_46_code
def yX9_of : MethodName := ⟨RX9, "of", "(I)I"⟩
abbrev cX9_element : ByteArray := prog_11_method_47_code
def yX9_element : MethodName := ⟨RX9, "element", "(II)I"⟩
abbrev cX9_product : ByteArray := prog_11_method_48_code
def yX9_product : MethodName := ⟨RX9, "product", "(II)I"⟩
abbrev cX9_left : ByteArray := prog_11_method_49_code
def yX9_left : MethodName := ⟨RX9, "left", "(I)I"⟩
abbrev cX9_ofSort : ByteArray := prog_11_method_50_code
def yX9_ofSort : MethodName := ⟨RX9, "ofSort", "(II)I"⟩
abbrev cX9_sort : ByteArray := prog_11_method_51_code
def yX9_sort : MethodName := ⟨RX9, "sort", "(II)I"⟩
abbrev cX9_times : ByteArray := prog_11_method_52_code
def yX9_times : MethodName := ⟨RX9, "times", "(III)I"⟩
abbrev cX9_degree : ByteArray := prog_11_method_53_code
def yX9_degree : MethodName := ⟨RX9, "degree", "(I)I"⟩
abbrev cX9_value : ByteArray := prog_11_method_54_code
def yX9_value : MethodName := ⟨RX9, "value", "(II)I"⟩
abbrev cX9_spread : ByteArray := prog_11_method_55_code
def yX9_spread : MethodName := ⟨RX9, "spread", "(II)I"⟩
abbrev cX9_part : ByteArray := prog_11_method_56_code
def yX9_part : MethodName := ⟨RX9, "part", "(III)I"⟩
abbrev cX9_meet : ByteArray := prog_11_method_57_code
def yX9_meet : MethodName := ⟨RX9, "meet", "(I)I"⟩
abbrev cX9_mirrorOf : ByteArray := prog_11_method_58_code
def yX9_mirrorOf : MethodName := ⟨RX9, "mirrorOf", "(I)I"⟩
abbrev cX9_mirror : ByteArray := prog_11_method_59_code
def yX9_mirror : MethodName := ⟨RX9, "mirror", "(I)I"⟩
abbrev cX9_blind : ByteArray := prog_11_method_60_code
def yX9_blind : MethodName := ⟨RX9, "blind", "(I)I"⟩
abbrev cX9_multiply : ByteArray := prog_11_method_61_code
def yX9_multiply : MethodName := ⟨RX9, "multiply", "(II)V"⟩
abbrev cX9_within : ByteArray := prog_11_method_62_code
def yX9_within : MethodName := ⟨RX9, "within", "(III)I"⟩
abbrev cX9_natural : ByteArray := prog_11_method_63_code
def yX9_natural : MethodName := ⟨RX9, "natural", "(I)I"⟩
abbrev cX9_turned : ByteArray := prog_11_method_64_code
def yX9_turned : MethodName := ⟨RX9, "turned", "(II)I"⟩
abbrev cX9_type : ByteArray := prog_11_method_65_code
def yX9_type : MethodName := ⟨RX9, "type", "(I)I"⟩
abbrev cX9_clear : ByteArray := prog_11_method_66_code
def yX9_clear : MethodName := ⟨RX9, "clear", "()I"⟩
abbrev cX9_here : ByteArray := prog_11_method_67_code
def yX9_here : MethodName := ⟨RX9, "here", "()I"⟩
abbrev cX9_must : ByteArray := prog_11_method_68_code
def yX9_must : MethodName := ⟨RX9, "must", "(Z)V"⟩
abbrev cX9_figure : ByteArray := prog_11_method_69_code
def yX9_figure : MethodName := ⟨RX9, "figure", "(II)I"⟩
abbrev cX9_readMove : ByteArray := prog_11_method_70_code
def yX9_readMove : MethodName := ⟨RX9, "readMove", "()I"⟩
abbrev cX9_readOrder : ByteArray := prog_11_method_71_code
def yX9_readOrder : MethodName := ⟨RX9, "readOrder", "()V"⟩
abbrev cX9_doOrder : ByteArray := prog_11_method_72_code
def yX9_doOrder : MethodName := ⟨RX9, "doOrder", "(I)I"⟩
abbrev cX9_reads : ByteArray := prog_11_method_73_code
def yX9_reads : MethodName := ⟨RX9, "reads", "()I"⟩
abbrev cX9_toldOf : ByteArray := prog_11_method_74_code
def yX9_toldOf : MethodName := ⟨RX9, "toldOf", "(I)I"⟩
abbrev cX9_told : ByteArray := prog_11_method_75_code
def yX9_told : MethodName := ⟨RX9, "told", "(I)I"⟩
abbrev cX9_mix : ByteArray := prog_11_method_76_code
def yX9_mix : MethodName := ⟨RX9, "mix", "(I)V"⟩
abbrev cX9_digest : ByteArray := prog_11_method_77_code
def yX9_digest : MethodName := ⟨RX9, "digest", "()J"⟩
def RJ9 : String := "java/lang/Math"
def TJ9 : u_T := fun k => match k with
  | _ => ("", "", "", false)
def tyJ9 : Nat → FieldType := fun k => match k with
  | _ => .int
abbrev wsJ90 : List Cond := u_ws RJ9 TJ9 0
theorem nmJ9 : ∀ a, a < 0 → ∀ b, b < 0 → a ≠ b → (TJ9 a).2.1 ≠ (TJ9 b).2.1 := by decide +kernel
theorem tyJ9_ok : ∀ k, k < 0 → parseFieldDescriptor (TJ9 k).2.2.1 = some (tyJ9 k) := by decide +kernel
abbrev cJ9_floorMod_7cf53 : ByteArray := prog_12_method_50_code
def yJ9_floorMod_7cf53 : MethodName := ⟨RJ9, "floorMod", "(II)I"⟩
abbrev cJ9_max_7cf53 : ByteArray := prog_12_method_65_code
def yJ9_max_7cf53 : MethodName := ⟨RJ9, "max", "(II)I"⟩
def RJ10 : String := "java/lang/System"
def TJ10 : u_T := fun k => match k with
  | _ => ("", "", "", false)
def tyJ10 : Nat → FieldType := fun k => match k with
  | _ => .int
abbrev wsJ100 : List Cond := u_ws RJ10 TJ10 0
theorem nmJ10 : ∀ a, a < 0 → ∀ b, b < 0 → a ≠ b → (TJ10 a).2.1 ≠ (TJ10 b).2.1 := by decide +kernel
theorem tyJ10_ok : ∀ k, k < 0 → parseFieldDescriptor (TJ10 k).2.2.1 = some (tyJ10 k) := by decide +kernel
def RJ7 : String := "java/util/Arrays"
def TJ7 : u_T := fun k => match k with
  | _ => ("", "", "", false)
def tyJ7 : Nat → FieldType := fun k => match k with
  | _ => .int
abbrev wsJ70 : List Cond := u_ws RJ7 TJ7 0
theorem nmJ7 : ∀ a, a < 0 → ∀ b, b < 0 → a ≠ b → (TJ7 a).2.1 ≠ (TJ7 b).2.1 := by decide +kernel
theorem tyJ7_ok : ∀ k, k < 0 → parseFieldDescriptor (TJ7 k).2.2.1 = some (tyJ7 k) := by decide +kernel
abbrev cJ7_fill_53178 : ByteArray := prog_14_method_103_code
def yJ7_fill_53178 : MethodName := ⟨RJ7, "fill", "([II)V"⟩
def RL : String := "RootedClassesLaw"
abbrev cL_law : ByteArray := code
def yL_law : MethodName := ⟨RL, "law", "([I)Z"⟩
def wsL_law_r1 : List Cond := [Cond.classLink RL 7 RX8, Cond.instantiable RX8 8, Cond.initialized RX8, Cond.classLink RL 10 RX9, Cond.instantiable RX9 40, Cond.initialized RX9, Cond.methodLink RL 9 yX8_init, Cond.instanceMethod yX8_init, Cond.code yX8_init cX8_init 1 none, Cond.methodLink RX8 1 objectInit, Cond.instanceMethod objectInit, Cond.code objectInit ⟨#[0xb1]⟩ 1 none, Cond.classLink RX8 7 RX5, Cond.instantiable RX5 3, Cond.initialized RX5, Cond.fieldLink RX8 10 "RootedClasses" "now" "LRootedClasses$Setting;", Cond.fieldLink RX8 16 "RootedClasses" "trial" "LRootedClasses$Setting;", Cond.classLink RX8 19 RX1, Cond.instantiable RX1 2, Cond.initialized RX1, Cond.fieldLink RX8 22 "RootedClasses" "past" "LRootedClasses$Past;", Cond.classLink RX8 26 RX4, Cond.instantiable RX4 10, Cond.initialized RX4]
def wsL_law_r2 : List Cond := [Cond.fieldLink RX8 29 "RootedClasses" "script" "LRootedClasses$Script;", Cond.classLink RX8 33 RX3, Cond.instantiable RX3 8, Cond.initialized RX3, Cond.fieldLink RX8 36 "RootedClasses" "rows" "LRootedClasses$Rows;", Cond.arrayClass .int, Cond.fieldLink RX8 40 "RootedClasses" "refusals" "[I", Cond.fieldLink RX8 44 "RootedClasses" "sortsKnown" "Z", Cond.fieldLink RX8 48 "RootedClasses" "rowsKnown" "Z", Cond.instanceMethod yX5_init, Cond.code yX5_init cX5_init 1 none, Cond.methodLink RX5 3 objectInit, Cond.fieldLink RX5 9 "RootedClasses$Setting" "points" "I", Cond.fieldLink RX5 15 "RootedClasses$Setting" "count" "I", Cond.fieldLink RX5 18 "RootedClasses$Setting" "codes" "[I", Cond.methodLink RX8 21 yX1_init, Cond.instanceMethod yX1_init, Cond.code yX1_init cX1_init 2 none, Cond.methodLink RX1 3 objectInit, Cond.fieldLink RX1 9 "RootedClasses$Past" "count" "I", Cond.classLink RX1 15 RX5, Cond.fieldLink RX1 17 "RootedClasses$Past" "states" "[LRootedClasses$Setting;", Cond.instanceMethod yX4_init, Cond.code yX4_init cX4_init 1 none]
def wsL_law_r3 : List Cond := [Cond.methodLink RX4 3 objectInit, Cond.fieldLink RX4 9 "RootedClasses$Script" "length" "I", Cond.fieldLink RX4 15 "RootedClasses$Script" "bytes" "[I", Cond.fieldLink RX4 19 "RootedClasses$Script" "kinds" "[I", Cond.fieldLink RX4 22 "RootedClasses$Script" "numbers" "[I", Cond.fieldLink RX4 25 "RootedClasses$Script" "orders" "I", Cond.fieldLink RX4 28 "RootedClasses$Script" "kind" "I", Cond.fieldLink RX4 31 "RootedClasses$Script" "number" "I", Cond.fieldLink RX4 34 "RootedClasses$Script" "figuresDue" "I", Cond.fieldLink RX4 37 "RootedClasses$Script" "figuresSeen" "I", Cond.fieldLink RX4 40 "RootedClasses$Script" "pointsThen" "I", Cond.instanceMethod yX3_init, Cond.code yX3_init cX3_init 1 none, Cond.methodLink RX3 3 objectInit, Cond.classLink RX3 9 RX6, Cond.instantiable RX6 11, Cond.initialized RX6, Cond.fieldLink RX3 12 "RootedClasses$Rows" "sorts" "LRootedClasses$Sorts;", Cond.classLink RX3 18 RX2, Cond.instantiable RX2 4, Cond.initialized RX2, Cond.fieldLink RX3 21 "RootedClasses$Rows" "prime" "LRootedClasses$Prime;", Cond.fieldLink RX3 25 "RootedClasses$Rows" "count" "I", Cond.fieldLink RX3 29 "RootedClasses$Rows" "degrees" "[I"]
def wsL_law_r4 : List Cond := [Cond.classLink RX3 33 "[[I", Cond.fieldLink RX3 35 "RootedClasses$Rows" "spreads" "[[I", Cond.fieldLink RX3 38 "RootedClasses$Rows" "values" "[[I", Cond.fieldLink RX3 41 "RootedClasses$Rows" "multiplied" "[I", Cond.classLink RX3 44 RX7, Cond.instantiable RX7 12, Cond.initialized RX7, Cond.fieldLink RX3 47 "RootedClasses$Rows" "spaces" "LRootedClasses$Spaces;", Cond.instanceMethod yX6_init, Cond.code yX6_init cX6_init 1 none, Cond.methodLink RX6 3 objectInit, Cond.classLink RX6 9 RX0, Cond.instantiable RX0 9, Cond.initialized RX0, Cond.fieldLink RX6 12 "RootedClasses$Sorts" "elements" "LRootedClasses$Elements;", Cond.fieldLink RX6 18 "RootedClasses$Sorts" "count" "I", Cond.fieldLink RX6 22 "RootedClasses$Sorts" "exponent" "I", Cond.fieldLink RX6 25 "RootedClasses$Sorts" "sortOf" "[I", Cond.fieldLink RX6 29 "RootedClasses$Sorts" "sizes" "[I", Cond.fieldLink RX6 32 "RootedClasses$Sorts" "turns" "[I", Cond.fieldLink RX6 35 "RootedClasses$Sorts" "leasts" "[I", Cond.fieldLink RX6 38 "RootedClasses$Sorts" "inverses" "[I", Cond.fieldLink RX6 41 "RootedClasses$Sorts" "pointsLeft" "[I", Cond.fieldLink RX6 44 "RootedClasses$Sorts" "pairs" "[I"]
def wsL_law_r5 : List Cond := [Cond.fieldLink RX6 47 "RootedClasses$Sorts" "powers" "[I", Cond.instanceMethod yX0_init, Cond.code yX0_init cX0_init 1 none, Cond.methodLink RX0 3 objectInit, Cond.fieldLink RX0 9 "RootedClasses$Elements" "order" "I", Cond.fieldLink RX0 15 "RootedClasses$Elements" "codes" "[I", Cond.fieldLink RX0 19 "RootedClasses$Elements" "inverses" "[I", Cond.fieldLink RX0 22 "RootedClasses$Elements" "points" "I", Cond.fieldLink RX0 25 "RootedClasses$Elements" "figures" "[I", Cond.fieldLink RX0 28 "RootedClasses$Elements" "generators" "[I", Cond.fieldLink RX0 31 "RootedClasses$Elements" "codeAtKey" "[I", Cond.fieldLink RX0 34 "RootedClasses$Elements" "placeAtKey" "[I", Cond.fieldLink RX0 37 "RootedClasses$Elements" "made" "[I", Cond.instanceMethod yX2_init, Cond.code yX2_init cX2_init 1 none, Cond.methodLink RX2 3 objectInit, Cond.fieldLink RX2 9 "RootedClasses$Prime" "p" "I", Cond.fieldLink RX2 15 "RootedClasses$Prime" "root" "I", Cond.fieldLink RX2 18 "RootedClasses$Prime" "over" "[I", Cond.fieldLink RX2 22 "RootedClasses$Prime" "rootPowers" "[I", Cond.instanceMethod yX7_init, Cond.code yX7_init cX7_init 1 none, Cond.methodLink RX7 3 objectInit, Cond.classLink RX7 9 "[[I"]
def wsL_law_r6 : List Cond := [Cond.fieldLink RX7 11 "RootedClasses$Spaces" "lines" "[[I", Cond.fieldLink RX7 16 "RootedClasses$Spaces" "nextLines" "[[I", Cond.fieldLink RX7 19 "RootedClasses$Spaces" "starts" "[I", Cond.fieldLink RX7 23 "RootedClasses$Spaces" "nextStarts" "[I", Cond.fieldLink RX7 26 "RootedClasses$Spaces" "spaces" "I", Cond.fieldLink RX7 30 "RootedClasses$Spaces" "nextSpaces" "I", Cond.fieldLink RX7 33 "RootedClasses$Spaces" "nextCount" "I", Cond.fieldLink RX7 36 "RootedClasses$Spaces" "width" "I", Cond.fieldLink RX7 39 "RootedClasses$Spaces" "action" "[[I", Cond.fieldLink RX7 42 "RootedClasses$Spaces" "work" "[[I", Cond.fieldLink RX7 45 "RootedClasses$Spaces" "pivots" "[I", Cond.fieldLink RX7 48 "RootedClasses$Spaces" "mix" "[I", Cond.methodLink RL 12 yX9_init, Cond.instanceMethod yX9_init, Cond.code yX9_init cX9_init 1 none, Cond.methodLink RX9 1 objectInit, Cond.fieldLink RX9 7 "RootedClassesModel" "now" "[I", Cond.fieldLink RX9 13 "RootedClassesModel" "held" "[I", Cond.fieldLink RX9 16 "RootedClassesModel" "past" "[I", Cond.fieldLink RX9 19 "RootedClassesModel" "refused" "[I", Cond.fieldLink RX9 22 "RootedClassesModel" "elements" "[I", Cond.fieldLink RX9 25 "RootedClassesModel" "products" "[I", Cond.fieldLink RX9 28 "RootedClassesModel" "sortOf" "[I", Cond.fieldLink RX9 31 "RootedClassesModel" "inverse" "[I"]
def wsL_law_r7 : List Cond := [Cond.fieldLink RX9 34 "RootedClassesModel" "turns" "[I", Cond.fieldLink RX9 37 "RootedClassesModel" "size" "[I", Cond.fieldLink RX9 40 "RootedClassesModel" "least" "[I", Cond.fieldLink RX9 43 "RootedClassesModel" "timesOf" "[I", Cond.fieldLink RX9 46 "RootedClassesModel" "wide" "[I", Cond.fieldLink RX9 49 "RootedClassesModel" "bases" "[I", Cond.fieldLink RX9 52 "RootedClassesModel" "newWide" "[I", Cond.fieldLink RX9 55 "RootedClassesModel" "newBases" "[I", Cond.fieldLink RX9 58 "RootedClassesModel" "grid" "[I", Cond.fieldLink RX9 61 "RootedClassesModel" "lead" "[I", Cond.fieldLink RX9 64 "RootedClassesModel" "spreads" "[I", Cond.fieldLink RX9 67 "RootedClassesModel" "degrees" "[I", Cond.fieldLink RX9 70 "RootedClassesModel" "values" "[I", Cond.fieldLink RX9 73 "RootedClassesModel" "one" "[I", Cond.fieldLink RX9 76 "RootedClassesModel" "text" "[I", Cond.fieldLink RX9 79 "RootedClassesModel" "letters" "[I", Cond.fieldLink RX9 82 "RootedClassesModel" "numbers" "[I", Cond.methodLink RL 13 yX8_points, Cond.instanceMethod yX8_points, Cond.selects RX8 yX8_points yX8_points, Cond.code yX8_points cX8_points 2 (some .int), Cond.methodLink RX8 51 yX5_copyFrom, Cond.instanceMethod yX5_copyFrom, Cond.selects RX5 yX5_copyFrom yX5_copyFrom]
def wsL_law_r8 : List Cond := [Cond.code yX5_copyFrom cX5_copyFrom 3 none, Cond.methodLink RX8 55 yX5_setPoints, Cond.instanceMethod yX5_setPoints, Cond.selects RX5 yX5_setPoints yX5_setPoints, Cond.code yX5_setPoints cX5_setPoints 3 (some .int), Cond.methodLink RX8 59 yX8_settled, Cond.instanceMethod yX8_settled, Cond.selects RX8 yX8_settled yX8_settled, Cond.code yX8_settled cX8_settled 2 (some .int), Cond.methodLink RX8 72 yX8_refused, Cond.instanceMethod yX8_refused, Cond.selects RX8 yX8_refused yX8_refused, Cond.code yX8_refused cX8_refused 3 (some .int), Cond.methodLink RX8 68 yX8_isBelow, Cond.static yX8_isBelow, Cond.code yX8_isBelow cX8_isBelow 2 (some .boolean), Cond.methodLink RX8 198 yX1_keep, Cond.instanceMethod yX1_keep, Cond.selects RX1 yX1_keep yX1_keep, Cond.code yX1_keep cX1_keep 2 none, Cond.methodLink RX1 22 yX1_loseOldest, Cond.instanceMethod yX1_loseOldest, Cond.selects RX1 yX1_loseOldest yX1_loseOldest, Cond.code yX1_loseOldest cX1_loseOldest 3 none]
def wsL_law_r9 : List Cond := [Cond.methodLink RX1 25 yX5_copyFrom, Cond.methodLink RX8 181 yX8_forgetReckoned, Cond.instanceMethod yX8_forgetReckoned, Cond.selects RX8 yX8_forgetReckoned yX8_forgetReckoned, Cond.code yX8_forgetReckoned cX8_forgetReckoned 1 none, Cond.methodLink RL 17 yX9_points, Cond.instanceMethod yX9_points, Cond.selects RX9 yX9_points yX9_points, Cond.code yX9_points cX9_points 2 (some .int), Cond.methodLink RX9 112 yX9_hold, Cond.instanceMethod yX9_hold, Cond.selects RX9 yX9_hold yX9_hold, Cond.code yX9_hold cX9_hold 2 none, Cond.methodLink RX9 115 yX9_doPoints, Cond.instanceMethod yX9_doPoints, Cond.selects RX9 yX9_doPoints yX9_doPoints, Cond.code yX9_doPoints cX9_doPoints 3 (some .int), Cond.fieldLink RX9 96 "RootedClassesModel" "isLaid" "Z", Cond.methodLink RX9 100 yX9_in, Cond.static yX9_in, Cond.code yX9_in cX9_in 3 (some .boolean), Cond.methodLink RX9 118 yX9_ends, Cond.instanceMethod yX9_ends, Cond.selects RX9 yX9_ends yX9_ends]
def wsL_law_r10 : List Cond := [Cond.code yX9_ends cX9_ends 2 (some .int), Cond.methodLink RX9 89 yX9_refuses, Cond.instanceMethod yX9_refuses, Cond.selects RX9 yX9_refuses yX9_refuses, Cond.code yX9_refuses cX9_refuses 2 (some .int), Cond.methodLink RX9 93 yX9_push, Cond.instanceMethod yX9_push, Cond.selects RX9 yX9_push yX9_push, Cond.code yX9_push cX9_push 2 none, Cond.fieldLink RX9 85 "RootedClassesModel" "pasts" "I", Cond.methodLink RL 18 yX8_moves, Cond.instanceMethod yX8_moves, Cond.selects RX8 yX8_moves yX8_moves, Cond.code yX8_moves cX8_moves 2 (some .int), Cond.methodLink RX8 62 yX5_addGenerator, Cond.instanceMethod yX5_addGenerator, Cond.selects RX5 yX5_addGenerator yX5_addGenerator, Cond.code yX5_addGenerator cX5_addGenerator 2 (some .int), Cond.methodLink RX5 22 yX5_isMove, Cond.instanceMethod yX5_isMove, Cond.selects RX5 yX5_isMove yX5_isMove, Cond.code yX5_isMove cX5_isMove 6 (some .boolean), Cond.methodLink RL 21 yX9_moves, Cond.instanceMethod yX9_moves]
def wsL_law_r11 : List Cond := [Cond.selects RX9 yX9_moves yX9_moves, Cond.code yX9_moves cX9_moves 2 (some .int), Cond.methodLink RX9 121 yX9_doMoves, Cond.instanceMethod yX9_doMoves, Cond.selects RX9 yX9_doMoves yX9_doMoves, Cond.code yX9_doMoves cX9_doMoves 2 (some .int), Cond.methodLink RX9 108 yX9_isMove, Cond.instanceMethod yX9_isMove, Cond.selects RX9 yX9_isMove yX9_isMove, Cond.code yX9_isMove cX9_isMove 5 (some .boolean), Cond.methodLink RX9 104 yX9_to, Cond.instanceMethod yX9_to, Cond.selects RX9 yX9_to yX9_to, Cond.code yX9_to cX9_to 5 (some .int), Cond.methodLink RL 22 yX8_drops, Cond.instanceMethod yX8_drops, Cond.selects RX8 yX8_drops yX8_drops, Cond.code yX8_drops cX8_drops 2 (some .int), Cond.methodLink RX8 65 yX5_dropGenerator, Cond.instanceMethod yX5_dropGenerator, Cond.selects RX5 yX5_dropGenerator yX5_dropGenerator, Cond.code yX5_dropGenerator cX5_dropGenerator 3 (some .int), Cond.methodLink RL 25 yX9_drops, Cond.instanceMethod yX9_drops]
def wsL_law_r12 : List Cond := [Cond.selects RX9 yX9_drops yX9_drops, Cond.code yX9_drops cX9_drops 2 (some .int), Cond.methodLink RX9 124 yX9_doDrops, Cond.instanceMethod yX9_doDrops, Cond.selects RX9 yX9_doDrops yX9_doDrops, Cond.code yX9_doDrops cX9_doDrops 3 (some .int), Cond.methodLink RL 26 yX8_of, Cond.instanceMethod yX8_of, Cond.selects RX8 yX8_of yX8_of, Cond.code yX8_of cX8_of 2 (some .int), Cond.methodLink RX8 75 yX8_learnRows, Cond.instanceMethod yX8_learnRows, Cond.selects RX8 yX8_learnRows yX8_learnRows, Cond.code yX8_learnRows cX8_learnRows 1 none, Cond.methodLink RX8 78 yX8_learnSorts, Cond.instanceMethod yX8_learnSorts, Cond.selects RX8 yX8_learnSorts yX8_learnSorts, Cond.code yX8_learnSorts cX8_learnSorts 1 none, Cond.fieldLink RX8 84 "RootedClasses$Rows" "sorts" "LRootedClasses$Sorts;", Cond.fieldLink RX8 88 "RootedClasses$Sorts" "elements" "LRootedClasses$Elements;", Cond.fieldLink RX8 210 "RootedClasses$Rows" "prime" "LRootedClasses$Prime;", Cond.fieldLink RX8 94 "RootedClasses$Elements" "order" "I", Cond.fieldLink RX8 214 "RootedClasses$Sorts" "exponent" "I", Cond.methodLink RX8 201 yX0_build]
def wsL_law_r13 : List Cond := [Cond.instanceMethod yX0_build, Cond.selects RX0 yX0_build yX0_build, Cond.code yX0_build cX0_build 3 none, Cond.fieldLink RX0 40 "RootedClasses$Setting" "points" "I", Cond.fieldLink RX0 43 "RootedClasses$Setting" "count" "I", Cond.fieldLink RX0 46 "RootedClasses$Setting" "codes" "[I", Cond.methodLink RX0 47 yX0_spell, Cond.instanceMethod yX0_spell, Cond.selects RX0 yX0_spell yX0_spell, Cond.code yX0_spell cX0_spell 6 none, Cond.methodLink RX0 51 yX0_makeAll, Cond.instanceMethod yX0_makeAll, Cond.selects RX0 yX0_makeAll yX0_makeAll, Cond.code yX0_makeAll cX0_makeAll 5 none, Cond.methodLink RX0 65 yJ7_fill_53178, Cond.static yJ7_fill_53178, Cond.initialized RJ7, Cond.code yJ7_fill_53178 cJ7_fill_53178 4 none, Cond.methodLink RX0 71 yX0_addMade, Cond.instanceMethod yX0_addMade, Cond.selects RX0 yX0_addMade yX0_addMade, Cond.code yX0_addMade cX0_addMade 4 none, Cond.methodLink RX0 74 yX0_keyOfMade, Cond.instanceMethod yX0_keyOfMade]
def wsL_law_r14 : List Cond := [Cond.selects RX0 yX0_keyOfMade yX0_keyOfMade, Cond.code yX0_keyOfMade cX0_keyOfMade 3 (some .int), Cond.methodLink RX0 55 yX0_putInOrder, Cond.instanceMethod yX0_putInOrder, Cond.selects RX0 yX0_putInOrder yX0_putInOrder, Cond.code yX0_putInOrder cX0_putInOrder 3 none, Cond.methodLink RX0 58 yX0_findInverses, Cond.instanceMethod yX0_findInverses, Cond.selects RX0 yX0_findInverses yX0_findInverses, Cond.code yX0_findInverses cX0_findInverses 3 none, Cond.methodLink RX0 61 yX0_placeOfMade, Cond.instanceMethod yX0_placeOfMade, Cond.selects RX0 yX0_placeOfMade yX0_placeOfMade, Cond.code yX0_placeOfMade cX0_placeOfMade 2 (some .int), Cond.methodLink RX8 204 yX6_takeApart, Cond.instanceMethod yX6_takeApart, Cond.selects RX6 yX6_takeApart yX6_takeApart, Cond.code yX6_takeApart cX6_takeApart 2 none, Cond.fieldLink RX6 56 "RootedClasses$Elements" "order" "I", Cond.methodLink RX6 50 yJ7_fill_53178, Cond.methodLink RX6 59 yX6_gather, Cond.instanceMethod yX6_gather, Cond.selects RX6 yX6_gather yX6_gather, Cond.code yX6_gather cX6_gather 6 (some .int)]
def wsL_law_r15 : List Cond := [Cond.methodLink RX6 77 yX0_movedBy, Cond.instanceMethod yX0_movedBy, Cond.selects RX0 yX0_movedBy yX0_movedBy, Cond.code yX0_movedBy cX0_movedBy 6 (some .int), Cond.methodLink RX8 207 yX6_describe, Cond.instanceMethod yX6_describe, Cond.selects RX6 yX6_describe yX6_describe, Cond.code yX6_describe cX6_describe 2 none, Cond.fieldLink RX6 63 "RootedClasses$Elements" "inverses" "[I", Cond.methodLink RX6 64 yX0_pointsLeft, Cond.instanceMethod yX0_pointsLeft, Cond.selects RX0 yX0_pointsLeft yX0_pointsLeft, Cond.code yX0_pointsLeft cX0_pointsLeft 4 (some .int), Cond.methodLink RX6 67 yX6_findPowers, Cond.instanceMethod yX6_findPowers, Cond.selects RX6 yX6_findPowers yX6_findPowers, Cond.code yX6_findPowers cX6_findPowers 4 none, Cond.methodLink RX6 80 yX0_multiplied, Cond.instanceMethod yX0_multiplied, Cond.selects RX0 yX0_multiplied yX0_multiplied, Cond.code yX0_multiplied cX0_multiplied 4 (some .int), Cond.methodLink RX6 71 yX6_leastShared, Cond.static yX6_leastShared, Cond.code yX6_leastShared cX6_leastShared 4 (some .int)]
def wsL_law_r16 : List Cond := [Cond.methodLink RX6 74 yX6_countPairs, Cond.instanceMethod yX6_countPairs, Cond.selects RX6 yX6_countPairs yX6_countPairs, Cond.code yX6_countPairs cX6_countPairs 4 none, Cond.methodLink RX6 83 yX6_pairPlace, Cond.static yX6_pairPlace, Cond.code yX6_pairPlace cX6_pairPlace 3 (some .int), Cond.methodLink RX8 217 yX2_choose, Cond.instanceMethod yX2_choose, Cond.selects RX2 yX2_choose yX2_choose, Cond.code yX2_choose cX2_choose 5 none, Cond.methodLink RX2 25 Lib.Math.max.name, Cond.static Lib.Math.max.name, Cond.initialized "java/lang/Math", Cond.code Lib.Math.max.name Lib.Math.max.code 2 (some .int), Cond.methodLink RX2 31 yX2_isPrime, Cond.static yX2_isPrime, Cond.code yX2_isPrime cX2_isPrime 2 (some .boolean), Cond.methodLink RX2 35 yX2_findOver, Cond.instanceMethod yX2_findOver, Cond.selects RX2 yX2_findOver yX2_findOver, Cond.code yX2_findOver cX2_findOver 2 none, Cond.methodLink RX2 45 yX2_left, Cond.instanceMethod yX2_left]
def wsL_law_r17 : List Cond := [Cond.selects RX2 yX2_left yX2_left, Cond.code yX2_left cX2_left 3 (some .int), Cond.methodLink RX2 38 yX2_leastMaker, Cond.instanceMethod yX2_leastMaker, Cond.selects RX2 yX2_leastMaker yX2_leastMaker, Cond.code yX2_leastMaker cX2_leastMaker 4 (some .int), Cond.methodLink RX2 42 yX2_powerOf, Cond.instanceMethod yX2_powerOf, Cond.selects RX2 yX2_powerOf yX2_powerOf, Cond.code yX2_powerOf cX2_powerOf 5 (some .int), Cond.methodLink RX8 222 yX3_build, Cond.instanceMethod yX3_build, Cond.selects RX3 yX3_build yX3_build, Cond.code yX3_build cX3_build 3 none, Cond.fieldLink RX3 51 "RootedClasses$Sorts" "count" "I", Cond.fieldLink RX3 64 "RootedClasses$Sorts" "sizes" "[I", Cond.methodLink RX3 52 yX7_takeApart, Cond.instanceMethod yX7_takeApart, Cond.selects RX7 yX7_takeApart yX7_takeApart, Cond.code yX7_takeApart cX7_takeApart 5 none, Cond.fieldLink RX7 51 "RootedClasses$Sorts" "count" "I", Cond.methodLink RX7 56 yX7_begin, Cond.instanceMethod yX7_begin, Cond.selects RX7 yX7_begin yX7_begin]
def wsL_law_r18 : List Cond := [Cond.code yX7_begin cX7_begin 3 none, Cond.methodLink RX7 73 yJ7_fill_53178, Cond.methodLink RX7 60 yX7_splitSpace, Cond.instanceMethod yX7_splitSpace, Cond.selects RX7 yX7_splitSpace yX7_splitSpace, Cond.code yX7_splitSpace cX7_splitSpace 10 none, Cond.fieldLink RX7 90 "RootedClasses$Prime" "p" "I", Cond.methodLink RX7 79 yX7_keepLine, Cond.instanceMethod yX7_keepLine, Cond.selects RX7 yX7_keepLine yX7_keepLine, Cond.code yX7_keepLine cX7_keepLine 2 none, Cond.methodLink RX7 101 arraycopyName, Cond.native arraycopyName, Cond.static arraycopyName, Cond.initialized "java/lang/System", Cond.methodLink RX7 82 yX7_reduce, Cond.instanceMethod yX7_reduce, Cond.selects RX7 yX7_reduce yX7_reduce, Cond.code yX7_reduce cX7_reduce 11 (some .int), Cond.fieldLink RX7 126 "RootedClasses$Prime" "over" "[I", Cond.methodLink RX7 122 yX7_lineWith, Cond.static yX7_lineWith, Cond.code yX7_lineWith cX7_lineWith 5 (some .int), Cond.methodLink RX7 114 yX2_left]
def wsL_law_r19 : List Cond := [Cond.methodLink RX7 129 yX7_scale, Cond.static yX7_scale, Cond.code yX7_scale cX7_scale 6 none, Cond.methodLink RX7 133 yX7_clearColumn, Cond.static yX7_clearColumn, Cond.code yX7_clearColumn cX7_clearColumn 7 none, Cond.methodLink RX7 86 yX7_fillAction, Cond.instanceMethod yX7_fillAction, Cond.selects RX7 yX7_fillAction yX7_fillAction, Cond.code yX7_fillAction cX7_fillAction 10 none, Cond.fieldLink RX7 107 "RootedClasses$Sorts" "pairs" "[I", Cond.methodLink RX7 110 yX6_pairPlace, Cond.methodLink RX7 93 yX7_fillWork, Cond.instanceMethod yX7_fillWork, Cond.selects RX7 yX7_fillWork yX7_fillWork, Cond.code yX7_fillWork cX7_fillWork 6 none, Cond.methodLink RX7 97 yX7_addMixes, Cond.instanceMethod yX7_addMixes, Cond.selects RX7 yX7_addMixes yX7_addMixes, Cond.code yX7_addMixes cX7_addMixes 8 none, Cond.methodLink RX7 118 yX7_mixLines, Cond.instanceMethod yX7_mixLines, Cond.selects RX7 yX7_mixLines yX7_mixLines, Cond.code yX7_mixLines cX7_mixLines 8 none]
def wsL_law_r20 : List Cond := [Cond.methodLink RX7 64 yX7_takeNext, Cond.instanceMethod yX7_takeNext, Cond.selects RX7 yX7_takeNext yX7_takeNext, Cond.code yX7_takeNext cX7_takeNext 3 none, Cond.methodLink RX3 56 yX7_copyLine, Cond.instanceMethod yX7_copyLine, Cond.selects RX7 yX7_copyLine yX7_copyLine, Cond.code yX7_copyLine cX7_copyLine 5 none, Cond.methodLink RX7 67 yX2_divided, Cond.instanceMethod yX2_divided, Cond.selects RX2 yX2_divided yX2_divided, Cond.code yX2_divided cX2_divided 3 (some .int), Cond.methodLink RX3 60 yX3_degreeOf, Cond.instanceMethod yX3_degreeOf, Cond.selects RX3 yX3_degreeOf yX3_degreeOf, Cond.code yX3_degreeOf cX3_degreeOf 5 (some .int), Cond.fieldLink RX3 103 "RootedClasses$Sorts" "inverses" "[I", Cond.fieldLink RX3 91 "RootedClasses$Sorts" "elements" "LRootedClasses$Elements;", Cond.fieldLink RX3 95 "RootedClasses$Elements" "order" "I", Cond.methodLink RX3 67 yX2_divided, Cond.methodLink RX3 106 yX2_left, Cond.methodLink RX3 71 yX3_putInOrder, Cond.instanceMethod yX3_putInOrder, Cond.selects RX3 yX3_putInOrder yX3_putInOrder]
def wsL_law_r21 : List Cond := [Cond.code yX3_putInOrder cX3_putInOrder 3 none, Cond.methodLink RX3 114 yX3_comesBefore, Cond.instanceMethod yX3_comesBefore, Cond.selects RX3 yX3_comesBefore yX3_comesBefore, Cond.code yX3_comesBefore cX3_comesBefore 4 (some .boolean), Cond.methodLink RX3 110 yX3_differAt, Cond.instanceMethod yX3_differAt, Cond.selects RX3 yX3_differAt yX3_differAt, Cond.code yX3_differAt cX3_differAt 4 (some .int), Cond.methodLink RX3 118 yX3_exchange, Cond.instanceMethod yX3_exchange, Cond.selects RX3 yX3_exchange yX3_exchange, Cond.code yX3_exchange cX3_exchange 5 none, Cond.methodLink RX8 81 yX8_wholeAnswer, Cond.instanceMethod yX8_wholeAnswer, Cond.selects RX8 yX8_wholeAnswer yX8_wholeAnswer, Cond.code yX8_wholeAnswer cX8_wholeAnswer 2 (some .int), Cond.fieldLink RX8 116 "RootedClasses$Sorts" "count" "I", Cond.fieldLink RX8 224 "RootedClasses$Prime" "p" "I", Cond.fieldLink RX8 227 "RootedClasses$Prime" "root" "I", Cond.fieldLink RX8 190 "RootedClasses$Setting" "count" "I", Cond.methodLink RX8 230 yX6_countAlone, Cond.instanceMethod yX6_countAlone, Cond.selects RX6 yX6_countAlone yX6_countAlone]
def wsL_law_r22 : List Cond := [Cond.code yX6_countAlone cX6_countAlone 3 (some .int), Cond.methodLink RX8 233 yX3_countOfDegreeOne, Cond.instanceMethod yX3_countOfDegreeOne, Cond.selects RX3 yX3_countOfDegreeOne yX3_countOfDegreeOne, Cond.code yX3_countOfDegreeOne cX3_countOfDegreeOne 3 (some .int), Cond.methodLink RL 29 yX9_of, Cond.instanceMethod yX9_of, Cond.selects RX9 yX9_of yX9_of, Cond.code yX9_of cX9_of 2 (some .int), Cond.methodLink RX9 231 yX9_ofAll, Cond.instanceMethod yX9_ofAll, Cond.selects RX9 yX9_ofAll yX9_ofAll, Cond.code yX9_ofAll cX9_ofAll 4 (some .int), Cond.fieldLink RX9 127 "RootedClassesModel" "order" "I", Cond.fieldLink RX9 143 "RootedClassesModel" "sorts" "I", Cond.fieldLink RX9 149 "RootedClassesModel" "exponent" "I", Cond.fieldLink RX9 146 "RootedClassesModel" "prime" "I", Cond.fieldLink RX9 164 "RootedClassesModel" "root" "I", Cond.methodLink RX9 228 yX9_lay, Cond.instanceMethod yX9_lay, Cond.selects RX9 yX9_lay yX9_lay, Cond.code yX9_lay cX9_lay 1 none, Cond.methodLink RX9 167 yX9_findElements, Cond.instanceMethod yX9_findElements]
def wsL_law_r23 : List Cond := [Cond.selects RX9 yX9_findElements yX9_findElements, Cond.code yX9_findElements cX9_findElements 4 none, Cond.methodLink RX9 130 yX9_stays, Cond.instanceMethod yX9_stays, Cond.selects RX9 yX9_stays yX9_stays, Cond.code yX9_stays cX9_stays 3 (some .int), Cond.methodLink RX9 134 yX9_both, Cond.instanceMethod yX9_both, Cond.selects RX9 yX9_both yX9_both, Cond.code yX9_both cX9_both 5 (some .int), Cond.methodLink RX9 137 yX9_find, Cond.instanceMethod yX9_find, Cond.selects RX9 yX9_find yX9_find, Cond.code yX9_find cX9_find 3 (some .int), Cond.methodLink RX9 170 yX9_findTurns, Cond.instanceMethod yX9_findTurns, Cond.selects RX9 yX9_findTurns yX9_findTurns, Cond.code yX9_findTurns cX9_findTurns 5 none, Cond.methodLink RX9 140 yX9_then, Cond.instanceMethod yX9_then, Cond.selects RX9 yX9_then yX9_then, Cond.code yX9_then cX9_then 3 (some .int), Cond.methodLink RX9 173 yX9_findSorts, Cond.instanceMethod yX9_findSorts]
def wsL_law_r24 : List Cond := [Cond.selects RX9 yX9_findSorts yX9_findSorts, Cond.code yX9_findSorts cX9_findSorts 4 none, Cond.methodLink RX9 176 yX9_findPrime, Cond.instanceMethod yX9_findPrime, Cond.selects RX9 yX9_findPrime yX9_findPrime, Cond.code yX9_findPrime cX9_findPrime 3 none, Cond.methodLink RX9 152 yX9_common, Cond.static yX9_common, Cond.code yX9_common cX9_common 5 (some .int), Cond.methodLink RX9 155 yX9_isPrime, Cond.static yX9_isPrime, Cond.code yX9_isPrime cX9_isPrime 3 (some .boolean), Cond.methodLink RX9 158 yX9_round, Cond.instanceMethod yX9_round, Cond.selects RX9 yX9_round yX9_round, Cond.code yX9_round cX9_round 4 (some .int), Cond.methodLink RX9 161 yX9_power, Cond.instanceMethod yX9_power, Cond.selects RX9 yX9_power yX9_power, Cond.code yX9_power cX9_power 5 (some .int), Cond.methodLink RX9 179 yX9_findTimes, Cond.instanceMethod yX9_findTimes, Cond.selects RX9 yX9_findTimes yX9_findTimes, Cond.code yX9_findTimes cX9_findTimes 4 none]
def wsL_law_r25 : List Cond := [Cond.methodLink RX9 182 yX9_findSpreads, Cond.instanceMethod yX9_findSpreads, Cond.selects RX9 yX9_findSpreads yX9_findSpreads, Cond.code yX9_findSpreads cX9_findSpreads 4 none, Cond.fieldLink RX9 209 "RootedClassesModel" "spaces" "I", Cond.fieldLink RX9 206 "RootedClassesModel" "splits" "I", Cond.methodLink RX9 212 yX9_split, Cond.instanceMethod yX9_split, Cond.selects RX9 yX9_split yX9_split, Cond.code yX9_split cX9_split 10 none, Cond.methodLink RX9 198 yX9_layGrid, Cond.instanceMethod yX9_layGrid, Cond.selects RX9 yX9_layGrid yX9_layGrid, Cond.code yX9_layGrid cX9_layGrid 9 none, Cond.methodLink RX9 188 yX9_over, Cond.instanceMethod yX9_over, Cond.selects RX9 yX9_over yX9_over, Cond.code yX9_over cX9_over 3 (some .int), Cond.methodLink RX9 202 yX9_plain, Cond.instanceMethod yX9_plain, Cond.selects RX9 yX9_plain yX9_plain, Cond.code yX9_plain cX9_plain 5 none, Cond.methodLink RX9 191 yX9_leadBy, Cond.instanceMethod yX9_leadBy]
def wsL_law_r26 : List Cond := [Cond.selects RX9 yX9_leadBy yX9_leadBy, Cond.code yX9_leadBy cX9_leadBy 9 none, Cond.methodLink RX9 195 yX9_by, Cond.instanceMethod yX9_by, Cond.selects RX9 yX9_by yX9_by, Cond.code yX9_by cX9_by 4 (some .int), Cond.methodLink RX9 185 yX9_findRows, Cond.instanceMethod yX9_findRows, Cond.selects RX9 yX9_findRows yX9_findRows, Cond.code yX9_findRows cX9_findRows 3 none, Cond.methodLink RX9 218 yX9_degreeOf, Cond.instanceMethod yX9_degreeOf, Cond.selects RX9 yX9_degreeOf yX9_degreeOf, Cond.code yX9_degreeOf cX9_degreeOf 4 (some .int), Cond.methodLink RX9 215 yX9_starOf, Cond.instanceMethod yX9_starOf, Cond.selects RX9 yX9_starOf yX9_starOf, Cond.code yX9_starOf cX9_starOf 2 (some .int), Cond.methodLink RX9 221 yX9_isAhead, Cond.instanceMethod yX9_isAhead, Cond.selects RX9 yX9_isAhead yX9_isAhead, Cond.code yX9_isAhead cX9_isAhead 4 (some .boolean), Cond.methodLink RX9 225 yX9_exchange, Cond.instanceMethod yX9_exchange]
def wsL_law_r27 : List Cond := [Cond.selects RX9 yX9_exchange yX9_exchange, Cond.code yX9_exchange cX9_exchange 6 none, Cond.methodLink RL 30 yX8_element, Cond.instanceMethod yX8_element, Cond.selects RX8 yX8_element yX8_element, Cond.code yX8_element cX8_element 4 (some .int), Cond.fieldLink RX8 100 "RootedClasses$Elements" "codes" "[I", Cond.fieldLink RX8 103 "RootedClasses$Sorts" "sortOf" "[I", Cond.fieldLink RX8 106 "RootedClasses$Elements" "inverses" "[I", Cond.fieldLink RX8 109 "RootedClasses$Sorts" "turns" "[I", Cond.methodLink RL 34 yX9_element, Cond.instanceMethod yX9_element, Cond.selects RX9 yX9_element yX9_element, Cond.code yX9_element cX9_element 3 (some .int), Cond.methodLink RX9 234 yX9_isElement, Cond.instanceMethod yX9_isElement, Cond.selects RX9 yX9_isElement yX9_isElement, Cond.code yX9_isElement cX9_isElement 2 (some .boolean), Cond.methodLink RL 35 yX8_product, Cond.instanceMethod yX8_product, Cond.selects RX8 yX8_product yX8_product, Cond.code yX8_product cX8_product 4 (some .int), Cond.methodLink RX8 112 yX0_multiplied, Cond.methodLink RL 38 yX9_product]
def wsL_law_r28 : List Cond := [Cond.instanceMethod yX9_product, Cond.selects RX9 yX9_product yX9_product, Cond.code yX9_product cX9_product 3 (some .int), Cond.methodLink RL 39 yX8_sort, Cond.instanceMethod yX8_sort, Cond.selects RX8 yX8_sort yX8_sort, Cond.code yX8_sort cX8_sort 3 (some .int), Cond.methodLink RX8 119 yX8_sortAnswer, Cond.instanceMethod yX8_sortAnswer, Cond.selects RX8 yX8_sortAnswer yX8_sortAnswer, Cond.code yX8_sortAnswer cX8_sortAnswer 4 (some .int), Cond.fieldLink RX8 236 "RootedClasses$Sorts" "sizes" "[I", Cond.fieldLink RX8 239 "RootedClasses$Sorts" "leasts" "[I", Cond.fieldLink RX8 242 "RootedClasses$Sorts" "inverses" "[I", Cond.fieldLink RX8 159 "RootedClasses$Sorts" "pointsLeft" "[I", Cond.methodLink RX8 243 yX6_powerSort, Cond.instanceMethod yX6_powerSort, Cond.selects RX6 yX6_powerSort yX6_powerSort, Cond.code yX6_powerSort cX6_powerSort 3 (some .int), Cond.methodLink RL 42 yX9_sort, Cond.instanceMethod yX9_sort, Cond.selects RX9 yX9_sort yX9_sort, Cond.code yX9_sort cX9_sort 3 (some .int), Cond.methodLink RX9 240 yX9_isSort]
def wsL_law_r29 : List Cond := [Cond.instanceMethod yX9_isSort, Cond.selects RX9 yX9_isSort yX9_isSort, Cond.code yX9_isSort cX9_isSort 2 (some .boolean), Cond.methodLink RX9 243 yX9_ofSort, Cond.instanceMethod yX9_ofSort, Cond.selects RX9 yX9_ofSort yX9_ofSort, Cond.code yX9_ofSort cX9_ofSort 3 (some .int), Cond.methodLink RX9 237 yX9_left, Cond.instanceMethod yX9_left, Cond.selects RX9 yX9_left yX9_left, Cond.code yX9_left cX9_left 4 (some .int), Cond.methodLink RL 43 yX8_times, Cond.instanceMethod yX8_times, Cond.selects RX8 yX8_times yX8_times, Cond.code yX8_times cX8_times 5 (some .int), Cond.fieldLink RX8 122 "RootedClasses$Sorts" "pairs" "[I", Cond.methodLink RX8 125 yX6_pairPlace, Cond.methodLink RL 47 yX9_times, Cond.instanceMethod yX9_times, Cond.selects RX9 yX9_times yX9_times, Cond.code yX9_times cX9_times 4 (some .int), Cond.methodLink RL 48 yX8_degree, Cond.instanceMethod yX8_degree, Cond.selects RX8 yX8_degree yX8_degree]
def wsL_law_r30 : List Cond := [Cond.code yX8_degree cX8_degree 2 (some .int), Cond.fieldLink RX8 129 "RootedClasses$Rows" "count" "I", Cond.fieldLink RX8 130 "RootedClasses$Rows" "degrees" "[I", Cond.methodLink RL 51 yX9_degree, Cond.instanceMethod yX9_degree, Cond.selects RX9 yX9_degree yX9_degree, Cond.code yX9_degree cX9_degree 2 (some .int), Cond.methodLink RL 52 yX8_value, Cond.instanceMethod yX8_value, Cond.selects RX8 yX8_value yX8_value, Cond.code yX8_value cX8_value 3 (some .int), Cond.fieldLink RX8 133 "RootedClasses$Rows" "values" "[[I", Cond.methodLink RL 55 yX9_value, Cond.instanceMethod yX9_value, Cond.selects RX9 yX9_value yX9_value, Cond.code yX9_value cX9_value 3 (some .int), Cond.methodLink RL 56 yX8_spread, Cond.instanceMethod yX8_spread, Cond.selects RX8 yX8_spread yX8_spread, Cond.code yX8_spread cX8_spread 3 (some .int), Cond.fieldLink RX8 137 "RootedClasses$Rows" "spreads" "[[I", Cond.methodLink RL 59 yX9_spread, Cond.instanceMethod yX9_spread, Cond.selects RX9 yX9_spread yX9_spread]
def wsL_law_r31 : List Cond := [Cond.code yX9_spread cX9_spread 3 (some .int), Cond.methodLink RL 60 yX8_part, Cond.instanceMethod yX8_part, Cond.selects RX8 yX8_part yX8_part, Cond.code yX8_part cX8_part 4 (some .int), Cond.methodLink RX8 140 yX3_rootCount, Cond.instanceMethod yX3_rootCount, Cond.selects RX3 yX3_rootCount yX3_rootCount, Cond.code yX3_rootCount cX3_rootCount 9 (some .int), Cond.fieldLink RX3 74 "RootedClasses$Sorts" "turns" "[I", Cond.fieldLink RX3 77 "RootedClasses$Sorts" "exponent" "I", Cond.fieldLink RX3 88 "RootedClasses$Prime" "rootPowers" "[I", Cond.methodLink RX3 80 yJ9_floorMod_7cf53, Cond.static yJ9_floorMod_7cf53, Cond.initialized RJ9, Cond.code yJ9_floorMod_7cf53 cJ9_floorMod_7cf53 3 (some .int), Cond.methodLink RX3 85 yX6_powerSort, Cond.methodLink RL 63 yX9_part, Cond.instanceMethod yX9_part, Cond.selects RX9 yX9_part yX9_part, Cond.code yX9_part cX9_part 9 (some .int), Cond.methodLink RL 64 yX8_mirror, Cond.instanceMethod yX8_mirror, Cond.selects RX8 yX8_mirror yX8_mirror]
def wsL_law_r32 : List Cond := [Cond.code yX8_mirror cX8_mirror 2 (some .int), Cond.methodLink RX8 143 yX3_mirrorSign, Cond.instanceMethod yX3_mirrorSign, Cond.selects RX3 yX3_mirrorSign yX3_mirrorSign, Cond.code yX3_mirrorSign cX3_mirrorSign 4 (some .int), Cond.fieldLink RX3 100 "RootedClasses$Prime" "p" "I", Cond.methodLink RL 67 yX9_mirror, Cond.instanceMethod yX9_mirror, Cond.selects RX9 yX9_mirror yX9_mirror, Cond.code yX9_mirror cX9_mirror 2 (some .int), Cond.methodLink RX9 246 yX9_mirrorOf, Cond.instanceMethod yX9_mirrorOf, Cond.selects RX9 yX9_mirrorOf yX9_mirrorOf, Cond.code yX9_mirrorOf cX9_mirrorOf 4 (some .int), Cond.methodLink RL 68 yX8_blind, Cond.instanceMethod yX8_blind, Cond.selects RX8 yX8_blind yX8_blind, Cond.code yX8_blind cX8_blind 2 (some .int), Cond.methodLink RX8 146 yX3_blindBits, Cond.instanceMethod yX3_blindBits, Cond.selects RX3 yX3_blindBits yX3_blindBits, Cond.code yX3_blindBits cX3_blindBits 4 (some .int), Cond.methodLink RL 71 yX9_blind, Cond.instanceMethod yX9_blind]
def wsL_law_r33 : List Cond := [Cond.selects RX9 yX9_blind yX9_blind, Cond.code yX9_blind cX9_blind 4 (some .int), Cond.methodLink RL 72 yX8_within, Cond.instanceMethod yX8_within, Cond.selects RX8 yX8_within yX8_within, Cond.code yX8_within cX8_within 4 (some .int), Cond.fieldLink RX8 153 "RootedClasses$Rows" "multiplied" "[I", Cond.methodLink RX8 149 yX3_multiplyRows, Cond.instanceMethod yX3_multiplyRows, Cond.selects RX3 yX3_multiplyRows yX3_multiplyRows, Cond.code yX3_multiplyRows cX3_multiplyRows 4 none, Cond.methodLink RX8 155 yX3_meet, Cond.instanceMethod yX3_meet, Cond.selects RX3 yX3_meet yX3_meet, Cond.code yX3_meet cX3_meet 5 (some .int), Cond.methodLink RL 75 yX9_within, Cond.instanceMethod yX9_within, Cond.selects RX9 yX9_within yX9_within, Cond.code yX9_within cX9_within 4 (some .int), Cond.methodLink RX9 249 yX9_multiply, Cond.instanceMethod yX9_multiply, Cond.selects RX9 yX9_multiply yX9_multiply, Cond.code yX9_multiply cX9_multiply 4 none, Cond.methodLink RX9 253 yX9_meet]
def wsL_law_r34 : List Cond := [Cond.instanceMethod yX9_meet, Cond.selects RX9 yX9_meet yX9_meet, Cond.code yX9_meet cX9_meet 4 (some .int), Cond.methodLink RL 76 yX8_natural, Cond.instanceMethod yX8_natural, Cond.selects RX8 yX8_natural yX8_natural, Cond.code yX8_natural cX8_natural 2 (some .int), Cond.methodLink RL 79 yX9_natural, Cond.instanceMethod yX9_natural, Cond.selects RX9 yX9_natural yX9_natural, Cond.code yX9_natural cX9_natural 3 (some .int), Cond.methodLink RL 80 yX8_turned, Cond.instanceMethod yX8_turned, Cond.selects RX8 yX8_turned yX8_turned, Cond.code yX8_turned cX8_turned 3 (some .int), Cond.methodLink RX8 162 yX3_rowLike, Cond.instanceMethod yX3_rowLike, Cond.selects RX3 yX3_rowLike yX3_rowLike, Cond.code yX3_rowLike cX3_rowLike 3 (some .int), Cond.methodLink RL 83 yX9_turned, Cond.instanceMethod yX9_turned, Cond.selects RX9 yX9_turned yX9_turned, Cond.code yX9_turned cX9_turned 6 (some .int), Cond.methodLink RL 84 yX8_type]
def wsL_law_r35 : List Cond := [Cond.instanceMethod yX8_type, Cond.selects RX8 yX8_type yX8_type, Cond.code yX8_type cX8_type 3 (some .int), Cond.methodLink RX8 166 yX4_append, Cond.instanceMethod yX4_append, Cond.selects RX4 yX4_append yX4_append, Cond.code yX4_append cX4_append 2 (some .int), Cond.methodLink RL 87 yX9_type, Cond.instanceMethod yX9_type, Cond.selects RX9 yX9_type yX9_type, Cond.code yX9_type cX9_type 2 (some .int), Cond.fieldLink RX9 256 "RootedClassesModel" "typed" "I", Cond.methodLink RL 88 yX8_clear, Cond.instanceMethod yX8_clear, Cond.selects RX8 yX8_clear yX8_clear, Cond.code yX8_clear cX8_clear 1 (some .int), Cond.methodLink RX8 169 yX4_empty, Cond.instanceMethod yX4_empty, Cond.selects RX4 yX4_empty yX4_empty, Cond.code yX4_empty cX4_empty 2 (some .int), Cond.methodLink RL 92 yX9_clear, Cond.instanceMethod yX9_clear, Cond.selects RX9 yX9_clear yX9_clear, Cond.code yX9_clear cX9_clear 2 (some .int)]
def wsL_law_r36 : List Cond := [Cond.methodLink RL 93 yX8_reads, Cond.instanceMethod yX8_reads, Cond.selects RX8 yX8_reads yX8_reads, Cond.code yX8_reads cX8_reads 2 (some .int), Cond.methodLink RX8 173 yX4_carryOut, Cond.instanceMethod yX4_carryOut, Cond.selects RX4 yX4_carryOut yX4_carryOut, Cond.code yX4_carryOut cX4_carryOut 4 (some .int), Cond.fieldLink RX4 47 "RootedClasses$Setting" "points" "I", Cond.methodLink RX4 52 yX4_findFault, Cond.instanceMethod yX4_findFault, Cond.selects RX4 yX4_findFault yX4_findFault, Cond.code yX4_findFault cX4_findFault 4 (some .int), Cond.methodLink RX4 69 yX4_takes, Cond.instanceMethod yX4_takes, Cond.selects RX4 yX4_takes yX4_takes, Cond.code yX4_takes cX4_takes 2 (some .boolean), Cond.methodLink RX4 73 yX4_opens, Cond.instanceMethod yX4_opens, Cond.selects RX4 yX4_opens yX4_opens, Cond.code yX4_opens cX4_opens 2 (some .boolean), Cond.methodLink RX4 76 yX4_takesFigure, Cond.instanceMethod yX4_takesFigure, Cond.selects RX4 yX4_takesFigure yX4_takesFigure]
def wsL_law_r37 : List Cond := [Cond.code yX4_takesFigure cX4_takesFigure 2 (some .boolean), Cond.methodLink RX4 79 yX4_closes, Cond.instanceMethod yX4_closes, Cond.selects RX4 yX4_closes yX4_closes, Cond.code yX4_closes cX4_closes 2 (some .boolean), Cond.methodLink RX4 56 yX4_obey, Cond.static yX4_obey, Cond.code yX4_obey cX4_obey 3 (some .int), Cond.methodLink RX4 60 yX5_setPoints, Cond.methodLink RX4 63 yX5_addGenerator, Cond.methodLink RX4 66 yX5_dropGenerator, Cond.methodLink RL 96 yX9_reads, Cond.instanceMethod yX9_reads, Cond.selects RX9 yX9_reads yX9_reads, Cond.code yX9_reads cX9_reads 3 (some .int), Cond.fieldLink RX9 259 "RootedClassesModel" "at" "I", Cond.fieldLink RX9 262 "RootedClassesModel" "fault" "I", Cond.fieldLink RX9 278 "RootedClassesModel" "orders" "I", Cond.fieldLink RX9 272 "RootedClassesModel" "pointsThen" "I", Cond.methodLink RX9 265 yX9_here, Cond.instanceMethod yX9_here, Cond.selects RX9 yX9_here yX9_here, Cond.code yX9_here cX9_here 1 (some .int), Cond.methodLink RX9 287 yX9_readOrder]
def wsL_law_r38 : List Cond := [Cond.instanceMethod yX9_readOrder, Cond.selects RX9 yX9_readOrder yX9_readOrder, Cond.code yX9_readOrder cX9_readOrder 2 none, Cond.methodLink RX9 268 yX9_must, Cond.instanceMethod yX9_must, Cond.selects RX9 yX9_must yX9_must, Cond.code yX9_must cX9_must 2 none, Cond.methodLink RX9 281 yX9_readMove, Cond.instanceMethod yX9_readMove, Cond.selects RX9 yX9_readMove yX9_readMove, Cond.code yX9_readMove cX9_readMove 5 (some .int), Cond.methodLink RX9 275 yX9_has, Cond.static yX9_has, Cond.code yX9_has cX9_has 2 (some .boolean), Cond.methodLink RX9 284 yX9_figure, Cond.instanceMethod yX9_figure, Cond.selects RX9 yX9_figure yX9_figure, Cond.code yX9_figure cX9_figure 4 (some .int), Cond.methodLink RX9 290 yX9_doOrder, Cond.instanceMethod yX9_doOrder, Cond.selects RX9 yX9_doOrder yX9_doOrder, Cond.code yX9_doOrder cX9_doOrder 2 (some .int), Cond.methodLink RL 97 yX8_back, Cond.instanceMethod yX8_back]
def wsL_law_r39 : List Cond := [Cond.selects RX8 yX8_back yX8_back, Cond.code yX8_back cX8_back 1 (some .int), Cond.fieldLink RX8 177 "RootedClasses$Past" "count" "I", Cond.methodLink RX8 178 yX1_restore, Cond.instanceMethod yX1_restore, Cond.selects RX1 yX1_restore yX1_restore, Cond.code yX1_restore cX1_restore 2 none, Cond.methodLink RL 100 yX9_back, Cond.instanceMethod yX9_back, Cond.selects RX9 yX9_back yX9_back, Cond.code yX9_back cX9_back 2 (some .int), Cond.methodLink RL 101 yX8_told, Cond.instanceMethod yX8_told, Cond.selects RX8 yX8_told yX8_told, Cond.code yX8_told cX8_told 2 (some .int), Cond.fieldLink RX8 184 "RootedClasses$Script" "length" "I", Cond.fieldLink RX8 187 "RootedClasses$Setting" "points" "I", Cond.methodLink RL 104 yX9_told, Cond.instanceMethod yX9_told, Cond.selects RX9 yX9_told yX9_told, Cond.code yX9_told cX9_told 2 (some .int), Cond.methodLink RX9 293 yX9_toldOf, Cond.instanceMethod yX9_toldOf, Cond.selects RX9 yX9_toldOf yX9_toldOf]
def wsL_law_r40 : List Cond := [Cond.code yX9_toldOf cX9_toldOf 2 (some .int), Cond.methodLink RL 105 yX8_digest, Cond.instanceMethod yX8_digest, Cond.selects RX8 yX8_digest yX8_digest, Cond.code yX8_digest cX8_digest 5 (some .long), Cond.constantLong RX8 191 (2447), Cond.constantLong RX8 193 (31), Cond.methodLink RX8 195 yX8_told, Cond.methodLink RL 109 yX9_digest, Cond.instanceMethod yX9_digest, Cond.selects RX9 yX9_digest yX9_digest, Cond.code yX9_digest cX9_digest 3 (some .long), Cond.constantLong RX9 302 (2447), Cond.fieldLink RX9 298 "RootedClassesModel" "h" "J", Cond.methodLink RX9 304 yX9_mix, Cond.instanceMethod yX9_mix, Cond.selects RX9 yX9_mix yX9_mix, Cond.code yX9_mix cX9_mix 2 none, Cond.constantLong RX9 296 (31)]
set_option maxRecDepth 20000 in
abbrev vwCl : List vw_C := [(RX0, TX0, 9), (RX1, TX1, 2), (RX2, TX2, 4), (RX3, TX3, 8), (RX4, TX4, 10), (RX5, TX5, 3), (RX6, TX6, 11), (RX7, TX7, 12), (RX8, TX8, 8), (RX9, TX9, 40)]
