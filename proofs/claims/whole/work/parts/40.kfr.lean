/-! ===== contracts by relations; heaps in another order ===== -/
noncomputable def k_FR (R : List KV → KH → List KV → KH → Prop) : KF := fun ka kh => @dite KR (∃ r : List KV × KH, R ka kh r.1 r.2) (Classical.propDecidable _) (fun h => some (Classical.choose h)) (fun _ => none)
theorem k_FR_some {R : List KV → KH → List KV → KH → Prop} {ka : List KV} {kh : KH} {rv : List KV} {kh' : KH} (h : R ka kh rv kh') : ∃ rv1 kh1, k_FR R ka kh = some (rv1, kh1) ∧ R ka kh rv1 kh1 := by
  have hx : ∃ r : List KV × KH, R ka kh r.1 r.2 := ⟨(rv, kh'), h⟩
  refine ⟨(Classical.choose hx).1, (Classical.choose hx).2, ?_, Classical.choose_spec hx⟩
  unfold k_FR
  rw [dif_pos hx]
theorem k_FR_of {R : List KV → KH → List KV → KH → Prop} {ka : List KV} {kh : KH} {r : List KV × KH} (h : k_FR R ka kh = some r) : R ka kh r.1 r.2 := by
  unfold k_FR at h
  by_cases hx : ∃ r : List KV × KH, R ka kh r.1 r.2
  · rw [dif_pos hx] at h
    have e := Option.some.inj h
    rw [← e]
    exact Classical.choose_spec hx
  · rw [dif_neg hx] at h
    cases h
theorem k_FR_snd {l : Launch} {D : va_G} {cI cS cM : ClassId} {y : MethodName} {cc : ByteArray} {nL : Nat} {ret : Option FieldType} {fr n : Nat} {R : List KV → KH → List KV → KH → Prop} (hR : ∀ ka kh rv kh', ka.length = n → R ka kh rv kh' → k_met l D cI cS cM y cc nL ret fr 0 0 ka kh rv kh') : k_snd l D cI cS cM y cc nL ret fr n (k_FR R) := fun ka kh rv kh' hn h => hR ka kh rv kh' hn (k_FR_of h)
/-- the small heap's cells, by their places in the large one -/
theorem k_canon {D : va_G} {cI cS cM : ClassId} {io as : List Nat} {ks kl : KH} {es : List va_E} {H : Heap} {A : Nat → Prop} (hs : k_sub io ks kl) (hh : k_h cI cS cM as kl es) (hP : va_P D vwCl (kz as es) H) (hD : va_D A (kz as es)) : ∃ es', k_h cI cS cM (kas io as) ks es' ∧ va_P D vwCl (kz (kas io as) es') H ∧ va_D A (kz (kas io as) es') := by
  obtain ⟨hn, hlen, hsub⟩ := hs
  have hkl : ∀ p ∈ io, p < kl.length := fun p hp => by
    obtain ⟨i, hi⟩ := List.getElem?_of_mem hp
    have hlt : i < ks.length := by rw [← hlen]; exact (List.getElem?_eq_some_iff.mp hi).1
    obtain ⟨-, q, c, h1, h2, -⟩ := hsub i _ (List.getElem?_eq_getElem hlt)
    cases hi.symm.trans h1
    exact (List.getElem?_eq_some_iff.mp h2).1
  have has : ∀ p ∈ io, p < as.length := fun p hp => by rw [hh.1]; exact hkl p hp
  have hes : ∀ p ∈ io, p < es.length := fun p hp => by rw [hh.2.1]; exact hkl p hp
  let es0 : List va_E := io.map (fun p => es.getD p (.inr (0, [])))
  have hes0 : ∀ {k p : Nat}, io[k]? = some p → es0[k]? = es[p]? := fun {k p} hk => by
    show (io.map _)[k]? = _
    rw [List.getElem?_map, hk]
    show some (es.getD p _) = _
    rw [List.getD_eq_getElem?_getD, List.getElem?_eq_getElem (hes p (List.mem_of_getElem? hk))]
    rfl
  have hz : ∀ (k : Nat) (q : Nat × va_E), (kz (kas io as) es0)[k]? = some q → ∃ p, io[k]? = some p ∧ (kz as es)[p]? = some q := fun k q hq => by
    unfold kz at hq ⊢
    rw [List.getElem?_zip_eq_some] at hq
    cases hi : io[k]? with
    | none =>
      have : (kas io as)[k]? = none := by unfold kas; rw [List.getElem?_map, hi]; rfl
      rw [this] at hq
      cases hq.1
    | some p =>
      refine ⟨p, rfl, ?_⟩
      rw [List.getElem?_zip_eq_some]
      rw [kas_get has hi, hes0 hi] at hq
      exact hq
  refine ⟨es0, ⟨by unfold kas; rw [List.length_map]; exact hlen, by show (io.map _).length = _; rw [List.length_map]; exact hlen, fun i d e hd he => ?_⟩, fun k q hq => ?_, fun i j x z hi hj hxz => ?_, fun k q hq => ?_⟩
  · obtain ⟨hok, p, c, h1, h2, h3⟩ := hsub i d hd
    rw [hes0 h1] at he
    exact kc_down has hok (h3 _ _ _ _ _ (hh.2.2 p c e h2 he))
  · obtain ⟨p, -, hp⟩ := hz k q hq
    exact hP p q hp
  · obtain ⟨p1, hp1, hx⟩ := hz i x hi
    obtain ⟨p2, hp2, hy⟩ := hz j z hj
    have e := hD.1 p1 p2 x z hx hy hxz
    subst e
    exact nd_inj hn hp1 hp2
  · obtain ⟨p, -, hp⟩ := hz k q hq
    exact hD.2 p q hp
