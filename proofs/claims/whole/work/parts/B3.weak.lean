/-! ===== to know less of a heap ===== -/
def kleH (h h' : KH) : Prop := h.length = h'.length ∧ ∀ (p : Nat) (c d : KCell), h[p]? = some c → h'[p]? = some d → kle c d
theorem kleH_refl (h : KH) : kleH h h := ⟨rfl, fun p c d h1 h2 => by cases h1.symm.trans h2; exact kle_refl c⟩
theorem kleH_nil : kleH [] [] := kleH_refl []
theorem kleH_cons {c d : KCell} {h h' : KH} (hc : kle c d) (ht : kleH h h') : kleH (c :: h) (d :: h') := by
  refine ⟨by simp [ht.1], fun p a b h1 h2 => ?_⟩
  cases p with
  | zero =>
    cases h1
    cases h2
    exact hc
  | succ p => exact ht.2 p a b (by simpa using h1) (by simpa using h2)
theorem kleH_app {a a' b b' : KH} (h1 : kleH a a') (h2 : kleH b b') : kleH (a ++ b) (a' ++ b') := by
  refine ⟨by simp [h1.1, h2.1], fun p c d hc hd => ?_⟩
  by_cases hp : p < a.length
  · rw [List.getElem?_append_left hp] at hc
    rw [List.getElem?_append_left (by rw [← h1.1]; exact hp)] at hd
    exact h1.2 p c d hc hd
  · rw [List.getElem?_append_right (by omega)] at hc
    rw [List.getElem?_append_right (by rw [← h1.1]; omega), ← h1.1] at hd
    exact h2.2 _ c d hc hd
theorem k_h_weak {cI cS cM : ClassId} {as : List Nat} {kh kh' : KH} {es : List va_E} (hw : kleH kh kh') (h : k_h cI cS cM as kh es) : k_h cI cS cM as kh' es := by
  obtain ⟨h1, h2, h3⟩ := h
  refine ⟨by rw [← hw.1]; exact h1, by rw [← hw.1]; exact h2, fun p d e hd he => ?_⟩
  have hp : p < kh.length := by
    rw [hw.1]
    exact (List.getElem?_eq_some_iff.mp hd).1
  have hc := List.getElem?_eq_getElem hp
  exact hw.2 p _ d hc hd _ _ _ _ _ (h3 p _ e hc he)
section KW
variable {l : Launch} {D : va_G} {cI cS cM : ClassId} {y : MethodName} {cc : ByteArray} {nL : Nat} {ret : Option FieldType} {fr mc ms : Nat} {ka rv : List KV} {kh kh0 kh' kh2 : KH}
theorem k_met_pre (hw : kleH kh0 kh) (M : k_met l D cI cS cM y cc nL ret fr mc ms ka kh rv kh') : k_met l D cI cS cM y cc nL ret fr mc ms ka kh0 rv kh' := fun as es av sz hh hv => M as es av sz (k_h_weak hw hh) hv
theorem k_met_post (hw : kleH kh' kh2) (M : k_met l D cI cS cM y cc nL ret fr mc ms ka kh rv kh') : k_met l D cI cS cM y cc nL ret fr mc ms ka kh rv kh2 := fun as es av sz hh hv => (M as es av sz hh hv).mono (fun _ _ h => h) (fun a s o t _ hQ => by
  obtain ⟨⟨v, h1, as', es', w1, w2, w3, w4⟩, hF⟩ := hQ
  exact ⟨⟨v, h1, as', es', w1, w2, k_h_weak hw w3, w4⟩, hF⟩) (fun _ h => h)
end KW
theorem kle_af {n : Nat} {f g : Nat → Nat} (h : ∀ i, i < n → g i = 0 ∨ g i = f i) : kle (k_af n f) (k_af n g) := by
  intro cI cS cM as e hc
  obtain ⟨h1, F, h2, h3⟩ := hc
  refine ⟨h1, F, h2, fun i m hi hm => h3 i m hi ?_⟩
  rcases h i hi with q | q
  · have hm : g i = m + 1 := hm
    omega
  · have hm : g i = m + 1 := hm
    show f i = m + 1
    rw [← q]
    exact hm
theorem kle_ob {c : Nat} {fs gs : List KV} (hl : fs.length = gs.length) (h : ∀ (i : Nat) (v w : KV), fs[i]? = some v → gs[i]? = some w → w = k_u ∨ w = v) : kle (k_ob c fs) (k_ob c gs) := by
  intro cI cS cM as e hc
  obtain ⟨⟨q, h1, h2⟩, vs, h3, h4, h5⟩ := hc
  refine ⟨⟨q, h1, h2.trans hl⟩, vs, h3, h4.trans hl, fun i w hw => ?_⟩
  have hi : i < fs.length := by
    rw [hl]
    exact (List.getElem?_eq_some_iff.mp hw).1
  have hf := List.getElem?_eq_getElem hi
  obtain ⟨v, a1, a2⟩ := h5 i _ hf
  refine ⟨v, a1, ?_⟩
  rcases h i _ w hf hw with q | q
  · rw [q]
    trivial
  · rw [q]
    exact a2
theorem kle_ar_af {n : Nat} {xs : List Nat} : kle (k_ar n xs) (k_af n (fun i => kget 0 xs i)) := by
  intro cI cS cM as e hc
  obtain ⟨h0, h1, F, h2, h3⟩ := hc
  exact ⟨h1, F, h2, fun i m hi hm => h3 i m (kget_some hm (by omega))⟩
theorem kle_af_ar {n : Nat} {f : Nat → Nat} {xs : List Nat} (hl : xs.length = n) (h : ∀ i, i < n → kget 0 xs i = 0 ∨ kget 0 xs i = f i) : kle (k_af n f) (k_ar n xs) := by
  intro cI cS cM as e hc
  obtain ⟨h1, F, h2, h3⟩ := hc
  refine ⟨hl, h1, F, h2, fun i m hm => ?_⟩
  have hi : i < n := by
    rw [← hl]
    exact (List.getElem?_eq_some_iff.mp hm).1
  have hk : kget 0 xs i = m + 1 := by
    rw [kget_eq, List.getD_eq_getElem?_getD, hm]
    rfl
  refine h3 i m hi ?_
  rcases h i hi with q | q
  · omega
  · rw [q] at hk
    exact hk
