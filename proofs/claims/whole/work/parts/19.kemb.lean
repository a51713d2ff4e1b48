/-! ===== a contract on few cells holds among more: other cells stand still, places have other numbers ===== -/
def rnr (io : List Nat) (r : Nat) : Nat := match r with
  | 0 => 0
  | k + 1 => io.getD k 0 + 1
def rnv (io : List Nat) (v : KV) : KV := match v with
  | .inl n => .inl n
  | .inr (.inl r) => k_r (rnr io r)
  | .inr (.inr q) => .inr (.inr q)
def rne (io : List Nat) (e : Nat) : Nat := match e with
  | 0 => 0
  | r + 1 => rnr io r + 1
def rnc (io : List Nat) (c : KCell) : KCell := match c with
  | .inl o => k_ob o.1 (o.2.map (rnv io))
  | .inr (.inl x) => .inr (.inl x)
  | .inr (.inr (.inl x)) => .inr (.inr (.inl x))
  | .inr (.inr (.inr x)) => k_rf x.1 x.2.1 (x.2.2.map (rne io))
/-- references stay within n places -/
def okr (n r : Nat) : Prop := match r with
  | 0 => True
  | k + 1 => k < n
def okv (n : Nat) (v : KV) : Prop := match v with
  | .inr (.inl r) => okr n r
  | _ => True
def okc (n : Nat) (c : KCell) : Prop := match c with
  | .inl o => ∀ v ∈ o.2, okv n v
  | .inr (.inr (.inr x)) => ∀ e ∈ x.2.2, okr n (e - 1)
  | _ => True
def kas (io as : List Nat) : List Nat := io.map (fun p => as.getD p 0)
/-- the places io take the cells cs -/
def kput {α : Type} : List Nat → List α → List α → List α
  | p :: io, c :: cs, h => kput io cs (h.set p c)
  | [], _, h => h
  | _ :: _, [], h => h
theorem kput_len {α : Type} : ∀ (io : List Nat) (cs h : List α), (kput io cs h).length = h.length
  | [], _, _ => by simp [kput]
  | _ :: _, [], _ => by simp [kput]
  | p :: io, c :: cs, h => by
    rw [kput, kput_len io cs, List.length_set]
theorem kput_out {α : Type} : ∀ (io : List Nat) (cs h : List α) (q : Nat), q ∉ io → (kput io cs h)[q]? = h[q]?
  | [], _, _, _, _ => by simp [kput]
  | _ :: _, [], _, _, _ => by simp [kput]
  | p :: io, c :: cs, h, q, hq => by
    rw [kput, kput_out io cs _ q (fun z => hq (List.mem_cons_of_mem _ z)), List.getElem?_set_ne (fun e => hq (by rw [e]; exact List.mem_cons_self))]
theorem kput_in {α : Type} : ∀ (io : List Nat) (cs h : List α) (i p : Nat), io.Nodup → io.length = cs.length → (∀ p ∈ io, p < h.length) → io[i]? = some p → (kput io cs h)[p]? = cs[i]?
  | [], _, _, _, _, _, _, _, hi => by simp at hi
  | _ :: _, [], _, _, _, _, hl, _, _ => by simp at hl
  | q :: io, c :: cs, h, i, p, hn, hl, hin, hi => by
    have hn2 := List.nodup_cons.mp hn
    rw [kput]
    cases i with
    | zero =>
      cases hi
      rw [kput_out _ _ _ _ hn2.1, List.getElem?_set_self (hin _ List.mem_cons_self)]
      rfl
    | succ i =>
      rw [kput_in io cs _ i p hn2.2 (by simpa using hl) (fun p hp => by rw [List.length_set]; exact hin p (List.mem_cons_of_mem _ hp)) (by simpa using hi)]
      simp
theorem nd_inj {l : List Nat} (hn : l.Nodup) {i j p : Nat} (hi : l[i]? = some p) (hj : l[j]? = some p) : i = j := by
  obtain ⟨h1, e1⟩ := List.getElem?_eq_some_iff.mp hi
  obtain ⟨h2, e2⟩ := List.getElem?_eq_some_iff.mp hj
  rcases Nat.lt_trichotomy i j with h | h | h
  · exact absurd (e1.trans e2.symm) (List.pairwise_iff_getElem.mp hn i j h1 h2 h)
  · exact h
  · exact absurd (e2.trans e1.symm) (List.pairwise_iff_getElem.mp hn j i h2 h1 h)
section KE
variable {cI cS cM : ClassId} {io as : List Nat}
theorem kas_get (h : ∀ p ∈ io, p < as.length) {k p : Nat} (hk : io[k]? = some p) : (kas io as)[k]? = as[p]? := by
  have hp := h p (List.mem_of_getElem? hk)
  unfold kas
  rw [List.getElem?_map, hk]
  show some (as.getD p 0) = _
  rw [List.getD_eq_getElem?_getD, List.getElem?_eq_getElem hp]
  rfl
theorem kv_down (h : ∀ p ∈ io, p < as.length) {kv : KV} {v : Value} (ho : okv io.length kv) (hv : k_v as (rnv io kv) v) : k_v (kas io as) kv v := by
  rcases kv with n | r | n | q
  · exact hv
  · cases r with
    | zero => exact hv
    | succ k =>
      have ho : k < io.length := ho
      obtain ⟨a, h1, h2⟩ := hv
      rw [List.getD_eq_getElem?_getD, List.getElem?_eq_getElem ho] at h1
      exact ⟨a, by rw [kas_get h (List.getElem?_eq_getElem ho)]; exact h1, h2⟩
  · exact hv
  · exact hv
theorem kv_up (h : ∀ p ∈ io, p < as.length) {kv : KV} {v : Value} (hv : k_v (kas io as) kv v) : k_v as (rnv io kv) v := by
  rcases kv with n | r | n | q
  · exact hv
  · cases r with
    | zero => exact hv
    | succ k =>
      obtain ⟨a, h1, h2⟩ := hv
      have hk : k < io.length := by
        have := (List.getElem?_eq_some_iff.mp h1).1
        unfold kas at this
        simpa using this
      rw [kas_get h (List.getElem?_eq_getElem hk)] at h1
      exact ⟨a, by show as[io.getD k 0]? = some a; rw [List.getD_eq_getElem?_getD, List.getElem?_eq_getElem hk]; exact h1, h2⟩
  · exact hv
  · exact hv
theorem kvs_down (h : ∀ p ∈ io, p < as.length) : ∀ {ka : List KV} {vs : List Value}, (∀ v ∈ ka, okv io.length v) → k_vs as (ka.map (rnv io)) vs → k_vs (kas io as) ka vs
  | [], [], _, _ => trivial
  | [], _ :: _, _, hv => hv.elim
  | _ :: _, [], _, hv => hv.elim
  | a :: l, v :: m, ho, hv => ⟨kv_down h (ho a List.mem_cons_self) hv.1, kvs_down h (fun w hw => ho w (List.mem_cons_of_mem _ hw)) hv.2⟩
theorem kvs_up (h : ∀ p ∈ io, p < as.length) : ∀ {ka : List KV} {vs : List Value}, k_vs (kas io as) ka vs → k_vs as (ka.map (rnv io)) vs
  | [], [], _ => trivial
  | [], _ :: _, hv => hv.elim
  | _ :: _, [], hv => hv.elim
  | a :: l, v :: m, hv => ⟨kv_up h hv.1, kvs_up h hv.2⟩
theorem kc_down (h : ∀ p ∈ io, p < as.length) {c : KCell} {e : va_E} (ho : okc io.length c) (hc : k_c cI cS cM as (rnc io c) e) : k_c cI cS cM (kas io as) c e := by
  rcases c with o | x | x | x
  · obtain ⟨⟨q, hq1, hq2⟩, vs, h1, h2, h3⟩ := hc
    refine ⟨⟨q, hq1, by rw [hq2]; simp⟩, vs, h1, by rw [h2]; simp, fun i kv hi => ?_⟩
    obtain ⟨v, h4, h5⟩ := h3 i (rnv io kv) (by show (o.2.map (rnv io))[i]? = _; rw [List.getElem?_map, hi]; rfl)
    exact ⟨v, h4, kv_down h (ho kv (List.mem_of_getElem? hi)) h5⟩
  · exact hc
  · exact hc
  · obtain ⟨h1, h2, f, h3, h4⟩ := hc
    refine ⟨by simpa using h1, h2, f, h3, fun i n hi => ?_⟩
    have h5 := h4 i (rnr io n) (by show (x.2.2.map (rne io))[i]? = _; rw [List.getElem?_map, hi]; rfl)
    exact kv_down (kv := k_r n) h (by have := ho (n + 1) (List.mem_of_getElem? hi); exact this) h5
theorem kc_up (h : ∀ p ∈ io, p < as.length) {c : KCell} {e : va_E} (hc : k_c cI cS cM (kas io as) c e) : k_c cI cS cM as (rnc io c) e := by
  rcases c with o | x | x | x
  · obtain ⟨⟨q, hq1, hq2⟩, vs, h1, h2, h3⟩ := hc
    refine ⟨⟨q, hq1, by rw [hq2]; simp⟩, vs, h1, by rw [h2]; simp, fun i kv hi => ?_⟩
    have hi : (o.2.map (rnv io))[i]? = some kv := hi
    rw [List.getElem?_map] at hi
    cases hz : o.2[i]? with
    | none => rw [hz] at hi; cases hi
    | some w =>
      rw [hz] at hi
      cases hi
      obtain ⟨v, h4, h5⟩ := h3 i w hz
      exact ⟨v, h4, kv_up h h5⟩
  · exact hc
  · exact hc
  · obtain ⟨h1, h2, f, h3, h4⟩ := hc
    refine ⟨by simpa [rnc] using h1, h2, f, h3, fun i n hi => ?_⟩
    have hi : (x.2.2.map (rne io))[i]? = some (n + 1) := hi
    rw [List.getElem?_map] at hi
    cases hz : x.2.2[i]? with
    | none => rw [hz] at hi; cases hi
    | some w =>
      rw [hz] at hi
      cases w with
      | zero => simp [rne] at hi
      | succ r =>
        have : rnr io r = n := by simpa [rne] using hi
        subst this
        exact kv_up (kv := k_r r) h (h4 i r hz)
/-- one cell tells at least as much as another -/
def kle (c d : KCell) : Prop := ∀ (cI cS cM : ClassId) (as : List Nat) (e : va_E), k_c cI cS cM as c e → k_c cI cS cM as d e
theorem kle_refl (c : KCell) : kle c c := fun _ _ _ _ _ h => h
theorem kle_trans {a b c : KCell} (h1 : kle a b) (h2 : kle b c) : kle a c := fun _ _ _ _ _ h => h2 _ _ _ _ _ (h1 _ _ _ _ _ h)
/-- the small heap ks within the large one kl, at the places io -/
def k_sub (io : List Nat) (ks kl : KH) : Prop := io.Nodup ∧ io.length = ks.length ∧ ∀ (i : Nat) (d : KCell), ks[i]? = some d → okc io.length d ∧ ∃ (p : Nat) (c : KCell), io[i]? = some p ∧ kl[p]? = some c ∧ kle c (rnc io d)
end KE
theorem Met.mono {l : Launch} {y : MethodName} {ws : List Cond} {rm : Room} {Pc Pc' : Array Value → State → Prop} {Qc Qc' : Array Value → State → Outcome → State → Prop} {mc ms : Nat} {free free' : Addr → Prop} (h : Met l y ws rm Pc Qc mc ms free) (hp : ∀ a s, Pc' a s → Pc a s) (hq : ∀ a s o t, Pc' a s → Qc a s o t → Qc' a s o t) (hf : ∀ q, free q → free' q) : Met l y ws rm Pc' Qc' mc ms free' := by
  intro p e ha hc hk s m args below hfr happ hP hK
  obtain ⟨n, o, h1, h2, h3, h4, L, h5, h6⟩ := h p e ha hc hk s m args below hfr happ (hp _ _ hP) hK
  exact ⟨n, o, h1, h2, h3, hq _ _ _ _ hP h4, L, h5, fun q hq => hf _ (h6 q hq)⟩
theorem k_embed {l : Launch} {D : va_G} {cI cS cM : ClassId} {y : MethodName} {cc : ByteArray} {nL : Nat} {ret : Option FieldType} {fr : Nat} {io : List Nat} {ka rv : List KV} {ks ks' kl : KH} (hs : k_sub io ks kl) (hka : ∀ v ∈ ka, okv io.length v) (hl : ks'.length = ks.length) (M : k_met l D cI cS cM y cc nL ret fr 0 0 ka ks rv ks') : k_met l D cI cS cM y cc nL ret fr 0 0 (ka.map (rnv io)) kl (rv.map (rnv io)) (kput io (ks'.map (rnc io)) kl) := by
  intro as es av sz hh hv
  obtain ⟨hn, hlen, hsub⟩ := hs
  have hkl : ∀ p ∈ io, p < kl.length := fun p hp => by
    obtain ⟨i, hi⟩ := List.getElem?_of_mem hp
    have hlt : i < ks.length := by rw [← hlen]; exact (List.getElem?_eq_some_iff.mp hi).1
    obtain ⟨-, q, c, h1, h2, -⟩ := hsub i _ (List.getElem?_eq_getElem hlt)
    cases hi.symm.trans h1
    exact (List.getElem?_eq_some_iff.mp h2).1
  have has : ∀ p ∈ io, p < as.length := fun p hp => by rw [hh.1]; exact hkl p hp
  have hes : ∀ p ∈ io, p < es.length := fun p hp => by rw [hh.2.1]; exact hkl p hp
  have hav := kvs_down has hka hv
  let es0 : List va_E := io.map (fun p => es.getD p (.inr (0, [])))
  have hes0 : ∀ {k p : Nat}, io[k]? = some p → es0[k]? = es[p]? := fun {k p} hk => by
    show (io.map _)[k]? = _
    rw [List.getElem?_map, hk]
    show some (es.getD p _) = _
    rw [List.getD_eq_getElem?_getD, List.getElem?_eq_getElem (hes p (List.mem_of_getElem? hk))]
    rfl
  have hh0 : k_h cI cS cM (kas io as) ks es0 := by
    refine ⟨by unfold kas; rw [List.length_map]; exact hlen, by show (io.map _).length = _; rw [List.length_map]; exact hlen, fun i d e hd he => ?_⟩
    obtain ⟨hok, p, c, h1, h2, h3⟩ := hsub i d hd
    rw [hes0 h1] at he
    exact kc_down has hok (h3 _ _ _ _ _ (hh.2.2 p c e h2 he))
  have hz : ∀ (k : Nat) (q : Nat × va_E), (kz (kas io as) es0)[k]? = some q → ∃ p, io[k]? = some p ∧ (kz as es)[p]? = some q := fun k q hq => by
    unfold kz at hq ⊢
    rw [List.getElem?_zip_eq_some] at hq
    cases hi : io[k]? with
    | none =>
      have : (kas io as)[k]? = none := by unfold kas; rw [List.getElem?_map, hi]; rfl
      rw [this] at hq
      cases hq.1
    | some p =>
      refine ⟨p, rfl, ?_⟩
      rw [List.getElem?_zip_eq_some]
      rw [kas_get has hi, hes0 hi] at hq
      exact hq
  have hfree : ∀ q, va_A (kz (kas io as) es0) sz q → va_A (kz as es) sz q := fun q h => by
    rcases h with ⟨k, e, h⟩ | h
    · obtain ⟨p, -, hp⟩ := hz k _ h
      exact Or.inl ⟨p, e, hp⟩
    · exact Or.inr h
  refine (M (kas io as) es0 av sz hh0 hav).mono (fun a s hP => ?_) (fun a s o t hP hQ => ?_) hfree
  · obtain ⟨q0, q1, qP, qK, qM, qD⟩ := hP
    refine ⟨q0, q1, fun k q hq => ?_, qK, qM, fun i j x z hi hj hxz => ?_, fun k q hq => trivial⟩
    · obtain ⟨p, -, hp⟩ := hz k q hq
      exact qP p q hp
    · obtain ⟨p1, hp1, hx⟩ := hz i x hi
      obtain ⟨p2, hp2, hy⟩ := hz j z hj
      have e := qD.1 p1 p2 x z hx hy hxz
      subst e
      exact nd_inj hn hp1 hp2
  · obtain ⟨q0, q1, qP, qK, qM, qD⟩ := hP
    obtain ⟨⟨v, rfl, as', es', w1, w2, w3, w4, w5, w6, w7⟩, hF⟩ := hQ
    have e1 : as' = kas io as := by
      obtain ⟨r, hr⟩ := w2
      have hl1 : as'.length = ks'.length := w3.1
      have hl2 : (kas io as).length = ks.length := hh0.1
      have : r = [] := by
        have := congrArg List.length hr
        rw [List.length_append] at this
        exact List.eq_nil_of_length_eq_zero (by omega)
      rw [this, List.append_nil] at hr
      exact hr.symm
    subst e1
    have hle : es'.length = io.length := by rw [w3.2.1, hl, hlen]
    have hin' : ∀ {i p : Nat}, io[i]? = some p → (kput io es' es)[p]? = es'[i]? := fun {i p} hi => kput_in io es' es i p hn hle.symm hes hi
    have hkz : ∀ {p a : Nat} {e : va_E}, (kz as (kput io es' es))[p]? = some (a, e) → (p ∉ io ∧ (kz as es)[p]? = some (a, e)) ∨ ∃ i, io[i]? = some p ∧ (kz (kas io as) es')[i]? = some (a, e) := fun {p a e} hp => by
      unfold kz at hp ⊢
      rw [List.getElem?_zip_eq_some] at hp
      by_cases hpi : p ∈ io
      · obtain ⟨i, hi⟩ := List.getElem?_of_mem hpi
        refine Or.inr ⟨i, hi, ?_⟩
        rw [List.getElem?_zip_eq_some, kas_get has hi, ← hin' hi]
        exact hp
      · refine Or.inl ⟨hpi, ?_⟩
        rw [List.getElem?_zip_eq_some]
        rw [kput_out _ _ _ _ hpi] at hp
        exact hp
    refine ⟨⟨v, rfl, as, kput io es' es, kvs_up has w1, List.prefix_refl as, ⟨?_, ?_, fun p c e hc he => ?_⟩, fun p q hq => ?_, w5, w6, fun i j x z hi hj hxz => ?_, fun p q hq => ?_⟩, hF.1, fun q h1 h2 => hF.2 q h1 (fun z => h2 (hfree q z))⟩
    · rw [kput_len]; exact hh.1
    · rw [kput_len, kput_len]; exact hh.2.1
    · by_cases hpi : p ∈ io
      · obtain ⟨i, hi⟩ := List.getElem?_of_mem hpi
        rw [kput_in io _ kl i p hn (by rw [List.length_map, hl]; exact hlen) hkl hi, List.getElem?_map] at hc
        rw [hin' hi] at he
        cases hz9 : ks'[i]? with
        | none => rw [hz9] at hc; cases hc
        | some d =>
          rw [hz9] at hc
          cases hc
          exact kc_up has (w3.2.2 i d e hz9 he)
      · rw [kput_out _ _ _ _ hpi] at hc he
        exact hh.2.2 p c e hc he
    · obtain ⟨a1, e1⟩ := q
      rcases hkz hq with ⟨hpi, hp⟩ | ⟨i, hi, hp⟩
      · refine (qP p _ hp).kept (hF.2 a1 (qP p _ hp).lt ?_)
        intro hz1
        rcases hz1 with ⟨k, e2, hk⟩ | hk
        · obtain ⟨p2, hp2, hk2⟩ := hz k _ hk
          have := qD.1 p p2 _ _ hp hk2 rfl
          subst this
          exact hpi (List.mem_of_getElem? hp2)
        · have := (qP p _ hp).lt
          have this2 : a1 < s.heap.size := this
          omega
      · exact w4 i _ hp
    · have key : ∀ {p : Nat} {x : Nat × va_E}, (kz as (kput io es' es))[p]? = some x → ∃ y, (kz as es)[p]? = some y ∧ y.1 = x.1 := fun {p x} hp => by
        unfold kz at hp ⊢
        rw [List.getElem?_zip_eq_some] at hp
        have hlt : p < es.length := by
          have := (List.getElem?_eq_some_iff.mp hp.2).1
          rw [kput_len] at this
          exact this
        exact ⟨(x.1, es[p]), by rw [List.getElem?_zip_eq_some]; exact ⟨hp.1, List.getElem?_eq_getElem hlt⟩, rfl⟩
      obtain ⟨y1, hy1, ey1⟩ := key hi
      obtain ⟨y2, hy2, ey2⟩ := key hj
      exact qD.1 i j y1 y2 hy1 hy2 (by rw [ey1, ey2]; exact hxz)
    · have hlt : p < es.length := by
        unfold kz at hq
        rw [List.getElem?_zip_eq_some] at hq
        have := (List.getElem?_eq_some_iff.mp hq.2).1
        rw [kput_len] at this
        exact this
      have hq1 : as[p]? = some q.1 := by
        unfold kz at hq
        rw [List.getElem?_zip_eq_some] at hq
        exact hq.1
      exact va_A.in (q := (q.1, es[p])) (k := p) (by unfold kz; rw [List.getElem?_zip_eq_some]; exact ⟨hq1, List.getElem?_eq_getElem hlt⟩)
