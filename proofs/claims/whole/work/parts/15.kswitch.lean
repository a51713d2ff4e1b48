/-! ===== a switch by a list of places ===== -/
section KO8
variable {l : Launch} {D : va_G} {cI cS cM : ClassId} {own mn : String} {cc : ByteArray} {nL : Nat} {ret : Option FieldType} {R : Room} {lg : Bool} {pc d : Nat}
def k_tab (l : Launch) (D : va_G) (cI cS cM : ClassId) (own mn : String) (cc : ByteArray) (nL : Nat) (ret : Option FieldType) (R : Room) (lg : Bool) (d : Nat) : List KC → List Nat → Prop
  | [], [] => True
  | k :: ts, t :: tg => KS l D cI cS cM own mn cc nL ret R lg t d k ∧ k_tab l D cI cS cM own mn cc nL ret R lg d ts tg
  | [], _ :: _ => False
  | _ :: _, [] => False
theorem k_tab_at : ∀ {ts : List KC} {tg : List Nat}, k_tab l D cI cS cM own mn cc nL ret R lg d ts tg → ts.length = tg.length ∧ ∀ (i : Nat) (k : KC), ts[i]? = some k → ∃ t, tg[i]? = some t ∧ KS l D cI cS cM own mn cc nL ret R lg t d k
  | [], [], _ => ⟨rfl, fun i k h => by simp at h⟩
  | [], _ :: _, h => h.elim
  | _ :: _, [], h => h.elim
  | k :: ts, t :: tg, h => by
    obtain ⟨h1, h2⟩ := k_tab_at h.2
    refine ⟨by simp [h1], fun i k' hi => ?_⟩
    cases i with
    | zero => cases hi; exact ⟨t, rfl, h.1⟩
    | succ i => exact h2 i k' (by simpa using hi)
theorem s_switch2 {dflt hi : Int} {offs : Array Int} {len tgd : Nat} {ts : List KC} {dk : KC} (tg : List Nat) (hd : decode cc pc = .ok (.tableswitch dflt 0 hi offs, len)) (hhi : hi + 1 = (tg.length : Int)) (hlen : tg.length < 2147483648) (ho : offs.toList = tg.map (fun (t : Nat) => (t : Int) - (pc : Int))) (hdt : (pc : Int) + dflt = (tgd : Int)) (Kd : KS l D cI cS cM own mn cc nL ret R lg tgd d dk) (hts : k_tab l D cI cS cM own mn cc nL ret R lg d ts tg) : KS l D cI cS cM own mn cc nL ret R lg pc (d + 1) (o_switch ts dk) := by
  obtain ⟨h1, h2⟩ := k_tab_at hts
  refine s_switch hd (by rw [h1]; exact hhi) (by rw [h1]; exact hlen) hdt Kd (fun i k hi => ?_)
  obtain ⟨t, h3, h4⟩ := h2 i k hi
  refine ⟨(t : Int) - (pc : Int), t, ?_, by omega, h4⟩
  rw [← Array.getElem?_toList, ho, List.getElem?_map, h3]
  rfl
/-! a call with more below it on the stack: ints and references alone -/
noncomputable def o_cW1 (n c : Nat) (F : KF) (k : KC) : KC := fun ls st h => k_args n st [] fun as st => k_chk st (k_recv c as h (k_res (F as h) fun r h => k_app1 r fun v => k ls (v :: st) h))
theorem k_sum1 {as : List Nat} : ∀ {kst : List KV} {st : List Value}, k_vs as kst st → (∀ v ∈ kst, v ≠ k_u ∧ ∀ n, v ≠ k_l n) → (st.map fun v => v.category).sum ≤ kst.length
  | [], [], _, _ => by simp
  | [], _ :: _, h, _ => h.elim
  | _ :: _, [], h, _ => h.elim
  | a :: l, v :: m, h, hn => by
    have h1 := k_sum1 h.2 (fun w hw => hn w (List.mem_cons_of_mem _ hw))
    have h2 := k_cat h.1 (hn a List.mem_cons_self).1 (hn a List.mem_cons_self).2
    simp
    omega
variable {k : KC}
theorem s_runW {fr fb : Nat} {idx n ci : Nat} {y : MethodName} {qc : vw_C} {cb : ByteArray} {nb : Nat} {rb : Option FieldType} {F : KF} (hd : decode cc pc = .ok (.invokevirtual idx, 3)) (hlk : Cond.methodLink own idx y ∈ k_tbl) (hins : Cond.instanceMethod y ∈ k_tbl) (hsel : Cond.selects qc.1 y y ∈ k_tbl) (hc : vwCl[ci]? = some qc) (hok : k_ok y cb nb rb n) (hfr : fb + 1 ≤ fr) (hnb : nb ≤ 11) (hF : k_snd l D cI cS cM y cb nb rb fb (n + 1) F)
    {p : Program} {e : Env} {s : State} {m : MethodId} {args : Array Value} {below : List Frame} {meth : Method} {c : Code} {H : Heap} {locs : List Loc} {A : Nat → Prop} {as : List Nat} {es : List va_E} {ls : Array Slot} {q : Nat} {xs : List KV} {fs : List KV} {vx rest : List Value} {kls : List KV} {kh : KH} {rv : List KV} {kh' : KH} (C : k_ctx D cI cS cM own mn cc nL ret p s m args meth c) (hh : k_h cI cS cM as kh es) (hP : va_P D vwCl (kz as es) H) (hD : va_D A (kz as es)) (hL : k_ls lg as nL kls ls) (hx : (k_r (q + 1) :: xs).length = n + 1) (hvx : k_vs as (k_r (q + 1) :: xs) vx) (hq : k_cell kh q = k_ob ci fs) (hrest : (rest.map fun v => v.category).sum ≤ 8) (hk : F (k_r (q + 1) :: xs) kh = some (rv, kh')) :
    va_Run p l e (k_rm fr 0 0) s m args below meth c H locs 0 0 0 0 (F0 m pc ls (vx.reverse ++ rest)) rest (k_Q D cI cS cM as rv kh' (va_A (kz as es) H.size) vx.toArray) (va_A (kz as es) H.size) := by
  obtain ⟨c1, c2, c3, c4, c5, c6, c7, c8, c9, c10⟩ := C
  obtain ⟨o1, o2, o3, o4⟩ := hok
  have hM := hF _ kh rv kh' hx hk as es vx H.size hh hvx
  obtain ⟨v, vx, rfl, ⟨a, ha, rfl⟩, hvx1⟩ := k_vs_cons hvx
  obtain ⟨a', ev, h1, h2, h3⟩ := kh_at hh (kh_in hh ha)
  cases ha.symm.trans h1
  rw [hq] at h3
  obtain ⟨-, vs, rfl, -, -⟩ := h3
  have hl : vx.length = n := by rw [k_vs_len hvx1]; simpa using hx
  have hW : 2 * (F0 m pc ls ((Value.ref a :: vx).reverse ++ rest)).monitorRoom + (rest.map fun v => v.category).sum ≤ 8 := lv_room hrest
  exact va_runV (C := qc.1) (b := a) (As := vx) ⟨c1, c2, c3, c4, c5⟩ hM ⟨callB_of n c5 (k_goodIn o1) rfl rfl rfl (c5 _ o2) (c5 _ hlk) o3 ⟨hfr, by show 8 + (nb + 11) + 30 * fb ≤ 30 * fr; omega⟩, c5 _ hins, c5 _ hsel⟩ ⟨k_P_blind, va_recv c9 hP hc (kz_get ha h2), k_preS c9 c10 hP hD⟩ rfl hl hL.size (by simp) hW hd ⟨Nat.le_refl _, Nat.le_refl _⟩
theorem s_callW1 {fr fb : Nat} {idx n ci : Nat} {y : MethodName} {qc : vw_C} {cb : ByteArray} {nb : Nat} {rb : Option FieldType} {F : KF} (hd : decode cc pc = .ok (.invokevirtual idx, 3)) (hlk : Cond.methodLink own idx y ∈ k_tbl) (hins : Cond.instanceMethod y ∈ k_tbl) (hsel : Cond.selects qc.1 y y ∈ k_tbl) (hc : vwCl[ci]? = some qc) (hok : k_ok y cb nb rb n) (hfr : fb + 1 ≤ fr) (hnb : nb ≤ 11) (hF : k_snd l D cI cS cM y cb nb rb fb (n + 1) F) (hdd : d ≤ 8) (K : KS l D cI cS cM own mn cc nL ret (k_rm fr 0 0) lg (pc + 3) (d + 1) k) : KS l D cI cS cM own mn cc nL ret (k_rm fr 0 0) lg pc (d + (n + 1)) (o_cW1 (n + 1) ci F k) := by
  intro kls kst kh rv kh' hl hk
  obtain ⟨xs, rest, hx, rfl, hk1⟩ := k_args_some hk
  rw [List.append_nil] at hk1
  obtain ⟨hk1, hchk⟩ := k_chk_some hk1
  obtain ⟨⟨q, t, fs, rfl, hq⟩, hk2⟩ := k_recv_some hk1
  obtain ⟨rw1, kh1, hk2, hk3⟩ := k_res_some hk2
  intro p e s m args below meth c A as0 as es H locs ls st C hA hp hh hP hD hS hL hst
  obtain ⟨vx, vr, rfl, hvx, hvr⟩ := k_split hst
  have hl2 : rest.length = d := by rw [List.length_append, List.length_reverse, hx] at hl; omega
  exact s_back1 K C hA hp hD hS hL hvr hl2 (s_runW hd hlk hins hsel hc hok hfr hnb hF C hh hP hD hL hx hvx hq (Nat.le_trans (k_sum1 hvr hchk) (by rw [hl2]; exact hdd)) hk2) hk3
end KO8
