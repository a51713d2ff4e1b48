/-! ===== a switch by a list of places ===== -/
section KO8
variable {l : Launch} {D : va_G} {cI cS cM : ClassId} {own mn : String} {cc : ByteArray} {nL : Nat} {ret : Option FieldType} {R : Room} {lg : Bool} {pc d : Nat}
def k_tab (l : Launch) (D : va_G) (cI cS cM : ClassId) (own mn : String) (cc : ByteArray) (nL : Nat) (ret : Option FieldType) (R : Room) (lg : Bool) (d : Nat) : List KC → List Nat → Prop
  | [], [] => True
  | k :: ts, t :: tg => KS l D cI cS cM own mn cc nL ret R lg t d k ∧ k_tab l D cI cS cM own mn cc nL ret R lg d ts tg
  | [], _ :: _ => False
  | _ :: _, [] => False
theorem k_tab_at : ∀ {ts : List KC} {tg : List Nat}, k_tab l D cI cS cM own mn cc nL ret R lg d ts tg → ts.length = tg.length ∧ ∀ (i : Nat) (k : KC), ts[i]? = some k → ∃ t, tg[i]? = some t ∧ KS l D cI cS cM own mn cc nL ret R lg t d k
  | [], [], _ => ⟨rfl, fun i k h => by simp at h⟩
  | [], _ :: _, h => h.elim
  | _ :: _, [], h => h.elim
  | k :: ts, t :: tg, h => by
    obtain ⟨h1, h2⟩ := k_tab_at h.2
    refine ⟨by simp [h1], fun i k' hi => ?_⟩
    cases i with
    | zero => cases hi; exact ⟨t, rfl, h.1⟩
    | succ i => exact h2 i k' (by simpa using hi)
theorem s_switch2 {dflt hi : Int} {offs : Array Int} {len tgd : Nat} {ts : List KC} {dk : KC} (tg : List Nat) (hd : decode cc pc = .ok (.tableswitch dflt 0 hi offs, len)) (hhi : hi + 1 = (tg.length : Int)) (hlen : tg.length < 2147483648) (ho : offs.toList = tg.map (fun (t : Nat) => (t : Int) - (pc : Int))) (hdt : (pc : Int) + dflt = (tgd : Int)) (Kd : KS l D cI cS cM own mn cc nL ret R lg tgd d dk) (hts : k_tab l D cI cS cM own mn cc nL ret R lg d ts tg) : KS l D cI cS cM own mn cc nL ret R lg pc (d + 1) (o_switch ts dk) := by
  obtain ⟨h1, h2⟩ := k_tab_at hts
  refine s_switch hd (by rw [h1]; exact hhi) (by rw [h1]; exact hlen) hdt Kd (fun i k hi => ?_)
  obtain ⟨t, h3, h4⟩ := h2 i k hi
  refine ⟨(t : Int) - (pc : Int), t, ?_, by omega, h4⟩
  rw [← Array.getElem?_toList, ho, List.getElem?_map, h3]
  rfl
end KO8
