abbrev KV : Type := Nat ⊕ Nat
noncomputable def k_get {α : Type} (d : α) : List α → Nat → α := List.rec (fun _ => d) (fun a _ ih n => Nat.rec a (fun m _ => ih m) n)
noncomputable def k_set {α : Type} : List α → Nat → α → List α := List.rec (fun _ _ => []) (fun a l ih n v => Nat.rec (v :: l) (fun m _ => a :: ih m v) n)
abbrev KC : Type := List KV → List (List Nat) → Nat
abbrev KE : Type := List KV → List (List Nat) → (Nat → Nat) → Nat
noncomputable def k_seq (n : Nat) (k : Nat → Nat) : Nat := Nat.rec (k 0) (fun m _ => k (Nat.succ m)) n
noncomputable def k_loc (n : Nat) : KE := fun ls _ k => Sum.rec k (fun _ => 0) (k_get (.inl 0) ls n)
noncomputable def k_ref (n : Nat) : KE := fun ls _ k => Sum.rec (fun _ => 0) k (k_get (.inl 0) ls n)
noncomputable def k_lit (n : Nat) : KE := fun _ _ k => k n
noncomputable def k_add (a b : KE) : KE := fun ls h k => a ls h fun x => b ls h fun y => k (Nat.mod (Nat.add x y) 4294967296)
noncomputable def k_arr (a b : KE) : KE := fun ls h k => a ls h fun x => b ls h fun y => k (k_get 0 (k_get [] h x) y)
noncomputable def k_asg (n : Nat) (e : KE) (k : KC) : KC := fun ls h => e ls h fun x => k_seq x fun x => k (k_set ls n (.inl x)) h
noncomputable def k_aset (a b v : KE) (k : KC) : KC := fun ls h => a ls h fun x => b ls h fun y => v ls h fun z => k ls (k_set h x (k_set (k_get [] h x) y z))
noncomputable def k_lt (a b : KE) (t e : KC) : KC := fun ls h => a ls h fun x => b ls h fun y => Bool.rec (e ls h) (t ls h) (Nat.blt x y)
noncomputable def k_body (loop : KC) : KC := k_asg 1 (k_add (k_loc 1) (k_arr (k_ref 2) (k_lit 5))) <| k_aset (k_ref 2) (k_lit 3) (k_loc 1) <| k_asg 0 (k_add (k_loc 0) (k_lit 1)) loop
noncomputable def k_out : KC := fun ls h => k_loc 1 ls h fun n => n
noncomputable def k_loop (fuel : Nat) : KC := Nat.rec (fun _ _ => 0) (fun _ ih => k_lt (k_loc 0) (k_loc 3) (k_body ih) k_out) fuel
noncomputable def k_res (n fuel : Nat) : Nat := k_loop fuel [.inl 0, .inl 0, .inr 2, .inl n] [[1,2],[3,4],[5,6,7,8,9,10,11,12]]
set_option maxRecDepth 100000 in
theorem k_test2 : Nat.beq (k_res 20000 1000000) 200000 = true := by decide +kernel
