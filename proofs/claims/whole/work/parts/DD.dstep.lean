/-! ===== digest as a step ===== -/
def STEPL (F G : KF) (kx km : KH) : Prop := ∃ (a : Nat) (kx' km' : KH), F [k_r 1] kx = some ([k_l a], kx') ∧ G [k_r 1] km = some ([k_l a], km') ∧ INV2 kx' km'
section DGK
variable {F1 F2 F3 F4 F5 : KF} {Hf : Nat → KH} {T : Nat → Nat}
theorem c2_t {f : Nat → Nat → Bool} {a b : Nat} {t k : KC} {ls st : List KV} {hh : KH} {R : KR} (h : f a b = true) (ht : t ls st hh = R) : o_c2 f t k ls (k_i b :: k_i a :: st) hh = R := by
  have e : o_c2 f t k ls (k_i b :: k_i a :: st) hh = (Bool.rec (k ls st hh) (t ls st hh) (f a b) : KR) := rfl
  rw [e, h]
  exact ht
theorem c2_f {f : Nat → Nat → Bool} {a b : Nat} {t k : KC} {ls st : List KV} {hh : KH} {R : KR} (h : f a b = false) (ht : k ls st hh = R) : o_c2 f t k ls (k_i b :: k_i a :: st) hh = R := by
  have e : o_c2 f t k ls (k_i b :: k_i a :: st) hh = (Bool.rec (k ls st hh) (t ls st hh) (f a b) : KR) := rfl
  rw [e, h]
  exact ht
theorem iinc_e {i c n n' : Nat} {k : KC} {ls ls' st : List KV} {hh : KH} {R : KR} (hl : kget k_u ls i = k_i n) (hn : Nat.mod (Nat.add n c) 4294967296 = n') (hs : kset ls i (k_i n') = ls') (hk : k ls' st hh = R) : o_iinc i c k ls st hh = R := by
  unfold o_iinc
  rw [hl]
  have e : (k_int (k_i n) fun n => kseq (Nat.mod (Nat.add n c) 4294967296) fun n => k (kset ls i (k_i n)) st hh) = kseq (Nat.mod (Nat.add n c) 4294967296) fun n => k (kset ls i (k_i n)) st hh := rfl
  rw [e, ks hn, hs]
  exact hk
theorem cV1_k {F : KF} {rest : KC} {ls st : List KV} {x : Nat} {h : KH} {fs : List KV} (hc : k_cell h 0 = k_ob 9 fs) : o_cV1 2 9 F rest ls (k_i x :: k_r 1 :: st) h = k_res (F [k_r 1, k_i x] h) fun r h => k_app1 r fun v => rest ls (v :: st) h := by
  have e : o_cV1 2 9 F rest ls (k_i x :: k_r 1 :: st) h = k_obj (k_cell h 0) (fun o => Bool.rec none (k_res (F [k_r 1, k_i x] h) fun r h => k_app1 r fun v => rest ls (v :: st) h) (Nat.beq o.1 9)) := rfl
  rw [e, hc]
  rfl
theorem dgK_9 {fs : Nat → List KV} (hc : ∀ h, k_cell (Hf h) 0 = k_ob 9 (fs h)) (hT : ∀ h w, w < 7 → F1 [k_r 1, k_i w] (Hf h) = some ([k_i (T w)], Hf h)) (hM : ∀ h v, F2 [k_r 1, k_i v] (Hf h) = some ([], Hf (mixv h v))) : ∀ (k f w h : Nat), w + k = 7 → b_X9_digest_9 F1 F2 F3 F4 F5 (k_loop (j_X9_digest F1 F2 F3 F4 F5) (f + k)) [k_r 1, k_i w, k_u] [] (Hf h) = b_X9_digest_30 F1 F2 F3 F4 F5 (k_loop (j_X9_digest F1 F2 F3 F4 F5) f) [k_r 1, k_i 7, k_u] [] (Hf (fm T k w h))
  | 0, f, w, h, hw => by
    have hw : w = 7 := hw
    subst hw
    have e : fm T 0 7 h = h := rfl
    rw [e, Nat.add_zero]
    unfold b_X9_digest_9
    refine e_iload (n := 7) rfl ?_
    refine e_push ?_
    exact c2_f (slt_f (by omega) (by omega)) rfl
  | k + 1, f, w, h, hw => by
    unfold b_X9_digest_9
    refine e_iload (n := w) rfl ?_
    refine e_push ?_
    refine c2_t (slt_t (by omega) (by omega)) ?_
    unfold b_X9_digest_15
    refine e_aload (n := 1) rfl ?_
    refine e_aload (n := 1) rfl ?_
    refine e_iload (n := w) rfl ?_
    refine e_cV1 (q := 0) (st := [k_r 1]) (as := [k_i w]) (v := k_i (T w)) (hc h) (fun _ => rfl) (hT h w (by omega)) ?_
    refine e_cV0 (q := 0) (st := []) (as := [k_i (T w)]) (hc h) (fun _ => rfl) (hM h (T w)) ?_
    refine iinc_e (n := w) (n' := w + 1) (ls' := [k_r 1, k_i (w + 1), k_u]) rfl (ninc (by omega)) rfl ?_
    have ej : k_loop (j_X9_digest F1 F2 F3 F4 F5) (f + (k + 1)) = j_X9_digest F1 F2 F3 F4 F5 (k_loop (j_X9_digest F1 F2 F3 F4 F5) (f + k)) := rfl
    rw [ej, kj_0 (bs := j_X9_digest F1 F2 F3 F4 F5) (J := k_loop (j_X9_digest F1 F2 F3 F4 F5) (f + k)) rfl]
    exact dgK_9 hc hT hM k f (w + 1) (mixv h (T w)) (by omega)
noncomputable def dgR (F1 F2 F3 F4 F5 : KF) (n : Nat) : KV → KH → KR := fun v h => (o_cV0 2 9 F2 <| o_iinc 1 1 <| k_jmp (k_loop (j_X9_digest F1 F2 F3 F4 F5) n) 1) [k_r 1, k_i 0, k_u] (v :: [k_r 1]) h
theorem dgK_38 {fs : List KV} {h : KH} {n : Nat} (hc : k_cell h 0 = k_ob 9 fs) : b_X9_digest_30 F1 F2 F3 F4 F5 (k_loop (j_X9_digest F1 F2 F3 F4 F5) n) [k_r 1, k_i 7, k_u] [] h = k_res (F3 [k_r 1, k_i 0] h) (fun r h => k_app1 r fun v => dgR F1 F2 F3 F4 F5 n v h) := by
  unfold b_X9_digest_30 b_X9_digest_32
  refine e_push ?_
  refine e_istore (ls' := [k_r 1, k_i 0, k_u]) rfl ?_
  refine e_iload (n := 0) rfl ?_
  refine e_push ?_
  refine c2_t (slt_t (by omega) (by omega)) ?_
  unfold b_X9_digest_38
  refine e_aload (n := 1) rfl ?_
  refine e_aload (n := 1) rfl ?_
  refine e_iload (n := 0) rfl ?_
  rw [cV1_k hc]
  rfl
theorem dgK_0 {fs : Nat → List KV} (hc : ∀ h, k_cell (Hf h) 0 = k_ob 9 (fs h)) (h0 : Nat) (hp : kset (Hf h0) 0 (k_ob 9 (kset (fs h0) 39 (k_l 2447))) = Hf 2447) (hT : ∀ h w, w < 7 → F1 [k_r 1, k_i w] (Hf h) = some ([k_i (T w)], Hf h)) (hM : ∀ h v, F2 [k_r 1, k_i v] (Hf h) = some ([], Hf (mixv h v))) (n : Nat) : m_X9_digest F1 F2 F3 F4 F5 (n + 7) [k_r 1] (Hf h0) = k_res (F3 [k_r 1, k_i 0] (Hf (fm T 7 0 2447))) (fun r h => k_app1 r fun v => dgR F1 F2 F3 F4 F5 n v h) := by
  unfold m_X9_digest
  refine kf_e (fun _ => rfl) rfl ?_
  unfold b_X9_digest_0
  refine e_aload (n := 1) rfl ?_
  refine e_lpush ?_
  refine e_putl (q := 0) (fs := fs h0) (hc h0) hp ?_
  refine e_push ?_
  refine e_istore (ls' := [k_r 1, k_i 0, k_u]) rfl ?_
  rw [dgK_9 hc hT hM 7 n 0 2447 rfl, dgK_38 (hc _)]
end DGK
theorem eqT {A : Nat} {nw : Nat → Nat} {c : Nat} {past : Nat → Nat} {len : Nat} {t : Nat → Nat} {b n f : Nat} {v_at : Nat} {v_fault : Nat} {v_orders : Nat} {v_pointsThen : Nat} {v_h : Nat} {a_held : Nat → Nat} {a_letters : Nat → Nat} {a_numbers : Nat → Nat} {v_isLaid : Nat} {v_order : Nat} {v_sorts : Nat} {v_exponent : Nat} {v_prime : Nat} {v_root : Nat} {v_spaces : Nat} {v_splits : Nat} {a_elements : Nat} {a_products : Nat} {a_sortOf : Nat} {a_inverse : Nat} {a_turns : Nat} {a_size : Nat} {a_least : Nat} {a_timesOf : Nat} {a_wide : Nat} {a_bases : Nat} {a_newWide : Nat} {a_newBases : Nat} {a_grid : Nat} {a_lead : Nat} {a_spreads : Nat} {a_degrees : Nat} {a_values : Nat} {a_one : Nat} {b_spaces : Nat} {b_splits : Nat} (hA : mx 40 A nw = nw) : HQ_CMt c v_isLaid v_order v_sorts v_exponent v_prime v_root v_spaces b_spaces v_splits b_splits len v_at v_fault v_orders v_pointsThen v_h A nw a_held past ((rcf 0 b n f)) a_elements a_products a_sortOf a_inverse a_turns a_size a_least a_timesOf a_wide a_bases a_newWide a_newBases a_grid a_lead a_spreads a_degrees a_values a_one t a_letters a_numbers = HQ_CMf c v_isLaid v_order v_sorts v_exponent v_prime v_root v_spaces b_spaces v_splits b_splits len v_at v_fault v_orders v_pointsThen v_h nw a_held past 0 b n f ((pk 17 a_elements)) ((pk 8 a_products)) a_sortOf a_inverse a_turns a_size a_least a_timesOf a_wide a_bases a_newWide a_newBases a_grid a_lead a_spreads a_degrees a_values a_one t a_letters a_numbers := by
  unfold HQ_CMt HQ_CMf
  rw [hA]
set_option maxRecDepth 100000 in
theorem layE {N cnt : Nat} {nowc : Nat → Nat} {nw : Nat → Nat} {c : Nat} {past : Nat → Nat} {len : Nat} {t : Nat → Nat} {b n f g : Nat} {v_at : Nat} {v_fault : Nat} {v_orders : Nat} {v_pointsThen : Nat} {v_h : Nat} {a_held : Nat → Nat} {a_letters : Nat → Nat} {a_numbers : Nat → Nat} {b_spaces : Nat} {b_splits : Nat} {v_order : Nat} {v_sorts : Nat} {v_exponent : Nat} {v_prime : Nat} {v_root : Nat} (hs : stR N cnt nowc nw) (hg : gok N (lst cnt nowc) g) (eg : g = gL N (lst cnt nowc)) (hn : ∀ k c, (lst cnt nowc)[k]? = some c → nowc k = c + 1) (hlen : (lst cnt nowc).length = cnt) : f_X9_lay [k_r 1] (HQ_CMf c 0 v_order v_sorts v_exponent v_prime v_root 0 b_spaces 0 b_splits len v_at v_fault v_orders v_pointsThen v_h nw a_held past 0 b n f ((pk 17 0)) ((pk 8 0)) 0 0 0 0 0 0 0 0 0 0 0 0 0 0 0 0 t a_letters a_numbers) = some ([], HQ_CMf c 1 ((rg g 1)) ((rg g 6)) ((rg g 10)) ((rg g 16)) ((rg g 17)) ((tg g 22)) b_spaces ((tg g 23)) b_splits len v_at v_fault v_orders v_pointsThen v_h nw a_held past 0 b n f ((pk 17 (rg g 2))) ((pk 8 (rg g 20))) ((rg g 22)) ((rg g 5)) ((rg g 21)) ((rg g 8)) ((rg g 9)) ((rg g 23)) ((tg g 24)) ((tg g 25)) ((tg g 26)) ((tg g 27)) ((tg g 28)) ((tg g 29)) ((rg g 25)) ((rg g 26)) ((rg g 27)) 0 t a_letters a_numbers) ∧ f_X9_lay [k_r 1] (HQ_CMf c 1 ((rg g 1)) ((rg g 6)) ((rg g 10)) ((rg g 16)) ((rg g 17)) ((tg g 22)) b_spaces ((tg g 23)) b_splits len v_at v_fault v_orders v_pointsThen v_h nw a_held past 0 b n f ((pk 17 (rg g 2))) ((pk 8 (rg g 20))) ((rg g 22)) ((rg g 5)) ((rg g 21)) ((rg g 8)) ((rg g 9)) ((rg g 23)) ((tg g 24)) ((tg g 25)) ((tg g 26)) ((tg g 27)) ((tg g 28)) ((tg g 29)) ((rg g 25)) ((rg g 26)) ((rg g 27)) 0 t a_letters a_numbers) = some ([], HQ_CMf c 1 ((rg g 1)) ((rg g 6)) ((rg g 10)) ((rg g 16)) ((rg g 17)) ((tg g 22)) b_spaces ((tg g 23)) b_splits len v_at v_fault v_orders v_pointsThen v_h nw a_held past 0 b n f ((pk 17 (rg g 2))) ((pk 8 (rg g 20))) ((rg g 22)) ((rg g 5)) ((rg g 21)) ((rg g 8)) ((rg g 9)) ((rg g 23)) ((tg g 24)) ((tg g 25)) ((tg g 26)) ((tg g 27)) ((tg g 28)) ((tg g 29)) ((rg g 25)) ((rg g 26)) ((rg g 27)) 0 t a_letters a_numbers) := by
  have hP := lay_ok hg eg (an := 0) (gn := nw) (by rw [mx_0]; exact hs.1) (by rw [mx_0, hlen]; exact hs.2.1) (fun k d hd => by rw [mx_0]; have hk3 : k < 3 := Nat.lt_of_lt_of_le (List.getElem?_eq_some_iff.mp hd).1 hg.2.2.1; rw [hs.2.2 k hk3]; exact hn k d hd) v_order v_sorts v_exponent v_prime v_root
  have r1 := sn_CM_X9_layR c 0 v_order v_sorts v_exponent v_prime v_root 0 b_spaces 0 b_splits len v_at v_fault v_orders v_pointsThen v_h 0 nw a_held past 0 b n f 0 0 0 0 0 0 0 0 0 0 0 0 0 0 0 0 0 0 t a_letters a_numbers hP
  rw [eqM mx_0, eqM mx_0] at r1
  have r2 := sn_CM_X9_lay c 1 ((rg g 1)) ((rg g 6)) ((rg g 10)) ((rg g 16)) ((rg g 17)) ((tg g 22)) b_spaces ((tg g 23)) b_splits len v_at v_fault v_orders v_pointsThen v_h 0 nw a_held past 0 b n f ((rg g 2)) ((rg g 20)) ((rg g 22)) ((rg g 5)) ((rg g 21)) ((rg g 8)) ((rg g 9)) ((rg g 23)) ((tg g 24)) ((tg g 25)) ((tg g 26)) ((tg g 27)) ((tg g 28)) ((tg g 29)) ((rg g 25)) ((rg g 26)) ((rg g 27)) 0 t a_letters a_numbers rfl
  rw [eqM mx_0] at r2
  exact ⟨r1, r2⟩
set_option maxHeartbeats 1000000 in
set_option maxRecDepth 100000 in
theorem un_X9_digest {N cnt A : Nat} {nowc T : Nat → Nat} {nw : Nat → Nat} {c : Nat} {past : Nat → Nat} {len : Nat} {t : Nat → Nat} {b n f g : Nat} {v_at : Nat} {v_fault : Nat} {v_orders : Nat} {v_pointsThen : Nat} {v_h : Nat} {a_held : Nat → Nat} {a_letters : Nat → Nat} {a_numbers : Nat → Nat} {b_spaces : Nat} {b_splits : Nat} {v_order : Nat} {v_sorts : Nat} {v_exponent : Nat} {v_prime : Nat} {v_root : Nat} (hA : mx 40 A nw = nw) (hT : ∀ w, w < 7 → P_CMt_X9_toldOf c len A (rcf 0 b n f) w = some (T w)) (hs : stR N cnt nowc nw) (hg : gok N (lst cnt nowc) g) (eg : g = gL N (lst cnt nowc)) (hn : ∀ k c, (lst cnt nowc)[k]? = some c → nowc k = c + 1) (hlen : (lst cnt nowc).length = cnt) : f_X9_digest [k_r 1] (HQ_CMf c 0 v_order v_sorts v_exponent v_prime v_root 0 b_spaces 0 b_splits len v_at v_fault v_orders v_pointsThen v_h nw a_held past 0 b n f ((pk 17 0)) ((pk 8 0)) 0 0 0 0 0 0 0 0 0 0 0 0 0 0 0 0 t a_letters a_numbers) = f_X9_digest [k_r 1] (HQ_CMf c 1 ((rg g 1)) ((rg g 6)) ((rg g 10)) ((rg g 16)) ((rg g 17)) ((tg g 22)) b_spaces ((tg g 23)) b_splits len v_at v_fault v_orders v_pointsThen v_h nw a_held past 0 b n f ((pk 17 (rg g 2))) ((pk 8 (rg g 20))) ((rg g 22)) ((rg g 5)) ((rg g 21)) ((rg g 8)) ((rg g 9)) ((rg g 23)) ((tg g 24)) ((tg g 25)) ((tg g 26)) ((tg g 27)) ((tg g 28)) ((tg g 29)) ((rg g 25)) ((rg g 26)) ((rg g 27)) 0 t a_letters a_numbers) := by
  have t1 : ∀ h w, w < 7 → f_X9_toldOf [k_r 1, k_i w] (HQ_CMf c 0 v_order v_sorts v_exponent v_prime v_root 0 b_spaces 0 b_splits len v_at v_fault v_orders v_pointsThen h nw a_held past 0 b n f ((pk 17 0)) ((pk 8 0)) 0 0 0 0 0 0 0 0 0 0 0 0 0 0 0 0 t a_letters a_numbers) = some ([k_i (T w)], HQ_CMf c 0 v_order v_sorts v_exponent v_prime v_root 0 b_spaces 0 b_splits len v_at v_fault v_orders v_pointsThen h nw a_held past 0 b n f ((pk 17 0)) ((pk 8 0)) 0 0 0 0 0 0 0 0 0 0 0 0 0 0 0 0 t a_letters a_numbers) := fun h w hw => by
    have z := sn_CMt_X9_toldOf c 0 v_order v_sorts v_exponent v_prime v_root 0 b_spaces 0 b_splits len v_at v_fault v_orders v_pointsThen h A nw a_held past ((rcf 0 b n f)) 0 0 0 0 0 0 0 0 0 0 0 0 0 0 0 0 0 0 t a_letters a_numbers w (hT w hw)
    rw [eqT hA] at z
    exact z
  have t2 : ∀ h v, f_X9_mix [k_r 1, k_i v] (HQ_CMf c 0 v_order v_sorts v_exponent v_prime v_root 0 b_spaces 0 b_splits len v_at v_fault v_orders v_pointsThen h nw a_held past 0 b n f ((pk 17 0)) ((pk 8 0)) 0 0 0 0 0 0 0 0 0 0 0 0 0 0 0 0 t a_letters a_numbers) = some ([], HQ_CMf c 0 v_order v_sorts v_exponent v_prime v_root 0 b_spaces 0 b_splits len v_at v_fault v_orders v_pointsThen ((mixv h v)) nw a_held past 0 b n f ((pk 17 0)) ((pk 8 0)) 0 0 0 0 0 0 0 0 0 0 0 0 0 0 0 0 t a_letters a_numbers) := fun h v => by
    have z := sn_CMt_X9_mix c 0 v_order v_sorts v_exponent v_prime v_root 0 b_spaces 0 b_splits len v_at v_fault v_orders v_pointsThen h A nw a_held past ((rcf 0 b n f)) 0 0 0 0 0 0 0 0 0 0 0 0 0 0 0 0 0 0 t a_letters a_numbers v (mixM h v)
    rw [eqT hA, eqT hA] at z
    exact z
  have s1 : ∀ h w, w < 7 → f_X9_toldOf [k_r 1, k_i w] (HQ_CMf c 1 ((rg g 1)) ((rg g 6)) ((rg g 10)) ((rg g 16)) ((rg g 17)) ((tg g 22)) b_spaces ((tg g 23)) b_splits len v_at v_fault v_orders v_pointsThen h nw a_held past 0 b n f ((pk 17 (rg g 2))) ((pk 8 (rg g 20))) ((rg g 22)) ((rg g 5)) ((rg g 21)) ((rg g 8)) ((rg g 9)) ((rg g 23)) ((tg g 24)) ((tg g 25)) ((tg g 26)) ((tg g 27)) ((tg g 28)) ((tg g 29)) ((rg g 25)) ((rg g 26)) ((rg g 27)) 0 t a_letters a_numbers) = some ([k_i (T w)], HQ_CMf c 1 ((rg g 1)) ((rg g 6)) ((rg g 10)) ((rg g 16)) ((rg g 17)) ((tg g 22)) b_spaces ((tg g 23)) b_splits len v_at v_fault v_orders v_pointsThen h nw a_held past 0 b n f ((pk 17 (rg g 2))) ((pk 8 (rg g 20))) ((rg g 22)) ((rg g 5)) ((rg g 21)) ((rg g 8)) ((rg g 9)) ((rg g 23)) ((tg g 24)) ((tg g 25)) ((tg g 26)) ((tg g 27)) ((tg g 28)) ((tg g 29)) ((rg g 25)) ((rg g 26)) ((rg g 27)) 0 t a_letters a_numbers) := fun h w hw => by
    have z := sn_CMt_X9_toldOf c 1 ((rg g 1)) ((rg g 6)) ((rg g 10)) ((rg g 16)) ((rg g 17)) ((tg g 22)) b_spaces ((tg g 23)) b_splits len v_at v_fault v_orders v_pointsThen h A nw a_held past ((rcf 0 b n f)) ((rg g 2)) ((rg g 20)) ((rg g 22)) ((rg g 5)) ((rg g 21)) ((rg g 8)) ((rg g 9)) ((rg g 23)) ((tg g 24)) ((tg g 25)) ((tg g 26)) ((tg g 27)) ((tg g 28)) ((tg g 29)) ((rg g 25)) ((rg g 26)) ((rg g 27)) 0 t a_letters a_numbers w (hT w hw)
    rw [eqT hA] at z
    exact z
  have s2 : ∀ h v, f_X9_mix [k_r 1, k_i v] (HQ_CMf c 1 ((rg g 1)) ((rg g 6)) ((rg g 10)) ((rg g 16)) ((rg g 17)) ((tg g 22)) b_spaces ((tg g 23)) b_splits len v_at v_fault v_orders v_pointsThen h nw a_held past 0 b n f ((pk 17 (rg g 2))) ((pk 8 (rg g 20))) ((rg g 22)) ((rg g 5)) ((rg g 21)) ((rg g 8)) ((rg g 9)) ((rg g 23)) ((tg g 24)) ((tg g 25)) ((tg g 26)) ((tg g 27)) ((tg g 28)) ((tg g 29)) ((rg g 25)) ((rg g 26)) ((rg g 27)) 0 t a_letters a_numbers) = some ([], HQ_CMf c 1 ((rg g 1)) ((rg g 6)) ((rg g 10)) ((rg g 16)) ((rg g 17)) ((tg g 22)) b_spaces ((tg g 23)) b_splits len v_at v_fault v_orders v_pointsThen ((mixv h v)) nw a_held past 0 b n f ((pk 17 (rg g 2))) ((pk 8 (rg g 20))) ((rg g 22)) ((rg g 5)) ((rg g 21)) ((rg g 8)) ((rg g 9)) ((rg g 23)) ((tg g 24)) ((tg g 25)) ((tg g 26)) ((tg g 27)) ((tg g 28)) ((tg g 29)) ((rg g 25)) ((rg g 26)) ((rg g 27)) 0 t a_letters a_numbers) := fun h v => by
    have z := sn_CMt_X9_mix c 1 ((rg g 1)) ((rg g 6)) ((rg g 10)) ((rg g 16)) ((rg g 17)) ((tg g 22)) b_spaces ((tg g 23)) b_splits len v_at v_fault v_orders v_pointsThen h A nw a_held past ((rcf 0 b n f)) ((rg g 2)) ((rg g 20)) ((rg g 22)) ((rg g 5)) ((rg g 21)) ((rg g 8)) ((rg g 9)) ((rg g 23)) ((tg g 24)) ((tg g 25)) ((tg g 26)) ((tg g 27)) ((tg g 28)) ((tg g 29)) ((rg g 25)) ((rg g 26)) ((rg g 27)) 0 t a_letters a_numbers v (mixM h v)
    rw [eqT hA, eqT hA] at z
    exact z
  unfold f_X9_digest
  have q0 := dgK_0 (F1 := f_X9_toldOf) (F2 := f_X9_mix) (F3 := f_X9_ofAll) (F4 := f_X9_ofSort) (F5 := f_X9_mirrorOf) (Hf := (fun h => HQ_CMf c 0 v_order v_sorts v_exponent v_prime v_root 0 b_spaces 0 b_splits len v_at v_fault v_orders v_pointsThen h nw a_held past 0 b n f ((pk 17 0)) ((pk 8 0)) 0 0 0 0 0 0 0 0 0 0 0 0 0 0 0 0 t a_letters a_numbers)) (fun _ => rfl) v_h rfl t1 t2 19993
  have q1 := dgK_0 (F1 := f_X9_toldOf) (F2 := f_X9_mix) (F3 := f_X9_ofAll) (F4 := f_X9_ofSort) (F5 := f_X9_mirrorOf) (Hf := (fun h => HQ_CMf c 1 ((rg g 1)) ((rg g 6)) ((rg g 10)) ((rg g 16)) ((rg g 17)) ((tg g 22)) b_spaces ((tg g 23)) b_splits len v_at v_fault v_orders v_pointsThen h nw a_held past 0 b n f ((pk 17 (rg g 2))) ((pk 8 (rg g 20))) ((rg g 22)) ((rg g 5)) ((rg g 21)) ((rg g 8)) ((rg g 9)) ((rg g 23)) ((tg g 24)) ((tg g 25)) ((tg g 26)) ((tg g 27)) ((tg g 28)) ((tg g 29)) ((rg g 25)) ((rg g 26)) ((rg g 27)) 0 t a_letters a_numbers)) (fun _ => rfl) v_h rfl s1 s2 19993
  obtain ⟨y1, y2⟩ := layE (v_h := fm T 7 0 2447) (v_at := v_at) (v_fault := v_fault) (v_orders := v_orders) (v_pointsThen := v_pointsThen) (a_held := a_held) (a_letters := a_letters) (a_numbers := a_numbers) (b_spaces := b_spaces) (b_splits := b_splits) (c := c) (past := past) (len := len) (t := t) (b := b) (n := n) (f := f) (v_order := v_order) (v_sorts := v_sorts) (v_exponent := v_exponent) (v_prime := v_prime) (v_root := v_root) hs hg eg hn hlen
  have e := un_X9_ofAll (x0 := 0) rfl rfl y1 y2
  refine q0.trans ?_
  refine Eq.trans ?_ q1.symm
  exact congrArg (fun z => k_res z (fun r h => k_app1 r fun v => dgR f_X9_toldOf f_X9_mix f_X9_ofAll f_X9_ofSort f_X9_mirrorOf 19993 v h)) e
set_option maxHeartbeats 1000000 in
set_option maxRecDepth 100000 in
theorem step_digest {kx km : KH} (h : INV kx km) : STEPL f_X8_digest f_X9_digest kx km := by
  obtain ⟨N, cnt, nowc, nw, c, pp, pc, pcd, past, len, t, b, n, f, hs, hv, hc, hp, hl, ht, hx, hm⟩ := h
  obtain ⟨hg, hlen, hn⟩ := gset hv
  generalize hgg : gL N (lst cnt nowc) = g at hg hx hm
  obtain ⟨fsx, cx0⟩ := cellX hx
  obtain ⟨fsm, cm0⟩ := cellM hm
  have hN : rg g 0 = N := hg.2.2.2.2.1
  obtain ⟨v3_points, v3_count, a_trialc, v17_orders, v17_kind, v17_number, v17_figuresDue, v17_figuresSeen, v17_pointsThen, a_kinds, a_numbers, b21_count, b44_spaces, b44_nextSpaces, b44_nextCount, b44_width, cak, made, l1, l2⟩ := learnR hx hg hgg.symm hn hlen
  have u1 := un_X8_digest cx0 rfl l1 l2
  have hA : mx 40 (anw (rg g 0) cnt) nw = nw := by
    rw [hN]
    exact mx_anw hv.2.1 hv.2.2.1 hs.1 hs.2.1
  have hA0 : pk 40 (anw (rg g 0) cnt) 0 = N + 1 := by
    rw [hN]
    exact anw_0 hv.2.1
  have hA1 : pk 40 (anw (rg g 0) cnt) 1 = cnt + 1 := by
    rw [hN]
    exact anw_1 hv.2.1 hv.2.2.1
  have hdB := fun A => digest_both (A := A) (c := c) (len := len) (b := b) (n := n) (f := f) hg.2.2.2.1 hN (Nat.lt_succ_of_le hv.2.2.1)
  generalize hAe : anw (rg g 0) cnt = A at hA hA0 hA1 hdB
  obtain ⟨r, p1, p2⟩ := hdB A rfl hA0 hA1
  have hT := fun w hw => told_of (c := c) (len := len) (b := b) (n := n) (f := f) (x := w) hA0 hA1 hw
  have hT2 : ∀ w, w < 7 → P_CMt_X9_toldOf c len A (rcf 0 b n f) w = some ((fun w => if h : w < 7 then (hT w h).choose else 0) w) := fun w hw => by
    simp only [hw, dif_pos]
    exact (hT w hw).choose_spec.2
  have e1 : f_X8_digest [k_r 1] (HQ_CX 1 1 N cnt nowc v3_points v3_count a_trialc c ((pp 0)) ((pc 0)) ((pcd 0)) ((pp 1)) ((pc 1)) ((pcd 1)) ((pp 2)) ((pc 2)) ((pcd 2)) ((pp 3)) ((pc 3)) ((pcd 3)) ((pp 4)) ((pc 4)) ((pcd 4)) len v17_orders v17_kind v17_number v17_figuresDue v17_figuresSeen v17_pointsThen t a_kinds a_numbers ((Nat.succ (rg g 6))) b21_count ((rg g 6)) ((rg g 10)) ((rg g 1)) N ((rg g 2)) ((rg g 5)) ((rg g 3)) 0 cak ((rg g 4)) made ((rg g 7)) ((rg g 8)) ((rg g 11)) ((rg g 9)) ((rg g 12)) ((rg g 13)) ((rg g 14)) ((rg g 15)) ((rg g 16)) ((rg g 17)) ((rg g 18)) ((rg g 19)) ((tg g 8)) 0 ((tg g 9)) ((tg g 10)) ((tg g 11)) ((tg g 12)) ((tg g 13)) b44_spaces ((tg g 14)) b44_nextSpaces ((tg g 15)) b44_nextCount ((tg g 16)) b44_width ((tg g 17)) ((tg g 18)) 0 b n f ((tg g 19)) ((tg g 20))) = some ([k_l r], HQ_CX 1 1 N cnt nowc v3_points v3_count a_trialc c ((pp 0)) ((pc 0)) ((pcd 0)) ((pp 1)) ((pc 1)) ((pcd 1)) ((pp 2)) ((pc 2)) ((pcd 2)) ((pp 3)) ((pc 3)) ((pcd 3)) ((pp 4)) ((pc 4)) ((pcd 4)) len v17_orders v17_kind v17_number v17_figuresDue v17_figuresSeen v17_pointsThen t a_kinds a_numbers ((Nat.succ (rg g 6))) b21_count ((rg g 6)) ((rg g 10)) ((rg g 1)) N ((rg g 2)) ((rg g 5)) ((rg g 3)) 0 cak ((rg g 4)) made ((rg g 7)) ((rg g 8)) ((rg g 11)) ((rg g 9)) ((rg g 12)) ((rg g 13)) ((rg g 14)) ((rg g 15)) ((rg g 16)) ((rg g 17)) ((rg g 18)) ((rg g 19)) ((tg g 8)) 0 ((tg g 9)) ((tg g 10)) ((tg g 11)) ((tg g 12)) ((tg g 13)) b44_spaces ((tg g 14)) b44_nextSpaces ((tg g 15)) b44_nextCount ((tg g 16)) b44_width ((tg g 17)) ((tg g 18)) 0 b n f ((tg g 19)) ((tg g 20))) := sn_CXr_X8_digest 1 1 N cnt nowc v3_points v3_count a_trialc c ((pp 0)) ((pc 0)) ((pcd 0)) ((pp 1)) ((pc 1)) ((pcd 1)) ((pp 2)) ((pc 2)) ((pcd 2)) ((pp 3)) ((pc 3)) ((pcd 3)) ((pp 4)) ((pc 4)) ((pcd 4)) len v17_orders v17_kind v17_number v17_figuresDue v17_figuresSeen v17_pointsThen t a_kinds a_numbers ((Nat.succ (rg g 6))) b21_count ((rg g 6)) ((rg g 10)) ((rg g 1)) N ((rg g 2)) ((rg g 5)) ((rg g 3)) 0 cak ((rg g 4)) made ((rg g 7)) ((rg g 8)) ((rg g 11)) ((rg g 9)) ((rg g 12)) ((rg g 13)) ((rg g 14)) ((rg g 15)) ((rg g 16)) ((rg g 17)) ((rg g 18)) ((rg g 19)) ((tg g 8)) 0 ((tg g 9)) ((tg g 10)) ((tg g 11)) ((tg g 12)) ((tg g 13)) b44_spaces ((tg g 14)) b44_nextSpaces ((tg g 15)) b44_nextCount ((tg g 16)) b44_width ((tg g 17)) ((tg g 18)) ((rcf 0 b n f)) ((tg g 19)) ((tg g 20)) p1
  have f1 := u1.trans e1
  obtain ⟨mv_at, mv_fault, mv_orders, mv_pointsThen, mv_h, ma_held, ma_letters, ma_numbers, mv_isLaid, mv_order, mv_sorts, mv_exponent, mv_prime, mv_root, mv_spaces, mv_splits, ma_elements, ma_products, ma_sortOf, ma_inverse, ma_turns, ma_size, ma_least, ma_timesOf, ma_wide, ma_bases, ma_newWide, ma_newBases, ma_grid, ma_lead, ma_spreads, ma_degrees, ma_values, ma_one, mb_spaces, mb_splits, hmk, rfl⟩ := hm
  have f2 : ∃ (v_at : Nat) (v_fault : Nat) (v_orders : Nat) (v_pointsThen : Nat) (v_h : Nat) (a_held : Nat → Nat) (a_letters : Nat → Nat) (a_numbers : Nat → Nat) (b_spaces : Nat) (b_splits : Nat), f_X9_digest [k_r 1] (HQ_CMf c mv_isLaid mv_order mv_sorts mv_exponent mv_prime mv_root mv_spaces mb_spaces mv_splits mb_splits len mv_at mv_fault mv_orders mv_pointsThen mv_h nw ma_held past 0 b n f ((pk 17 ma_elements)) ((pk 8 ma_products)) ma_sortOf ma_inverse ma_turns ma_size ma_least ma_timesOf ma_wide ma_bases ma_newWide ma_newBases ma_grid ma_lead ma_spreads ma_degrees ma_values ma_one t ma_letters ma_numbers) = some ([k_l r], HQ_CMf c 1 ((rg g 1)) ((rg g 6)) ((rg g 10)) ((rg g 16)) ((rg g 17)) ((tg g 22)) b_spaces ((tg g 23)) b_splits len v_at v_fault v_orders v_pointsThen v_h nw a_held past 0 b n f ((pk 17 (rg g 2))) ((pk 8 (rg g 20))) ((rg g 22)) ((rg g 5)) ((rg g 21)) ((rg g 8)) ((rg g 9)) ((rg g 23)) ((tg g 24)) ((tg g 25)) ((tg g 26)) ((tg g 27)) ((tg g 28)) ((tg g 29)) ((rg g 25)) ((rg g 26)) ((rg g 27)) 0 t a_letters a_numbers) := by
    rcases hmk with hmk | hmk
    · unfold RM0 at hmk
      obtain ⟨rfl, rfl, rfl, rfl, rfl, rfl, rfl, rfl, rfl, rfl, rfl, rfl, rfl, rfl, rfl, rfl, rfl, rfl, rfl, rfl, rfl⟩ := hmk
      have w2 := un_X9_digest (v_order := mv_order) (v_sorts := mv_sorts) (v_exponent := mv_exponent) (v_prime := mv_prime) (v_root := mv_root) (c := c) (past := past) (len := len) (t := t) (b := b) (n := n) (f := f) (v_at := mv_at) (v_fault := mv_fault) (v_orders := mv_orders) (v_pointsThen := mv_pointsThen) (v_h := mv_h) (a_held := ma_held) (a_letters := ma_letters) (a_numbers := ma_numbers) (b_spaces := mb_spaces) (b_splits := mb_splits) hA hT2 hs hg hgg.symm hn hlen
      have z := sn_CMt_X9_digest c 1 ((rg g 1)) ((rg g 6)) ((rg g 10)) ((rg g 16)) ((rg g 17)) ((tg g 22)) mb_spaces ((tg g 23)) mb_splits len mv_at mv_fault mv_orders mv_pointsThen mv_h A nw ma_held past ((rcf 0 b n f)) ((rg g 2)) ((rg g 20)) ((rg g 22)) ((rg g 5)) ((rg g 21)) ((rg g 8)) ((rg g 9)) ((rg g 23)) ((tg g 24)) ((tg g 25)) ((tg g 26)) ((tg g 27)) ((tg g 28)) ((tg g 29)) ((rg g 25)) ((rg g 26)) ((rg g 27)) 0 t ma_letters ma_numbers p2
      rw [eqT hA, eqT hA] at z
      exact ⟨mv_at, mv_fault, mv_orders, mv_pointsThen, r, ma_held, ma_letters, ma_numbers, mb_spaces, mb_splits, w2.trans z⟩
    · unfold RM1 at hmk
      obtain ⟨rfl, rfl, rfl, rfl, rfl, rfl, rfl, rfl, rfl, rfl, rfl, rfl, rfl, rfl, rfl, rfl, rfl, rfl, rfl, rfl, rfl, rfl, rfl, rfl, rfl, rfl⟩ := hmk
      have z := sn_CMt_X9_digest c 1 ((rg g 1)) ((rg g 6)) ((rg g 10)) ((rg g 16)) ((rg g 17)) ((tg g 22)) mb_spaces ((tg g 23)) mb_splits len mv_at mv_fault mv_orders mv_pointsThen mv_h A nw ma_held past ((rcf 0 b n f)) ((rg g 2)) ((rg g 20)) ((rg g 22)) ((rg g 5)) ((rg g 21)) ((rg g 8)) ((rg g 9)) ((rg g 23)) ((tg g 24)) ((tg g 25)) ((tg g 26)) ((tg g 27)) ((tg g 28)) ((tg g 29)) ((rg g 25)) ((rg g 26)) ((rg g 27)) 0 t ma_letters ma_numbers p2
      rw [eqT hA, eqT hA] at z
      exact ⟨mv_at, mv_fault, mv_orders, mv_pointsThen, r, ma_held, ma_letters, ma_numbers, mb_spaces, mb_splits, z⟩
  obtain ⟨zv_at, zv_fault, zv_orders, zv_pointsThen, zv_h, za_held, za_letters, za_numbers, zb_spaces, zb_splits, f2⟩ := f2
  obtain ⟨kx2, w1, w2⟩ := weakS (N := N) (cnt := cnt) (nowc := nowc) (c := c) (pp := pp) (pc := pc) (pcd := pcd) (len := len) (t := t) (g := g) (b := b) (n := n) (f := f) (v3_points := v3_points) (v3_count := v3_count) (a_trialc := a_trialc) (v17_orders := v17_orders) (v17_kind := v17_kind) (v17_number := v17_number) (v17_figuresDue := v17_figuresDue) (v17_figuresSeen := v17_figuresSeen) (v17_pointsThen := v17_pointsThen) (a_kinds := a_kinds) (a_numbers := a_numbers) (b21_count := b21_count) (b44_spaces := b44_spaces) (b44_nextSpaces := b44_nextSpaces) (b44_nextCount := b44_nextCount) (b44_width := b44_width) (v0_rowsKnown := 1) (v21_count := Nat.succ (rg g 6)) (a_degrees := tg g 8) (v44_lines := tg g 9) (v44_nextLines := tg g 10) (v44_starts := tg g 11) (v44_nextStarts := tg g 12) (v44_spaces := tg g 13) (v44_nextSpaces := tg g 14) (v44_nextCount := tg g 15) (v44_width := tg g 16) (a_pivots := tg g 17) (a_mix := tg g 18) (a_RS := tg g 19) (a_RF := tg g 20) (cak := cak) (made := made) (mult := 0) (Or.inr ⟨rfl, rfl, rfl, rfl, rfl, rfl, rfl, rfl, rfl, rfl, rfl, rfl, rfl, rfl, rfl⟩)
  obtain ⟨km2, v1, v2⟩ := weakM (nw := nw) (c := c) (past := past) (len := len) (t := t) (g := g) (b := b) (n := n) (f := f) (v_at := zv_at) (v_fault := zv_fault) (v_orders := zv_orders) (v_pointsThen := zv_pointsThen) (v_h := zv_h) (a_held := za_held) (a_letters := za_letters) (a_numbers := za_numbers) (b_spaces := zb_spaces) (b_splits := zb_splits) (one := 0)
  subst hgg
  exact ⟨r, _, _, f1, f2, kx2, km2, Or.inl w1, v1, N, cnt, nowc, nw, c, pp, pc, pcd, past, len, t, b, n, f, hs, hv, hc, hp, hl, ht, w2, v2⟩
