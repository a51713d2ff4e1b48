/-! ===== the same with named lengths ===== -/
theorem kq_cell {pre : KH} {q : Nat} (hq : pre.length = q) (tl : KH) (j : Nat) (h : j < tl.length) : k_cell (pre ++ tl) (q + j) = k_cell tl j := by
  subst hq
  exact ka_cell pre tl j h
theorem kq_set {pre : KH} {q : Nat} (hq : pre.length = q) (tl : KH) (j : Nat) (c : KCell) : kset (pre ++ tl) (q + j) c = pre ++ kset tl j c := by
  subst hq
  exact ka_set pre tl j c
section KJC4
variable {l : Launch} {D : va_G} {cI cS cM : ClassId} {own : String} {cc : ByteArray} {nL : Nat} {R : Room} {mc ms : Nat} {kh' : KH} {pc : Nat} {kls kst : List KV} {kh : KH} {cells slots : Nat}
theorem q_new {idx ci N q : Nat} {kh1 : KH} {Cn : String} {Tf : u_T} {tyf : Nat → FieldType} (hd : decode cc pc = .ok (.new idx, 3)) (hc : vwCl[ci]? = some (Cn, Tf, N)) (hin : ∀ w ∈ u_ws Cn Tf N, w ∈ k_tbl) (hty : ∀ k, k < N → parseFieldDescriptor (Tf k).2.2.1 = some (tyf k)) (hcl : Cond.classLink own idx Cn ∈ k_tbl) (hinst : Cond.instantiable Cn N ∈ k_tbl) (hini : Cond.initialized Cn ∈ k_tbl) (hok : ∀ k, k < N → k_dok (tyf k) = true) (h1 : cells + 1 ≤ R.cells) (h2 : slots + N ≤ R.slots) (hq : kh.length = q) (he : kh ++ [k_ob ci ((List.range N).map fun k => k_dv (tyf k))] = kh1)
    (K : KJC l D cI cS cM own cc nL R mc ms kh' (pc + 3) kls (k_r (q + 1) :: kst) kh1 (cells + 1) (slots + N)) : KJC l D cI cS cM own cc nL R mc ms kh' pc kls kst kh cells slots := by
  subst hq
  subst he
  exact c_new hd hc hin hty hcl hinst hini hok h1 h2 K
theorem q_newa {n q : Nat} {kh1 : KH} (hd : decode cc pc = .ok (.newarray .int, 2)) (harr : Cond.arrayClass .int ∈ k_tbl) (hn : n ≤ 100000) (h1 : cells + 1 ≤ R.cells) (h2 : slots + n ≤ R.slots) (hq : kh.length = q) (he : kh ++ [k_ar n (List.replicate n 1)] = kh1)
    (K : KJC l D cI cS cM own cc nL R mc ms kh' (pc + 2) kls (k_r (q + 1) :: kst) kh1 (cells + 1) (slots + n)) : KJC l D cI cS cM own cc nL R mc ms kh' pc kls (k_i n :: kst) kh cells slots := by
  subst hq
  subst he
  exact c_newa hd harr hn h1 h2 K
theorem q_anew {n idx q : Nat} {kh1 : KH} (hd : decode cc pc = .ok (.anewarray idx, 3)) (hcl : Cond.classLink own idx "RootedClasses$Setting" ∈ k_tbl) (hn : n ≤ 100000) (h1 : cells + 1 ≤ R.cells) (h2 : slots + n ≤ R.slots) (hq : kh.length = q) (he : kh ++ [k_rf 0 n (List.replicate n 1)] = kh1)
    (K : KJC l D cI cS cM own cc nL R mc ms kh' (pc + 3) kls (k_r (q + 1) :: kst) kh1 (cells + 1) (slots + n)) : KJC l D cI cS cM own cc nL R mc ms kh' pc kls (k_i n :: kst) kh cells slots := by
  subst hq
  subst he
  exact c_anew hd hcl hn h1 h2 K
theorem q_mna {idx n m q : Nat} {kh1 : KH} (hd : decode cc pc = .ok (.multianewarray idx 2, 4)) (hcl : Cond.classLink own idx "[[I" ∈ k_tbl) (harr : Cond.arrayClass .int ∈ k_tbl) (hn : n ≤ 1000) (hm : m ≤ 1000) (h1 : cells + (1 + n) ≤ R.cells) (h2 : slots + (n + n * m) ≤ R.slots) (hq : kh.length = q) (he : kh ++ (k_rf 1 n ((List.range n).map fun i => q + 1 + i + 2) :: List.replicate n (k_ar m (List.replicate m 1))) = kh1)
    (K : KJC l D cI cS cM own cc nL R mc ms kh' (pc + 4) kls (k_r (q + 1) :: kst) kh1 (cells + 1 + n) (slots + n + n * m)) : KJC l D cI cS cM own cc nL R mc ms kh' pc kls (k_i m :: k_i n :: kst) kh cells slots := by
  subst hq
  subst he
  exact c_mna hd hcl harr hn hm h1 h2 K
end KJC4
