section JR
variable {X : Cx} {k n : Nat} {S : St} {pc q : Nat} {lv : List (Nat × Value)} {st : List Value} {cc : ByteArray} {own : String}
theorem j_iconst {z : Int} {v : Int32} (hX : Ok X cc own) (hd : decode cc pc = .ok (.iconst z, 1)) (hq : pc + 1 = q) (hv : Int32.ofInt z = v) (kk : Jg X k n S q lv (.int v :: st)) : Jg X k n S pc lv (st) := by
  obtain ⟨p, l, e, R, s, m, args, below, meth, c, Q, D, E, sz, nL⟩ := X
  subst hq
  exact fun ls H locs hl hW hS => lv_iconst hX.1 hX.2.1 hd hv (kk ls H locs hl hW hS)
theorem j_bipush {z : Int} {v : Int32} (hX : Ok X cc own) (hd : decode cc pc = .ok (.bipush z, 2)) (hq : pc + 2 = q) (hv : (Int8.ofInt z).toInt32 = v) (kk : Jg X k n S q lv (.int v :: st)) : Jg X k n S pc lv (st) := by
  obtain ⟨p, l, e, R, s, m, args, below, meth, c, Q, D, E, sz, nL⟩ := X
  subst hq
  exact fun ls H locs hl hW hS => lv_bipush hX.1 hX.2.1 hd hv (kk ls H locs hl hW hS)
theorem j_sipush {z : Int} {v : Int32} (hX : Ok X cc own) (hd : decode cc pc = .ok (.sipush z, 3)) (hq : pc + 3 = q) (hv : (Int16.ofInt z).toInt32 = v) (kk : Jg X k n S q lv (.int v :: st)) : Jg X k n S pc lv (st) := by
  obtain ⟨p, l, e, R, s, m, args, below, meth, c, Q, D, E, sz, nL⟩ := X
  subst hq
  exact fun ls H locs hl hW hS => lv_sipush hX.1 hX.2.1 hd hv (kk ls H locs hl hW hS)
theorem j_lconst {z : Fin 2} {v : Int64} (hX : Ok X cc own) (hd : decode cc pc = .ok (.lconst z, 1)) (hq : pc + 1 = q) (hv : Int64.ofNat (z : Nat) = v) (kk : Jg X k n S q lv (.long v :: st)) : Jg X k n S pc lv (st) := by
  obtain ⟨p, l, e, R, s, m, args, below, meth, c, Q, D, E, sz, nL⟩ := X
  subst hq
  exact fun ls H locs hl hW hS => lv_lconst hX.1 hX.2.1 hd hv (kk ls H locs hl hW hS)
theorem j_dconst0 (hX : Ok X cc own) (hd : decode cc pc = .ok (.dconst 0, 1)) (hq : pc + 1 = q) (kk : Jg X k n S q lv (.double FP.dconst0 :: st)) : Jg X k n S pc lv (st) := by
  obtain ⟨p, l, e, R, s, m, args, below, meth, c, Q, D, E, sz, nL⟩ := X
  subst hq
  exact fun ls H locs hl hW hS => lv_dconst0 hX.1 hX.2.1 hd (kk ls H locs hl hW hS)
theorem j_dconst1 (hX : Ok X cc own) (hd : decode cc pc = .ok (.dconst 1, 1)) (hq : pc + 1 = q) (kk : Jg X k n S q lv (.double FP.dconst1 :: st)) : Jg X k n S pc lv (st) := by
  obtain ⟨p, l, e, R, s, m, args, below, meth, c, Q, D, E, sz, nL⟩ := X
  subst hq
  exact fun ls H locs hl hW hS => lv_dconst1 hX.1 hX.2.1 hd (kk ls H locs hl hW hS)
theorem j_null (hX : Ok X cc own) (hd : decode cc pc = .ok (.aconst_null, 1)) (hq : pc + 1 = q) (kk : Jg X k n S q lv (.null :: st)) : Jg X k n S pc lv (st) := by
  obtain ⟨p, l, e, R, s, m, args, below, meth, c, Q, D, E, sz, nL⟩ := X
  subst hq
  exact fun ls H locs hl hW hS => lv_null hX.1 hX.2.1 hd (kk ls H locs hl hW hS)
theorem j_ldc {ix : Nat} {v : Int32} (hX : Ok X cc own) (hd : decode cc pc = .ok (.ldc ix, 2)) (hq : pc + 2 = q) (hc : Cond.constant own ix v ∈ BIG) (kk : Jg X k n S q lv (.int v :: st)) : Jg X k n S pc lv (st) := by
  obtain ⟨p, l, e, R, s, m, args, below, meth, c, Q, D, E, sz, nL⟩ := X
  subst hq
  exact fun ls H locs hl hW hS => lv_ldc hX.1 hX.2.1 hX.2.2.2.1 (hX.2.2.2.2.1 _ hc) hd (kk ls H locs hl hW hS)
theorem j_ldc2 {ix : Nat} {v : Int64} (hX : Ok X cc own) (hd : decode cc pc = .ok (.ldc2_w ix, 3)) (hq : pc + 3 = q) (hc : Cond.constantLong own ix v ∈ BIG) (kk : Jg X k n S q lv (.long v :: st)) : Jg X k n S pc lv (st) := by
  obtain ⟨p, l, e, R, s, m, args, below, meth, c, Q, D, E, sz, nL⟩ := X
  subst hq
  exact fun ls H locs hl hW hS => lv_ldc2 hX.1 hX.2.1 hX.2.2.2.1 (hX.2.2.2.2.1 _ hc) hd (kk ls H locs hl hW hS)
theorem j_ldc2d {ix : Nat} {v : UInt64} (hX : Ok X cc own) (hd : decode cc pc = .ok (.ldc2_w ix, 3)) (hq : pc + 3 = q) (hc : Cond.constantDouble own ix v ∈ BIG) (kk : Jg X k n S q lv (.double v :: st)) : Jg X k n S pc lv (st) := by
  obtain ⟨p, l, e, R, s, m, args, below, meth, c, Q, D, E, sz, nL⟩ := X
  subst hq
  exact fun ls H locs hl hW hS => lv_ldc2d hX.1 hX.2.1 hX.2.2.2.1 (hX.2.2.2.2.1 _ hc) hd (kk ls H locs hl hW hS)
theorem j_iload_n {z : Fin 4} {x : Int32} (hX : Ok X cc own) (hd : decode cc pc = .ok (.iload_n z, 1)) (hq : pc + 1 = q) (hv : lk lv z = some (.int x)) (kk : Jg X k n S q lv (.int x :: st)) : Jg X k n S pc lv (st) := by
  obtain ⟨p, l, e, R, s, m, args, below, meth, c, Q, D, E, sz, nL⟩ := X
  subst hq
  exact fun ls H locs hl hW hS => lv_iload_n hX.1 hX.2.1 hd rfl (lk_at hl hv) (kk ls H locs hl hW hS)
theorem j_iload {z : Nat} {x : Int32} (hX : Ok X cc own) (hd : decode cc pc = .ok (.iload z, 2)) (hq : pc + 2 = q) (hv : lk lv z = some (.int x)) (kk : Jg X k n S q lv (.int x :: st)) : Jg X k n S pc lv (st) := by
  obtain ⟨p, l, e, R, s, m, args, below, meth, c, Q, D, E, sz, nL⟩ := X
  subst hq
  exact fun ls H locs hl hW hS => lv_iload hX.1 hX.2.1 hd (lk_at hl hv) (kk ls H locs hl hW hS)
theorem j_istore_n {z : Fin 4} {x : Int32} {lv' : List (Nat × Value)} (hX : Ok X cc own) (hd : decode cc pc = .ok (.istore_n z, 1)) (hq : pc + 1 = q) (hz : (z : Nat) < nLx X) (hl' : ss1 lv z (.int x) = lv') (kk : Jg X k n S q lv' st) : Jg X k n S pc lv (.int x :: st) := by
  obtain ⟨p, l, e, R, s, m, args, below, meth, c, Q, D, E, sz, nL⟩ := X
  subst hq
  exact fun ls H locs hl hW hS => lv_istore_n hX.1 hX.2.1 hd rfl hl hz hl' (fun ls' hl' => kk ls' H locs hl' hW hS)
theorem j_istore {z : Nat} {x : Int32} {lv' : List (Nat × Value)} (hX : Ok X cc own) (hd : decode cc pc = .ok (.istore z, 2)) (hq : pc + 2 = q) (hz : z < nLx X) (hl' : ss1 lv z (.int x) = lv') (kk : Jg X k n S q lv' st) : Jg X k n S pc lv (.int x :: st) := by
  obtain ⟨p, l, e, R, s, m, args, below, meth, c, Q, D, E, sz, nL⟩ := X
  subst hq
  exact fun ls H locs hl hW hS => lv_istore hX.1 hX.2.1 hd hl hz hl' (fun ls' hl' => kk ls' H locs hl' hW hS)
theorem j_lload_n {z : Fin 4} {x : Int64} (hX : Ok X cc own) (hd : decode cc pc = .ok (.lload_n z, 1)) (hq : pc + 1 = q) (hv : lk lv z = some (.long x)) (kk : Jg X k n S q lv (.long x :: st)) : Jg X k n S pc lv (st) := by
  obtain ⟨p, l, e, R, s, m, args, below, meth, c, Q, D, E, sz, nL⟩ := X
  subst hq
  exact fun ls H locs hl hW hS => lv_lload_n hX.1 hX.2.1 hd rfl (lk_at hl hv) (kk ls H locs hl hW hS)
theorem j_lload {z : Nat} {x : Int64} (hX : Ok X cc own) (hd : decode cc pc = .ok (.lload z, 2)) (hq : pc + 2 = q) (hv : lk lv z = some (.long x)) (kk : Jg X k n S q lv (.long x :: st)) : Jg X k n S pc lv (st) := by
  obtain ⟨p, l, e, R, s, m, args, below, meth, c, Q, D, E, sz, nL⟩ := X
  subst hq
  exact fun ls H locs hl hW hS => lv_lload hX.1 hX.2.1 hd (lk_at hl hv) (kk ls H locs hl hW hS)
theorem j_lstore_n {z : Fin 4} {x : Int64} {lv' : List (Nat × Value)} (hX : Ok X cc own) (hd : decode cc pc = .ok (.lstore_n z, 1)) (hq : pc + 1 = q) (hz : (z : Nat) + 1 < nLx X) (hl' : ss2 lv z (.long x) = lv') (kk : Jg X k n S q lv' st) : Jg X k n S pc lv (.long x :: st) := by
  obtain ⟨p, l, e, R, s, m, args, below, meth, c, Q, D, E, sz, nL⟩ := X
  subst hq
  exact fun ls H locs hl hW hS => lv_lstore_n hX.1 hX.2.1 hd rfl hl hz hl' (fun ls' hl' => kk ls' H locs hl' hW hS)
theorem j_lstore {z : Nat} {x : Int64} {lv' : List (Nat × Value)} (hX : Ok X cc own) (hd : decode cc pc = .ok (.lstore z, 2)) (hq : pc + 2 = q) (hz : z + 1 < nLx X) (hl' : ss2 lv z (.long x) = lv') (kk : Jg X k n S q lv' st) : Jg X k n S pc lv (.long x :: st) := by
  obtain ⟨p, l, e, R, s, m, args, below, meth, c, Q, D, E, sz, nL⟩ := X
  subst hq
  exact fun ls H locs hl hW hS => lv_lstore hX.1 hX.2.1 hd hl hz hl' (fun ls' hl' => kk ls' H locs hl' hW hS)
theorem j_dload_n {z : Fin 4} {x : UInt64} (hX : Ok X cc own) (hd : decode cc pc = .ok (.dload_n z, 1)) (hq : pc + 1 = q) (hv : lk lv z = some (.double x)) (kk : Jg X k n S q lv (.double x :: st)) : Jg X k n S pc lv (st) := by
  obtain ⟨p, l, e, R, s, m, args, below, meth, c, Q, D, E, sz, nL⟩ := X
  subst hq
  exact fun ls H locs hl hW hS => lv_dload_n hX.1 hX.2.1 hd rfl (lk_at hl hv) (kk ls H locs hl hW hS)
theorem j_dload {z : Nat} {x : UInt64} (hX : Ok X cc own) (hd : decode cc pc = .ok (.dload z, 2)) (hq : pc + 2 = q) (hv : lk lv z = some (.double x)) (kk : Jg X k n S q lv (.double x :: st)) : Jg X k n S pc lv (st) := by
  obtain ⟨p, l, e, R, s, m, args, below, meth, c, Q, D, E, sz, nL⟩ := X
  subst hq
  exact fun ls H locs hl hW hS => lv_dload hX.1 hX.2.1 hd (lk_at hl hv) (kk ls H locs hl hW hS)
theorem j_dstore_n {z : Fin 4} {x : UInt64} {lv' : List (Nat × Value)} (hX : Ok X cc own) (hd : decode cc pc = .ok (.dstore_n z, 1)) (hq : pc + 1 = q) (hz : (z : Nat) + 1 < nLx X) (hl' : ss2 lv z (.double x) = lv') (kk : Jg X k n S q lv' st) : Jg X k n S pc lv (.double x :: st) := by
  obtain ⟨p, l, e, R, s, m, args, below, meth, c, Q, D, E, sz, nL⟩ := X
  subst hq
  exact fun ls H locs hl hW hS => lv_dstore_n hX.1 hX.2.1 hd rfl hl hz hl' (fun ls' hl' => kk ls' H locs hl' hW hS)
theorem j_dstore {z : Nat} {x : UInt64} {lv' : List (Nat × Value)} (hX : Ok X cc own) (hd : decode cc pc = .ok (.dstore z, 2)) (hq : pc + 2 = q) (hz : z + 1 < nLx X) (hl' : ss2 lv z (.double x) = lv') (kk : Jg X k n S q lv' st) : Jg X k n S pc lv (.double x :: st) := by
  obtain ⟨p, l, e, R, s, m, args, below, meth, c, Q, D, E, sz, nL⟩ := X
  subst hq
  exact fun ls H locs hl hW hS => lv_dstore hX.1 hX.2.1 hd hl hz hl' (fun ls' hl' => kk ls' H locs hl' hW hS)
theorem j_aload_n {z : Fin 4} {x : Nat} (hX : Ok X cc own) (hd : decode cc pc = .ok (.aload_n z, 1)) (hq : pc + 1 = q) (hv : lk lv z = some (.ref x)) (kk : Jg X k n S q lv (.ref x :: st)) : Jg X k n S pc lv (st) := by
  obtain ⟨p, l, e, R, s, m, args, below, meth, c, Q, D, E, sz, nL⟩ := X
  subst hq
  exact fun ls H locs hl hW hS => lv_aload_n hX.1 hX.2.1 hd rfl (lk_at hl hv) (kk ls H locs hl hW hS)
theorem j_aload {z : Nat} {x : Nat} (hX : Ok X cc own) (hd : decode cc pc = .ok (.aload z, 2)) (hq : pc + 2 = q) (hv : lk lv z = some (.ref x)) (kk : Jg X k n S q lv (.ref x :: st)) : Jg X k n S pc lv (st) := by
  obtain ⟨p, l, e, R, s, m, args, below, meth, c, Q, D, E, sz, nL⟩ := X
  subst hq
  exact fun ls H locs hl hW hS => lv_aload hX.1 hX.2.1 hd (lk_at hl hv) (kk ls H locs hl hW hS)
theorem j_astore_n {z : Fin 4} {x : Nat} {lv' : List (Nat × Value)} (hX : Ok X cc own) (hd : decode cc pc = .ok (.astore_n z, 1)) (hq : pc + 1 = q) (hz : (z : Nat) < nLx X) (hl' : ss1 lv z (.ref x) = lv') (kk : Jg X k n S q lv' st) : Jg X k n S pc lv (.ref x :: st) := by
  obtain ⟨p, l, e, R, s, m, args, below, meth, c, Q, D, E, sz, nL⟩ := X
  subst hq
  exact fun ls H locs hl hW hS => lv_astore_n hX.1 hX.2.1 hd rfl hl hz hl' (fun ls' hl' => kk ls' H locs hl' hW hS)
theorem j_astore {z : Nat} {x : Nat} {lv' : List (Nat × Value)} (hX : Ok X cc own) (hd : decode cc pc = .ok (.astore z, 2)) (hq : pc + 2 = q) (hz : z < nLx X) (hl' : ss1 lv z (.ref x) = lv') (kk : Jg X k n S q lv' st) : Jg X k n S pc lv (.ref x :: st) := by
  obtain ⟨p, l, e, R, s, m, args, below, meth, c, Q, D, E, sz, nL⟩ := X
  subst hq
  exact fun ls H locs hl hW hS => lv_astore hX.1 hX.2.1 hd hl hz hl' (fun ls' hl' => kk ls' H locs hl' hW hS)
theorem j_aload_nN {z : Fin 4} (hX : Ok X cc own) (hd : decode cc pc = .ok (.aload_n z, 1)) (hq : pc + 1 = q) (hv : lk lv z = some .null) (kk : Jg X k n S q lv (.null :: st)) : Jg X k n S pc lv (st) := by
  obtain ⟨p, l, e, R, s, m, args, below, meth, c, Q, D, E, sz, nL⟩ := X
  subst hq
  exact fun ls H locs hl hW hS => lv_aload_nN hX.1 hX.2.1 hd rfl (lk_at hl hv) (kk ls H locs hl hW hS)
theorem j_aloadN {z : Nat} (hX : Ok X cc own) (hd : decode cc pc = .ok (.aload z, 2)) (hq : pc + 2 = q) (hv : lk lv z = some .null) (kk : Jg X k n S q lv (.null :: st)) : Jg X k n S pc lv (st) := by
  obtain ⟨p, l, e, R, s, m, args, below, meth, c, Q, D, E, sz, nL⟩ := X
  subst hq
  exact fun ls H locs hl hW hS => lv_aloadN hX.1 hX.2.1 hd (lk_at hl hv) (kk ls H locs hl hW hS)
theorem j_astore_nN {z : Fin 4} {lv' : List (Nat × Value)} (hX : Ok X cc own) (hd : decode cc pc = .ok (.astore_n z, 1)) (hq : pc + 1 = q) (hz : (z : Nat) < nLx X) (hl' : ss1 lv z .null = lv') (kk : Jg X k n S q lv' st) : Jg X k n S pc lv (.null :: st) := by
  obtain ⟨p, l, e, R, s, m, args, below, meth, c, Q, D, E, sz, nL⟩ := X
  subst hq
  exact fun ls H locs hl hW hS => lv_astore_nN hX.1 hX.2.1 hd rfl hl hz hl' (fun ls' hl' => kk ls' H locs hl' hW hS)
theorem j_astoreN {z : Nat} {lv' : List (Nat × Value)} (hX : Ok X cc own) (hd : decode cc pc = .ok (.astore z, 2)) (hq : pc + 2 = q) (hz : (z : Nat) < nLx X) (hl' : ss1 lv z .null = lv') (kk : Jg X k n S q lv' st) : Jg X k n S pc lv (.null :: st) := by
  obtain ⟨p, l, e, R, s, m, args, below, meth, c, Q, D, E, sz, nL⟩ := X
  subst hq
  exact fun ls H locs hl hW hS => lv_astoreN hX.1 hX.2.1 hd hl hz hl' (fun ls' hl' => kk ls' H locs hl' hW hS)
theorem j_iinc {z : Nat} {w : Int} {x v : Int32} {lv' : List (Nat × Value)} (hX : Ok X cc own) (hd : decode cc pc = .ok (.iinc z w, 3)) (hq : pc + 3 = q) (hx : lk lv z = some (.int x)) (hv : x + Int32.ofInt w = v) (hz : z < nLx X) (hl' : ss1 lv z (.int v) = lv') (kk : Jg X k n S q lv' st) : Jg X k n S pc lv st := by
  obtain ⟨p, l, e, R, s, m, args, below, meth, c, Q, D, E, sz, nL⟩ := X
  subst hq
  obtain ⟨kx, hkx⟩ := lk_ix hx
  exact fun ls H locs hl hW hS => lv_iinc hX.1 hX.2.1 hd hl hkx hv hz hl' (fun ls' hl' => kk ls' H locs hl' hW hS)
theorem j_iadd {x y : Int32} (hX : Ok X cc own) (hd : decode cc pc = .ok (.iadd, 1)) (hq : pc + 1 = q) (kk : Jg X k n S q lv (.int (x + y) :: st)) : Jg X k n S pc lv (.int y :: .int x :: st) := by
  obtain ⟨p, l, e, R, s, m, args, below, meth, c, Q, D, E, sz, nL⟩ := X
  subst hq
  exact fun ls H locs hl hW hS => lv_iadd hX.1 hX.2.1 hd (kk ls H locs hl hW hS)
theorem j_isub {x y : Int32} (hX : Ok X cc own) (hd : decode cc pc = .ok (.isub, 1)) (hq : pc + 1 = q) (kk : Jg X k n S q lv (.int (x - y) :: st)) : Jg X k n S pc lv (.int y :: .int x :: st) := by
  obtain ⟨p, l, e, R, s, m, args, below, meth, c, Q, D, E, sz, nL⟩ := X
  subst hq
  exact fun ls H locs hl hW hS => lv_isub hX.1 hX.2.1 hd (kk ls H locs hl hW hS)
theorem j_imul {x y : Int32} (hX : Ok X cc own) (hd : decode cc pc = .ok (.imul, 1)) (hq : pc + 1 = q) (kk : Jg X k n S q lv (.int (x * y) :: st)) : Jg X k n S pc lv (.int y :: .int x :: st) := by
  obtain ⟨p, l, e, R, s, m, args, below, meth, c, Q, D, E, sz, nL⟩ := X
  subst hq
  exact fun ls H locs hl hW hS => lv_imul hX.1 hX.2.1 hd (kk ls H locs hl hW hS)
theorem j_iand {x y : Int32} (hX : Ok X cc own) (hd : decode cc pc = .ok (.iand, 1)) (hq : pc + 1 = q) (kk : Jg X k n S q lv (.int (x &&& y) :: st)) : Jg X k n S pc lv (.int y :: .int x :: st) := by
  obtain ⟨p, l, e, R, s, m, args, below, meth, c, Q, D, E, sz, nL⟩ := X
  subst hq
  exact fun ls H locs hl hW hS => lv_iand hX.1 hX.2.1 hd (kk ls H locs hl hW hS)
theorem j_ior {x y : Int32} (hX : Ok X cc own) (hd : decode cc pc = .ok (.ior, 1)) (hq : pc + 1 = q) (kk : Jg X k n S q lv (.int (x ||| y) :: st)) : Jg X k n S pc lv (.int y :: .int x :: st) := by
  obtain ⟨p, l, e, R, s, m, args, below, meth, c, Q, D, E, sz, nL⟩ := X
  subst hq
  exact fun ls H locs hl hW hS => lv_ior hX.1 hX.2.1 hd (kk ls H locs hl hW hS)
theorem j_ixor {x y : Int32} (hX : Ok X cc own) (hd : decode cc pc = .ok (.ixor, 1)) (hq : pc + 1 = q) (kk : Jg X k n S q lv (.int (x ^^^ y) :: st)) : Jg X k n S pc lv (.int y :: .int x :: st) := by
  obtain ⟨p, l, e, R, s, m, args, below, meth, c, Q, D, E, sz, nL⟩ := X
  subst hq
  exact fun ls H locs hl hW hS => lv_ixor hX.1 hX.2.1 hd (kk ls H locs hl hW hS)
theorem j_ishl {x y : Int32} (hX : Ok X cc own) (hd : decode cc pc = .ok (.ishl, 1)) (hq : pc + 1 = q) (kk : Jg X k n S q lv (.int (x <<< (y &&& 31)) :: st)) : Jg X k n S pc lv (.int y :: .int x :: st) := by
  obtain ⟨p, l, e, R, s, m, args, below, meth, c, Q, D, E, sz, nL⟩ := X
  subst hq
  exact fun ls H locs hl hW hS => lv_ishl hX.1 hX.2.1 hd (kk ls H locs hl hW hS)
theorem j_ishr {x y : Int32} (hX : Ok X cc own) (hd : decode cc pc = .ok (.ishr, 1)) (hq : pc + 1 = q) (kk : Jg X k n S q lv (.int (x >>> (y &&& 31)) :: st)) : Jg X k n S pc lv (.int y :: .int x :: st) := by
  obtain ⟨p, l, e, R, s, m, args, below, meth, c, Q, D, E, sz, nL⟩ := X
  subst hq
  exact fun ls H locs hl hW hS => lv_ishr hX.1 hX.2.1 hd (kk ls H locs hl hW hS)
theorem j_idiv {x y : Int32} (hX : Ok X cc own) (hd : decode cc pc = .ok (.idiv, 1)) (hq : pc + 1 = q) (h0 : ¬ y = 0) (kk : Jg X k n S q lv (.int (x / y) :: st)) : Jg X k n S pc lv (.int y :: .int x :: st) := by
  obtain ⟨p, l, e, R, s, m, args, below, meth, c, Q, D, E, sz, nL⟩ := X
  subst hq
  exact fun ls H locs hl hW hS => lv_idiv hX.1 hX.2.1 hd h0 (kk ls H locs hl hW hS)
theorem j_irem {x y : Int32} (hX : Ok X cc own) (hd : decode cc pc = .ok (.irem, 1)) (hq : pc + 1 = q) (h0 : ¬ y = 0) (kk : Jg X k n S q lv (.int (x - x / y * y) :: st)) : Jg X k n S pc lv (.int y :: .int x :: st) := by
  obtain ⟨p, l, e, R, s, m, args, below, meth, c, Q, D, E, sz, nL⟩ := X
  subst hq
  exact fun ls H locs hl hW hS => lv_irem hX.1 hX.2.1 hd h0 (kk ls H locs hl hW hS)
theorem j_ineg {x : Int32} (hX : Ok X cc own) (hd : decode cc pc = .ok (.ineg, 1)) (hq : pc + 1 = q) (kk : Jg X k n S q lv (.int (-x) :: st)) : Jg X k n S pc lv (.int x :: st) := by
  obtain ⟨p, l, e, R, s, m, args, below, meth, c, Q, D, E, sz, nL⟩ := X
  subst hq
  exact fun ls H locs hl hW hS => lv_ineg hX.1 hX.2.1 hd (kk ls H locs hl hW hS)
theorem j_ladd {x y : Int64} (hX : Ok X cc own) (hd : decode cc pc = .ok (.ladd, 1)) (hq : pc + 1 = q) (kk : Jg X k n S q lv (.long (x + y) :: st)) : Jg X k n S pc lv (.long y :: .long x :: st) := by
  obtain ⟨p, l, e, R, s, m, args, below, meth, c, Q, D, E, sz, nL⟩ := X
  subst hq
  exact fun ls H locs hl hW hS => lv_ladd hX.1 hX.2.1 hd (kk ls H locs hl hW hS)
theorem j_lsub {x y : Int64} (hX : Ok X cc own) (hd : decode cc pc = .ok (.lsub, 1)) (hq : pc + 1 = q) (kk : Jg X k n S q lv (.long (x - y) :: st)) : Jg X k n S pc lv (.long y :: .long x :: st) := by
  obtain ⟨p, l, e, R, s, m, args, below, meth, c, Q, D, E, sz, nL⟩ := X
  subst hq
  exact fun ls H locs hl hW hS => lv_lsub hX.1 hX.2.1 hd (kk ls H locs hl hW hS)
theorem j_lmul {x y : Int64} (hX : Ok X cc own) (hd : decode cc pc = .ok (.lmul, 1)) (hq : pc + 1 = q) (kk : Jg X k n S q lv (.long (x * y) :: st)) : Jg X k n S pc lv (.long y :: .long x :: st) := by
  obtain ⟨p, l, e, R, s, m, args, below, meth, c, Q, D, E, sz, nL⟩ := X
  subst hq
  exact fun ls H locs hl hW hS => lv_lmul hX.1 hX.2.1 hd (kk ls H locs hl hW hS)
theorem j_land {x y : Int64} (hX : Ok X cc own) (hd : decode cc pc = .ok (.land, 1)) (hq : pc + 1 = q) (kk : Jg X k n S q lv (.long (x &&& y) :: st)) : Jg X k n S pc lv (.long y :: .long x :: st) := by
  obtain ⟨p, l, e, R, s, m, args, below, meth, c, Q, D, E, sz, nL⟩ := X
  subst hq
  exact fun ls H locs hl hW hS => lv_land hX.1 hX.2.1 hd (kk ls H locs hl hW hS)
theorem j_lor {x y : Int64} (hX : Ok X cc own) (hd : decode cc pc = .ok (.lor, 1)) (hq : pc + 1 = q) (kk : Jg X k n S q lv (.long (x ||| y) :: st)) : Jg X k n S pc lv (.long y :: .long x :: st) := by
  obtain ⟨p, l, e, R, s, m, args, below, meth, c, Q, D, E, sz, nL⟩ := X
  subst hq
  exact fun ls H locs hl hW hS => lv_lor hX.1 hX.2.1 hd (kk ls H locs hl hW hS)
theorem j_lxor {x y : Int64} (hX : Ok X cc own) (hd : decode cc pc = .ok (.lxor, 1)) (hq : pc + 1 = q) (kk : Jg X k n S q lv (.long (x ^^^ y) :: st)) : Jg X k n S pc lv (.long y :: .long x :: st) := by
  obtain ⟨p, l, e, R, s, m, args, below, meth, c, Q, D, E, sz, nL⟩ := X
  subst hq
  exact fun ls H locs hl hW hS => lv_lxor hX.1 hX.2.1 hd (kk ls H locs hl hW hS)
theorem j_lushr {x : Int64} {y : Int32} (hX : Ok X cc own) (hd : decode cc pc = .ok (.lushr, 1)) (hq : pc + 1 = q) (kk : Jg X k n S q lv (.long ((x.toUInt64 >>> (y.toInt64.toUInt64 &&& Int64.toUInt64 63)).toInt64) :: st)) : Jg X k n S pc lv (.int y :: .long x :: st) := by
  obtain ⟨p, l, e, R, s, m, args, below, meth, c, Q, D, E, sz, nL⟩ := X
  subst hq
  exact fun ls H locs hl hW hS => lv_lushr hX.1 hX.2.1 hd rfl (kk ls H locs hl hW hS)
theorem j_lshl {x : Int64} {y : Int32} (hX : Ok X cc own) (hd : decode cc pc = .ok (.lshl, 1)) (hq : pc + 1 = q) (kk : Jg X k n S q lv (.long (x <<< (y.toInt64 &&& 63)) :: st)) : Jg X k n S pc lv (.int y :: .long x :: st) := by
  obtain ⟨p, l, e, R, s, m, args, below, meth, c, Q, D, E, sz, nL⟩ := X
  subst hq
  exact fun ls H locs hl hW hS => lv_lshl hX.1 hX.2.1 hd rfl (kk ls H locs hl hW hS)
theorem j_i2l {x : Int32} (hX : Ok X cc own) (hd : decode cc pc = .ok (.i2l, 1)) (hq : pc + 1 = q) (kk : Jg X k n S q lv (.long x.toInt64 :: st)) : Jg X k n S pc lv (.int x :: st) := by
  obtain ⟨p, l, e, R, s, m, args, below, meth, c, Q, D, E, sz, nL⟩ := X
  subst hq
  exact fun ls H locs hl hW hS => lv_i2l hX.1 hX.2.1 hd rfl (kk ls H locs hl hW hS)
theorem j_l2i {x : Int64} (hX : Ok X cc own) (hd : decode cc pc = .ok (.l2i, 1)) (hq : pc + 1 = q) (kk : Jg X k n S q lv (.int x.toInt32 :: st)) : Jg X k n S pc lv (.long x :: st) := by
  obtain ⟨p, l, e, R, s, m, args, below, meth, c, Q, D, E, sz, nL⟩ := X
  subst hq
  exact fun ls H locs hl hW hS => lv_l2i hX.1 hX.2.1 hd rfl (kk ls H locs hl hW hS)
theorem j_lcmp {x y : Int64} (hX : Ok X cc own) (hd : decode cc pc = .ok (.lcmp, 1)) (hq : pc + 1 = q) (kk : Jg X k n S q lv (.int (lg_cmp x y) :: st)) : Jg X k n S pc lv (.long y :: .long x :: st) := by
  obtain ⟨p, l, e, R, s, m, args, below, meth, c, Q, D, E, sz, nL⟩ := X
  subst hq
  exact fun ls H locs hl hW hS => W.lcmp hX.1 hX.2.1 hd (kk ls H locs hl hW hS)
theorem j_dadd {x y : UInt64} (hX : Ok X cc own) (hd : decode cc pc = .ok (.dadd, 1)) (hq : pc + 1 = q) (hn : vf_n64 (FP.dadd x y)) (kk : Jg X k n S q lv (.double (FP.dadd x y) :: st)) : Jg X k n S pc lv (.double y :: .double x :: st) := by
  obtain ⟨p, l, e, R, s, m, args, below, meth, c, Q, D, E, sz, nL⟩ := X
  subst hq
  exact fun ls H locs hl hW hS => lv_dadd hX.1 hX.2.1 hd hn (kk ls H locs hl hW hS)
theorem j_dsub {x y : UInt64} (hX : Ok X cc own) (hd : decode cc pc = .ok (.dsub, 1)) (hq : pc + 1 = q) (hn : vf_n64 (FP.dsub x y)) (kk : Jg X k n S q lv (.double (FP.dsub x y) :: st)) : Jg X k n S pc lv (.double y :: .double x :: st) := by
  obtain ⟨p, l, e, R, s, m, args, below, meth, c, Q, D, E, sz, nL⟩ := X
  subst hq
  exact fun ls H locs hl hW hS => lv_dsub hX.1 hX.2.1 hd hn (kk ls H locs hl hW hS)
theorem j_dmul {x y : UInt64} (hX : Ok X cc own) (hd : decode cc pc = .ok (.dmul, 1)) (hq : pc + 1 = q) (hn : vf_n64 (FP.dmul x y)) (kk : Jg X k n S q lv (.double (FP.dmul x y) :: st)) : Jg X k n S pc lv (.double y :: .double x :: st) := by
  obtain ⟨p, l, e, R, s, m, args, below, meth, c, Q, D, E, sz, nL⟩ := X
  subst hq
  exact fun ls H locs hl hW hS => lv_dmul hX.1 hX.2.1 hd hn (kk ls H locs hl hW hS)
theorem j_ddiv {x y : UInt64} (hX : Ok X cc own) (hd : decode cc pc = .ok (.ddiv, 1)) (hq : pc + 1 = q) (hn : vf_n64 (FP.ddiv x y)) (kk : Jg X k n S q lv (.double (FP.ddiv x y) :: st)) : Jg X k n S pc lv (.double y :: .double x :: st) := by
  obtain ⟨p, l, e, R, s, m, args, below, meth, c, Q, D, E, sz, nL⟩ := X
  subst hq
  exact fun ls H locs hl hW hS => lv_ddiv hX.1 hX.2.1 hd hn (kk ls H locs hl hW hS)
theorem j_dneg {x : UInt64} (hX : Ok X cc own) (hd : decode cc pc = .ok (.dneg, 1)) (hq : pc + 1 = q) (kk : Jg X k n S q lv (.double (FP.dneg x) :: st)) : Jg X k n S pc lv (.double x :: st) := by
  obtain ⟨p, l, e, R, s, m, args, below, meth, c, Q, D, E, sz, nL⟩ := X
  subst hq
  exact fun ls H locs hl hW hS => lv_dneg hX.1 hX.2.1 hd (kk ls H locs hl hW hS)
theorem j_dcmp {x y : UInt64} {op : CmpOp} (hX : Ok X cc own) (hd : decode cc pc = .ok (.dcmp op, 1)) (hq : pc + 1 = q) (kk : Jg X k n S q lv (.int (Op.cmpValue (FP.dcmp x y) op) :: st)) : Jg X k n S pc lv (.double y :: .double x :: st) := by
  obtain ⟨p, l, e, R, s, m, args, below, meth, c, Q, D, E, sz, nL⟩ := X
  subst hq
  exact fun ls H locs hl hW hS => lv_dcmp hX.1 hX.2.1 hd (kk ls H locs hl hW hS)
theorem j_i2d {x : Int32} (hX : Ok X cc own) (hd : decode cc pc = .ok (.i2d, 1)) (hq : pc + 1 = q) (kk : Jg X k n S q lv (.double (FP.i2d x) :: st)) : Jg X k n S pc lv (.int x :: st) := by
  obtain ⟨p, l, e, R, s, m, args, below, meth, c, Q, D, E, sz, nL⟩ := X
  subst hq
  exact fun ls H locs hl hW hS => lv_i2d hX.1 hX.2.1 hd (kk ls H locs hl hW hS)
theorem j_l2d {x : Int64} (hX : Ok X cc own) (hd : decode cc pc = .ok (.l2d, 1)) (hq : pc + 1 = q) (kk : Jg X k n S q lv (.double (FP.l2d x) :: st)) : Jg X k n S pc lv (.long x :: st) := by
  obtain ⟨p, l, e, R, s, m, args, below, meth, c, Q, D, E, sz, nL⟩ := X
  subst hq
  exact fun ls H locs hl hW hS => lv_l2d hX.1 hX.2.1 hd (kk ls H locs hl hW hS)
theorem j_d2i {x : UInt64} (hX : Ok X cc own) (hd : decode cc pc = .ok (.d2i, 1)) (hq : pc + 1 = q) (kk : Jg X k n S q lv (.int (FP.d2i x) :: st)) : Jg X k n S pc lv (.double x :: st) := by
  obtain ⟨p, l, e, R, s, m, args, below, meth, c, Q, D, E, sz, nL⟩ := X
  subst hq
  exact fun ls H locs hl hW hS => lv_d2i hX.1 hX.2.1 hd (kk ls H locs hl hW hS)
theorem j_dup {a : Value} (hX : Ok X cc own) (hd : decode cc pc = .ok (.dup, 1)) (hq : pc + 1 = q) (h1 : a.category = 1) (kk : Jg X k n S q lv (a :: a :: st)) : Jg X k n S pc lv (a :: st) := by
  obtain ⟨p, l, e, R, s, m, args, below, meth, c, Q, D, E, sz, nL⟩ := X
  subst hq
  exact fun ls H locs hl hW hS => lv_dup hX.1 hX.2.1 hd h1 (kk ls H locs hl hW hS)
theorem j_pop {a : Value} (hX : Ok X cc own) (hd : decode cc pc = .ok (.pop, 1)) (hq : pc + 1 = q) (h1 : a.category = 1) (kk : Jg X k n S q lv (st)) : Jg X k n S pc lv (a :: st) := by
  obtain ⟨p, l, e, R, s, m, args, below, meth, c, Q, D, E, sz, nL⟩ := X
  subst hq
  exact fun ls H locs hl hW hS => lv_pop hX.1 hX.2.1 hd h1 (kk ls H locs hl hW hS)
theorem j_dup_x1 {a b : Value} (hX : Ok X cc own) (hd : decode cc pc = .ok (.dup_x1, 1)) (hq : pc + 1 = q) (h1 : a.category = 1) (h2 : b.category = 1) (kk : Jg X k n S q lv (a :: b :: a :: st)) : Jg X k n S pc lv (a :: b :: st) := by
  obtain ⟨p, l, e, R, s, m, args, below, meth, c, Q, D, E, sz, nL⟩ := X
  subst hq
  exact fun ls H locs hl hW hS => lv_dup_x1 hX.1 hX.2.1 hd h1 h2 (kk ls H locs hl hW hS)
theorem j_dup_x2 {a b d : Value} (hX : Ok X cc own) (hd : decode cc pc = .ok (.dup_x2, 1)) (hq : pc + 1 = q) (h1 : a.category = 1) (h2 : b.category = 1) (h3 : d.category = 1) (kk : Jg X k n S q lv (a :: b :: d :: a :: st)) : Jg X k n S pc lv (a :: b :: d :: st) := by
  obtain ⟨p, l, e, R, s, m, args, below, meth, c, Q, D, E, sz, nL⟩ := X
  subst hq
  exact fun ls H locs hl hW hS => lv_dup_x2 hX.1 hX.2.1 hd h1 h2 h3 (kk ls H locs hl hW hS)
theorem j_dup2_11 {a b : Value} (hX : Ok X cc own) (hd : decode cc pc = .ok (.dup2, 1)) (hq : pc + 1 = q) (h1 : a.category = 1) (h2 : b.category = 1) (kk : Jg X k n S q lv (a :: b :: a :: b :: st)) : Jg X k n S pc lv (a :: b :: st) := by
  obtain ⟨p, l, e, R, s, m, args, below, meth, c, Q, D, E, sz, nL⟩ := X
  subst hq
  exact fun ls H locs hl hW hS => lv_dup2_11 hX.1 hX.2.1 hd h1 h2 (kk ls H locs hl hW hS)
theorem j_dup2_2 {a : Value} (hX : Ok X cc own) (hd : decode cc pc = .ok (.dup2, 1)) (hq : pc + 1 = q) (h1 : a.category = 2) (kk : Jg X k n S q lv (a :: a :: st)) : Jg X k n S pc lv (a :: st) := by
  obtain ⟨p, l, e, R, s, m, args, below, meth, c, Q, D, E, sz, nL⟩ := X
  subst hq
  exact fun ls H locs hl hW hS => lv_dup2_2 hX.1 hX.2.1 hd h1 (kk ls H locs hl hW hS)
theorem j_if_eq {x : Int32} {off : Int} {tgt : Nat} (hX : Ok X cc own) (hd : decode cc pc = .ok (.ifCond .eq off, 3)) (hq : pc + 3 = q) (ht : (pc : Int) + off = (tgt : Int)) (kt : x = 0 → Jg X k n S tgt lv st) (kf : ¬ x = 0 → Jg X k n S q lv st) : Jg X k n S pc lv (.int x :: st) := by
  obtain ⟨p, l, e, R, s, m, args, below, meth, c, Q, D, E, sz, nL⟩ := X
  subst hq
  exact fun ls H locs hl hW hS => lv_if_eq hX.1 hX.2.1 hd ht (fun h => kt h ls H locs hl hW hS) (fun h => kf h ls H locs hl hW hS)
theorem j_icmp_eq {x y : Int32} {off : Int} {tgt : Nat} (hX : Ok X cc own) (hd : decode cc pc = .ok (.if_icmp .eq off, 3)) (hq : pc + 3 = q) (ht : (pc : Int) + off = (tgt : Int)) (kt : x = y → Jg X k n S tgt lv st) (kf : ¬ x = y → Jg X k n S q lv st) : Jg X k n S pc lv (.int y :: .int x :: st) := by
  obtain ⟨p, l, e, R, s, m, args, below, meth, c, Q, D, E, sz, nL⟩ := X
  subst hq
  exact fun ls H locs hl hW hS => lv_icmp_eq hX.1 hX.2.1 hd ht (fun h => kt h ls H locs hl hW hS) (fun h => kf h ls H locs hl hW hS)
theorem j_if_ne {x : Int32} {off : Int} {tgt : Nat} (hX : Ok X cc own) (hd : decode cc pc = .ok (.ifCond .ne off, 3)) (hq : pc + 3 = q) (ht : (pc : Int) + off = (tgt : Int)) (kt : ¬ x = 0 → Jg X k n S tgt lv st) (kf : x = 0 → Jg X k n S q lv st) : Jg X k n S pc lv (.int x :: st) := by
  obtain ⟨p, l, e, R, s, m, args, below, meth, c, Q, D, E, sz, nL⟩ := X
  subst hq
  exact fun ls H locs hl hW hS => lv_if_ne hX.1 hX.2.1 hd ht (fun h => kt h ls H locs hl hW hS) (fun h => kf h ls H locs hl hW hS)
theorem j_icmp_ne {x y : Int32} {off : Int} {tgt : Nat} (hX : Ok X cc own) (hd : decode cc pc = .ok (.if_icmp .ne off, 3)) (hq : pc + 3 = q) (ht : (pc : Int) + off = (tgt : Int)) (kt : ¬ x = y → Jg X k n S tgt lv st) (kf : x = y → Jg X k n S q lv st) : Jg X k n S pc lv (.int y :: .int x :: st) := by
  obtain ⟨p, l, e, R, s, m, args, below, meth, c, Q, D, E, sz, nL⟩ := X
  subst hq
  exact fun ls H locs hl hW hS => lv_icmp_ne hX.1 hX.2.1 hd ht (fun h => kt h ls H locs hl hW hS) (fun h => kf h ls H locs hl hW hS)
theorem j_if_lt {x : Int32} {off : Int} {tgt : Nat} (hX : Ok X cc own) (hd : decode cc pc = .ok (.ifCond .lt off, 3)) (hq : pc + 3 = q) (ht : (pc : Int) + off = (tgt : Int)) (kt : x < 0 → Jg X k n S tgt lv st) (kf : ¬ x < 0 → Jg X k n S q lv st) : Jg X k n S pc lv (.int x :: st) := by
  obtain ⟨p, l, e, R, s, m, args, below, meth, c, Q, D, E, sz, nL⟩ := X
  subst hq
  exact fun ls H locs hl hW hS => lv_if_lt hX.1 hX.2.1 hd ht (fun h => kt h ls H locs hl hW hS) (fun h => kf h ls H locs hl hW hS)
theorem j_icmp_lt {x y : Int32} {off : Int} {tgt : Nat} (hX : Ok X cc own) (hd : decode cc pc = .ok (.if_icmp .lt off, 3)) (hq : pc + 3 = q) (ht : (pc : Int) + off = (tgt : Int)) (kt : x < y → Jg X k n S tgt lv st) (kf : ¬ x < y → Jg X k n S q lv st) : Jg X k n S pc lv (.int y :: .int x :: st) := by
  obtain ⟨p, l, e, R, s, m, args, below, meth, c, Q, D, E, sz, nL⟩ := X
  subst hq
  exact fun ls H locs hl hW hS => lv_icmp_lt hX.1 hX.2.1 hd ht (fun h => kt h ls H locs hl hW hS) (fun h => kf h ls H locs hl hW hS)
theorem j_if_ge {x : Int32} {off : Int} {tgt : Nat} (hX : Ok X cc own) (hd : decode cc pc = .ok (.ifCond .ge off, 3)) (hq : pc + 3 = q) (ht : (pc : Int) + off = (tgt : Int)) (kt : 0 ≤ x → Jg X k n S tgt lv st) (kf : ¬ 0 ≤ x → Jg X k n S q lv st) : Jg X k n S pc lv (.int x :: st) := by
  obtain ⟨p, l, e, R, s, m, args, below, meth, c, Q, D, E, sz, nL⟩ := X
  subst hq
  exact fun ls H locs hl hW hS => lv_if_ge hX.1 hX.2.1 hd ht (fun h => kt h ls H locs hl hW hS) (fun h => kf h ls H locs hl hW hS)
theorem j_icmp_ge {x y : Int32} {off : Int} {tgt : Nat} (hX : Ok X cc own) (hd : decode cc pc = .ok (.if_icmp .ge off, 3)) (hq : pc + 3 = q) (ht : (pc : Int) + off = (tgt : Int)) (kt : y ≤ x → Jg X k n S tgt lv st) (kf : ¬ y ≤ x → Jg X k n S q lv st) : Jg X k n S pc lv (.int y :: .int x :: st) := by
  obtain ⟨p, l, e, R, s, m, args, below, meth, c, Q, D, E, sz, nL⟩ := X
  subst hq
  exact fun ls H locs hl hW hS => lv_icmp_ge hX.1 hX.2.1 hd ht (fun h => kt h ls H locs hl hW hS) (fun h => kf h ls H locs hl hW hS)
theorem j_if_gt {x : Int32} {off : Int} {tgt : Nat} (hX : Ok X cc own) (hd : decode cc pc = .ok (.ifCond .gt off, 3)) (hq : pc + 3 = q) (ht : (pc : Int) + off = (tgt : Int)) (kt : 0 < x → Jg X k n S tgt lv st) (kf : ¬ 0 < x → Jg X k n S q lv st) : Jg X k n S pc lv (.int x :: st) := by
  obtain ⟨p, l, e, R, s, m, args, below, meth, c, Q, D, E, sz, nL⟩ := X
  subst hq
  exact fun ls H locs hl hW hS => lv_if_gt hX.1 hX.2.1 hd ht (fun h => kt h ls H locs hl hW hS) (fun h => kf h ls H locs hl hW hS)
theorem j_icmp_gt {x y : Int32} {off : Int} {tgt : Nat} (hX : Ok X cc own) (hd : decode cc pc = .ok (.if_icmp .gt off, 3)) (hq : pc + 3 = q) (ht : (pc : Int) + off = (tgt : Int)) (kt : y < x → Jg X k n S tgt lv st) (kf : ¬ y < x → Jg X k n S q lv st) : Jg X k n S pc lv (.int y :: .int x :: st) := by
  obtain ⟨p, l, e, R, s, m, args, below, meth, c, Q, D, E, sz, nL⟩ := X
  subst hq
  exact fun ls H locs hl hW hS => lv_icmp_gt hX.1 hX.2.1 hd ht (fun h => kt h ls H locs hl hW hS) (fun h => kf h ls H locs hl hW hS)
theorem j_if_le {x : Int32} {off : Int} {tgt : Nat} (hX : Ok X cc own) (hd : decode cc pc = .ok (.ifCond .le off, 3)) (hq : pc + 3 = q) (ht : (pc : Int) + off = (tgt : Int)) (kt : x ≤ 0 → Jg X k n S tgt lv st) (kf : ¬ x ≤ 0 → Jg X k n S q lv st) : Jg X k n S pc lv (.int x :: st) := by
  obtain ⟨p, l, e, R, s, m, args, below, meth, c, Q, D, E, sz, nL⟩ := X
  subst hq
  exact fun ls H locs hl hW hS => lv_if_le hX.1 hX.2.1 hd ht (fun h => kt h ls H locs hl hW hS) (fun h => kf h ls H locs hl hW hS)
theorem j_icmp_le {x y : Int32} {off : Int} {tgt : Nat} (hX : Ok X cc own) (hd : decode cc pc = .ok (.if_icmp .le off, 3)) (hq : pc + 3 = q) (ht : (pc : Int) + off = (tgt : Int)) (kt : x ≤ y → Jg X k n S tgt lv st) (kf : ¬ x ≤ y → Jg X k n S q lv st) : Jg X k n S pc lv (.int y :: .int x :: st) := by
  obtain ⟨p, l, e, R, s, m, args, below, meth, c, Q, D, E, sz, nL⟩ := X
  subst hq
  exact fun ls H locs hl hW hS => lv_icmp_le hX.1 hX.2.1 hd ht (fun h => kt h ls H locs hl hW hS) (fun h => kf h ls H locs hl hW hS)
theorem j_goto {off : Int} {tgt : Nat} (hX : Ok X cc own) (hd : decode cc pc = .ok (.goto off, 3)) (ht : (pc : Int) + off = (tgt : Int)) (kk : Jg X k n S tgt lv st) : Jg X k n S pc lv st := by
  obtain ⟨p, l, e, R, s, m, args, below, meth, c, Q, D, E, sz, nL⟩ := X
  exact fun ls H locs hl hW hS => lv_goto hX.1 hX.2.1 hd ht (kk ls H locs hl hW hS)
theorem j_ifnonnull {x : Nat} {off : Int} {tgt : Nat} (hX : Ok X cc own) (hd : decode cc pc = .ok (.ifnonnull off, 3)) (ht : (pc : Int) + off = (tgt : Int)) (kk : Jg X k n S tgt lv st) : Jg X k n S pc lv (.ref x :: st) := by
  obtain ⟨p, l, e, R, s, m, args, below, meth, c, Q, D, E, sz, nL⟩ := X
  exact fun ls H locs hl hW hS => lv_ifnonnull hX.1 hX.2.1 hd ht (kk ls H locs hl hW hS)
theorem j_ifnullN {off : Int} {tgt : Nat} (hX : Ok X cc own) (hd : decode cc pc = .ok (.ifnull off, 3)) (ht : (pc : Int) + off = (tgt : Int)) (kk : Jg X k n S tgt lv st) : Jg X k n S pc lv (.null :: st) := by
  obtain ⟨p, l, e, R, s, m, args, below, meth, c, Q, D, E, sz, nL⟩ := X
  exact fun ls H locs hl hW hS => lv_ifnullN hX.1 hX.2.1 hd ht (kk ls H locs hl hW hS)
theorem j_ifnull {x : Nat} {off : Int} (hX : Ok X cc own) (hd : decode cc pc = .ok (.ifnull off, 3)) (hq : pc + 3 = q) (kk : Jg X k n S q lv (st)) : Jg X k n S pc lv (.ref x :: st) := by
  obtain ⟨p, l, e, R, s, m, args, below, meth, c, Q, D, E, sz, nL⟩ := X
  subst hq
  exact fun ls H locs hl hW hS => lv_ifnull hX.1 hX.2.1 hd (kk ls H locs hl hW hS)
theorem j_ifnonnullN {off : Int} (hX : Ok X cc own) (hd : decode cc pc = .ok (.ifnonnull off, 3)) (hq : pc + 3 = q) (kk : Jg X k n S q lv (st)) : Jg X k n S pc lv (.null :: st) := by
  obtain ⟨p, l, e, R, s, m, args, below, meth, c, Q, D, E, sz, nL⟩ := X
  subst hq
  exact fun ls H locs hl hW hS => lv_ifnonnullN hX.1 hX.2.1 hd (kk ls H locs hl hW hS)
theorem j_acmp_eq {rx ry : Option Nat} {vx vy : Value} {off : Int} {tgt : Nat} (hX : Ok X cc own) (hd : decode cc pc = .ok (.if_acmp .eq off, 3)) (hq : pc + 3 = q) (ht : (pc : Int) + off = (tgt : Int)) (hx : vx = va_rf rx) (hy : vy = va_rf ry) (kt : rx = ry → Jg X k n S tgt lv st) (kf : ¬ rx = ry → Jg X k n S q lv st) : Jg X k n S pc lv (vy :: vx :: st) := by
  obtain ⟨p, l, e, R, s, m, args, below, meth, c, Q, D, E, sz, nL⟩ := X
  subst hq
  subst hx
  subst hy
  exact fun ls H locs hl hW hS => lv_acmp_eq hX.1 hX.2.1 hd ht (fun h => kt h ls H locs hl hW hS) (fun h => kf h ls H locs hl hW hS)
theorem j_acmp_ne {rx ry : Option Nat} {vx vy : Value} {off : Int} {tgt : Nat} (hX : Ok X cc own) (hd : decode cc pc = .ok (.if_acmp .ne off, 3)) (hq : pc + 3 = q) (ht : (pc : Int) + off = (tgt : Int)) (hx : vx = va_rf rx) (hy : vy = va_rf ry) (kt : ¬ rx = ry → Jg X k n S tgt lv st) (kf : rx = ry → Jg X k n S q lv st) : Jg X k n S pc lv (vy :: vx :: st) := by
  obtain ⟨p, l, e, R, s, m, args, below, meth, c, Q, D, E, sz, nL⟩ := X
  subst hq
  subst hx
  subst hy
  exact fun ls H locs hl hW hS => lv_acmp_ne hX.1 hX.2.1 hd ht (fun h => kt h ls H locs hl hW hS) (fun h => kf h ls H locs hl hW hS)
theorem j_tableIn {dflt lo hi : Int} {offs : Array Int} {len : Nat} {x : Int32} {off : Int} {tgt : Nat} (hX : Ok X cc own) (hd : decode cc pc = .ok (.tableswitch dflt lo hi offs, len)) (h1 : ¬ x.toInt < lo) (h2 : ¬ hi < x.toInt) (ho : offs[(x.toInt - lo).toNat]? = some off) (ht : (pc : Int) + off = (tgt : Int)) (kk : Jg X k n S tgt lv st) : Jg X k n S pc lv (.int x :: st) := by
  obtain ⟨p, l, e, R, s, m, args, below, meth, c, Q, D, E, sz, nL⟩ := X
  exact fun ls H locs hl hW hS => lv_tableIn hX.1 hX.2.1 hd h1 h2 ho ht (kk ls H locs hl hW hS)
theorem j_tableOut {dflt lo hi : Int} {offs : Array Int} {len : Nat} {x : Int32} {tgt : Nat} (hX : Ok X cc own) (hd : decode cc pc = .ok (.tableswitch dflt lo hi offs, len)) (h1 : x.toInt < lo ∨ hi < x.toInt) (ht : (pc : Int) + dflt = (tgt : Int)) (kk : Jg X k n S tgt lv st) : Jg X k n S pc lv (.int x :: st) := by
  obtain ⟨p, l, e, R, s, m, args, below, meth, c, Q, D, E, sz, nL⟩ := X
  exact fun ls H locs hl hW hS => lv_tableOut hX.1 hX.2.1 hd h1 ht (kk ls H locs hl hW hS)
end JR
