theorem sA_new {S : St} {x a z h : Nat} (hh : sC S x = h) : sA (nO S x a z) x h = a := by subst hh; exact u2_self
theorem sX_I {S : St} {x a z : Nat} (ht : kn_t x 0 = 0 ∨ kn_t x 0 = 4) : sX (nO S x a z) x (sC S x) = .inl (fun _ => 0) := by
  unfold sX
  rcases ht with h | h <;> (rw [h]; show Sum.inl (sI (nO S x a z) x (sC S x)) = _; rw [show sI (nO S x a z) x (sC S x) = (fun _ => 0) from u2_self])
theorem sX_J {S : St} {x a z : Nat} (ht : kn_t x 0 = 1) : sX (nO S x a z) x (sC S x) = .inr (.inl (fun _ => 0)) := by
  unfold sX
  rw [ht]
  show (Sum.inr (Sum.inl (sJ (nO S x a z) x (sC S x))) : sXt) = _
  rw [show sJ (nO S x a z) x (sC S x) = (fun _ => 0) from u2_self]
theorem sX_D {S : St} {x a z : Nat} (ht : kn_t x 0 = 2) : sX (nO S x a z) x (sC S x) = .inr (.inr (.inr (.inl (fun _ => 0)))) := by
  unfold sX
  rw [ht]
  show (Sum.inr (Sum.inr (Sum.inr (Sum.inl (sD (nO S x a z) x (sC S x))))) : sXt) = _
  rw [show sD (nO S x a z) x (sC S x) = (fun _ => 0) from u2_self]
section SN2
variable {X : Cx} {k n : Nat} {S : St} {pc q : Nat} {lv : List (Nat × Value)} {st : List Value} {cc : ByteArray} {own : String} {C : String} {T : u_T} {N x ix h : Nat} {ty : Nat → FieldType} {w : Int32}
theorem j_newh (hX : Ok X cc own) (hK : CK (kn_c x) C T N ty) (hd : decode cc pc = .ok (.new ix, 3)) (hq : pc + 3 = q) (hcl : Cond.classLink own ix C ∈ BIG) (hins : Cond.instantiable C N ∈ BIG) (hini : Cond.initialized C ∈ BIG) (hx : kn_a x = false) (hN : kn_n x = N) (hdv : ∀ j, j < N → defaultValue (ty j) = dv (kn_t x j)) (hR : k + 1 ≤ (rx X).cells ∧ n + N ≤ (rx X).slots) (hh : sC S x = h) (kk : ∀ a : Nat, Jg X (k + 1) (n + N) (nO S x a 0) q lv (.ref (sA (nO S x a 0) x h) :: st)) : Jg X k n S pc lv st :=
  j_new hX hK hd hq hcl hins hini hx hN hdv hR (fun a => by have g := kk a; rw [sA_new hh] at g; exact g)
theorem j_newah {z c0 : Nat} {atype : ArrayType} {fty : FieldType} {row : sXt} (hX : Ok X cc own) (hd : decode cc pc = .ok (.newarray atype, 2)) (hq : pc + 2 = q) (harr : Cond.arrayClass (newarray.typeOf atype) ∈ BIG) (hty : newarray.typeOf atype = fty) (hx : kn_a x = true) (hc : kn_c x = c0) (hE : ∀ E : Nat → ClassId, (tyE E)[c0]? = some (E c0, fty)) (hrow : ∀ a, sX (nO S x a z) x (sC S x) = row) (hcell : ∀ cA : ClassId, vp_cell cA (z, row) = arrV cA z (fun _ => defaultValue fty)) (hw : w = nI z) (hz : z < 65536) (hbytes : componentBytes fty ≤ 8) (hR : k + 1 ≤ (rx X).cells ∧ n + z ≤ (rx X).slots) (hh : sC S x = h) (kk : ∀ a : Nat, Jg X (k + 1) (n + z) (nO S x a z) q lv (.ref (sA (nO S x a z) x h) :: st)) : Jg X k n S pc lv (.int w :: st) :=
  j_newa hX hd hq harr hty hx hc hE hrow hcell hw hz hbytes hR (fun a => by have g := kk a; rw [sA_new hh] at g; exact g)
theorem j_newqh {z c0 : Nat} {C : String} (hX : Ok X cc own) (hd : decode cc pc = .ok (.anewarray ix, 3)) (hq : pc + 3 = q) (hcl : Cond.classLink own ix C ∈ BIG) (hAO : ∀ D E U, Kw D E U → va_AO C U) (hx : kn_a x = true) (hc : kn_c x = c0) (hE : ∀ E : Nat → ClassId, (tyE E)[c0]? = some (E c0, .object C)) (ht : kn_t x 0 = 3) (hw : w = nI z) (hz : z < 65536) (hR : k + 1 ≤ (rx X).cells ∧ n + z ≤ (rx X).slots) (hh : sC S x = h) (kk : ∀ a : Nat, Jg X (k + 1) (n + z) (nO S x a z) q lv (.ref (sA (nO S x a z) x h) :: st)) : Jg X k n S pc lv (.int w :: st) :=
  j_newq hX hd hq hcl hAO hx hc hE ht hw hz hR (fun a => by have g := kk a; rw [sA_new hh] at g; exact g)
end SN2
/-! what a call of the class leaves of the reference: all -/
theorem mk_ne {a k : Nat} (h : mkb k = false) : ¬ mk a = k := fun q => by
  have := mkb_mk a
  rw [q, h] at this
  cases this
theorem rd_I {S : St} {k i j : Nat} {v : Int32} (h : mkb k = false) : rd (pI S k i j v) = rd S := by
  show (fun a z => u3 (sI S) k i j v (mk a) 0 z, _, _) = (_, _, _)
  rw [show (fun a z => u3 (sI S) k i j v (mk a) 0 z) = fun a z => sI S (mk a) 0 z from funext fun a => funext fun z => u3_ne (fun q => mk_ne h q.1)]
  rfl
theorem rd_J {S : St} {k i j : Nat} {v : Int64} (h : mkb k = false) : rd (pJ S k i j v) = rd S := by
  show (_, fun a z => u3 (sJ S) k i j v (mk a) 0 z, _) = (_, _, _)
  rw [show (fun a z => u3 (sJ S) k i j v (mk a) 0 z) = fun a z => sJ S (mk a) 0 z from funext fun a => funext fun z => u3_ne (fun q => mk_ne h q.1)]
  rfl
theorem rd_D {S : St} {k i j : Nat} {v : UInt64} (h : mkb k = false) : rd (pD S k i j v) = rd S := by
  show (_, _, fun a z => u3 (sD S) k i j v (mk a) 0 z) = (_, _, _)
  rw [show (fun a z => u3 (sD S) k i j v (mk a) 0 z) = fun a z => sD S (mk a) 0 z from funext fun a => funext fun z => u3_ne (fun q => mk_ne h q.1)]
  rfl
theorem rd_nO {S : St} {k a z : Nat} (h : mkb k = false) : rd (nO S k a z) = rd S := by
  show (fun b y => u2 (sI S) k (sC S k) (fun _ => 0) (mk b) 0 y, fun b y => u2 (sJ S) k (sC S k) (fun _ => 0) (mk b) 0 y, fun b y => u2 (sD S) k (sC S k) (fun _ => 0) (mk b) 0 y) = (_, _, _)
  rw [show (fun b y => u2 (sI S) k (sC S k) (fun _ => 0) (mk b) 0 y) = fun b y => sI S (mk b) 0 y from funext fun b => funext fun y => congrFun (u2_ne (fun q => mk_ne h q.1)) y, show (fun b y => u2 (sJ S) k (sC S k) (fun _ => 0) (mk b) 0 y) = fun b y => sJ S (mk b) 0 y from funext fun b => funext fun y => congrFun (u2_ne (fun q => mk_ne h q.1)) y, show (fun b y => u2 (sD S) k (sC S k) (fun _ => 0) (mk b) 0 y) = fun b y => sD S (mk b) 0 y from funext fun b => funext fun y => congrFun (u2_ne (fun q => mk_ne h q.1)) y]
theorem MSh.new {S : St} {k a z : Nat} (m : MSh S) (h : k < 20) (h1 : k ≠ 10) : MSh (nO S k a z) := by
  obtain ⟨m1, m2, m3, m4⟩ := m
  have eC : ∀ y, y ≠ k → sC (nO S k a z) y = sC S y := fun y hy => va_up_ne _ _ hy
  refine ⟨by rw [eC 10 (by omega)]; exact m1, fun y h2 h3 => by rw [eC y (by omega)]; exact m2 y h2 h3, fun j hj => ?_, fun y h2 h3 => ?_⟩
  · rw [show sR (nO S k a z) 10 0 = sR S 10 0 from u2_ne (by omega)]
    exact m3 j hj
  · rw [show sN (nO S k a z) y 0 = sN S y 0 from u2_ne (by omega)]
    exact m4 y h2 h3
theorem MSh.R {S : St} {k i j : Nat} {v : Option Nat} (m : MSh S) (h1 : k ≠ 10) : MSh (pR S k i j v) := by
  obtain ⟨m1, m2, m3, m4⟩ := m
  exact ⟨m1, m2, fun z hz => (show u3 (sR S) k i j v 10 0 z = _ from (u3_ne (by omega)).trans (m3 z hz)), m4⟩
def Xw (S S' : St) : Prop := rd S' = rd S ∧ (MSh S → MSh S') ∧ sA S' 9 0 = sA S 9 0 ∧ sA S' 10 0 = sA S 10 0
theorem Xw.rf {S : St} : Xw S S := ⟨rfl, id, rfl, rfl⟩
theorem Xw.tr {S T U : St} (h : Xw S T) (g : Xw T U) : Xw S U := ⟨g.1.trans h.1, fun m => g.2.1 (h.2.1 m), g.2.2.1.trans h.2.2.1, g.2.2.2.trans h.2.2.2⟩
theorem Xw.I {S T : St} {k i j : Nat} {v : Int32} (h : Xw S T) (hk : mkb k = false) : Xw S (pI T k i j v) := h.tr ⟨rd_I hk, id, rfl, rfl⟩
theorem Xw.J {S T : St} {k i j : Nat} {v : Int64} (h : Xw S T) (hk : mkb k = false) : Xw S (pJ T k i j v) := h.tr ⟨rd_J hk, id, rfl, rfl⟩
theorem Xw.D {S T : St} {k i j : Nat} {v : UInt64} (h : Xw S T) (hk : mkb k = false) : Xw S (pD T k i j v) := h.tr ⟨rd_D hk, id, rfl, rfl⟩
theorem Xw.R {S T : St} {k i j : Nat} {v : Option Nat} (h : Xw S T) (hk : k ≠ 10) : Xw S (pR T k i j v) := h.tr ⟨rfl, fun m => m.R hk, rfl, rfl⟩
theorem Xw.new {S T : St} {k a z : Nat} (h : Xw S T) (hk : k < 20) (h1 : k ≠ 10) (h2 : k ≠ 9) (hm : mkb k = false) : Xw S (nO T k a z) := h.tr ⟨rd_nO hm, fun m => m.new hk h1, u2_ne (fun q => h2 q.1.symm), u2_ne (fun q => h1 q.1.symm)⟩
theorem Sw.x {S T : St} (h : Sw S T) : Xw S T := by
  refine ⟨h.rds, fun m => ?_, by rw [h.2.1], by rw [h.2.1]⟩
  obtain ⟨m1, m2, m3, m4⟩ := m
  exact ⟨by rw [h.1]; exact m1, by rw [h.1]; exact m2, fun j hj => by rw [h.2.2.2.2.2.2 10 0 j (by omega)]; exact m3 j hj, by rw [h.2.2.1]; exact m4⟩
/-! doubles within their bounds -/
theorem wi_key {v a b : UInt64} (h : ¬ wi v a b = 0) (ha : dOk a) (hb : dOk b) : dOk v ∧ FP.Core.dkey a ≤ FP.Core.dkey v ∧ FP.Core.dkey v ≤ FP.Core.dkey b := by
  have hv := wi_ok h
  have e1 : FP.dcmp v a = some (compare (FP.Core.dkey v) (FP.Core.dkey a)) := FP.Core.dcmp_key hv ha
  have e2 : FP.dcmp v b = some (compare (FP.Core.dkey v) (FP.Core.dkey b)) := FP.Core.dcmp_key hv hb
  unfold wi at h
  rw [e1, e2] at h
  refine ⟨hv, ?_, ?_⟩
  · apply Decidable.byContradiction
    intro q
    have : compare (FP.Core.dkey v) (FP.Core.dkey a) = .lt := (FP.Core.compare_lt_iff _ _).mpr (by omega)
    rw [this] at h
    exact h (if_pos (by decide))
  · apply Decidable.byContradiction
    intro q
    have : compare (FP.Core.dkey v) (FP.Core.dkey b) = .gt := (FP.Core.compare_gt_iff _ _).mpr (by omega)
    rw [this] at h
    exact h (by rw [if_pos (show 0 < Op.cmpValue (some Ordering.gt) .g by decide)]; split <;> rfl)
/-- between two bounds that aren't below zero -/
theorem wi_mag {v a b : UInt64} (h : ¬ wi v a b = 0) (ha : dOk a) (hb : dOk b) (h1 : a.toNat < 2 ^ 63) (h2 : b.toNat < 2 ^ 63) : a.toNat ≤ v.toNat % 2 ^ 63 ∧ v.toNat % 2 ^ 63 ≤ b.toNat ∧ (v.toNat < 2 ^ 63 ∨ v.toNat % 2 ^ 63 = 0) := by
  obtain ⟨-, g1, g2⟩ := wi_key h ha hb
  have hv := v.toNat_lt
  unfold FP.Core.dkey at g1 g2
  split at g1 <;> split at g1 <;> split at g2 <;> split at g2 <;> omega
theorem ok_b {x : UInt64} (h : zB x = true) : dOk x := (dNz_of h).fin.ok
theorem ok_0 : dOk FP.dconst0 := nn_0.ok
theorem nz_of {v : UInt64} (h1 : 0 < v.toNat % 2 ^ 63) (h2 : v.toNat % 2 ^ 63 < 2047 * 2 ^ 52) : dNz v := by
  obtain ⟨s, c, q, e⟩ := FP.Core.fin_of_lt (a := v) (K := 2047) h2 (Nat.le_refl _)
  refine ⟨s, c, q, e, fun z => ?_⟩
  subst z
  have := (FP.Core.zero_bits2 v).mp ⟨s, q, e⟩
  omega
theorem len_nz {v : UInt64} (h : ¬ wi v 4602678819172646912 4652007308841189376 = 0) : dNz v := by
  obtain ⟨g1, g2, -⟩ := wi_mag h (ok_b (by decide +kernel)) (ok_b (by decide +kernel)) (by decide) (by decide)
  have e1 : (4602678819172646912 : UInt64).toNat = 4602678819172646912 := rfl
  have e2 : (4652007308841189376 : UInt64).toNat = 4652007308841189376 := rfl
  exact nz_of (by omega) (by omega)
theorem fn_10 {v : UInt64} (h : ¬ wi v FP.dconst0 4621819117588971520 = 0) : dFn v ∧ v.toNat % 2 ^ 63 < 1027 * 2 ^ 52 := by
  obtain ⟨g1, g2, g3⟩ := wi_mag h ok_0 (ok_b (by decide +kernel)) (by decide) (by decide)
  have e2 : (4621819117588971520 : UInt64).toNat = 4621819117588971520 := rfl
  refine ⟨?_, by omega⟩
  obtain ⟨s, c, q, e⟩ := FP.Core.fin_of_lt (a := v) (K := 2047) (by omega) (Nat.le_refl _)
  refine ⟨s, c, q, e, ?_⟩
  rcases g3 with g3 | g3
  · left
    have e3 : FP.Core.val64 v = FP.Core.decode FP.Core.b64 v.toNat := rfl
    rw [e3] at e
    have hs : FP.Core.fieldS FP.Core.b64 v.toNat = false := by
      have e4 : FP.Core.fieldS FP.Core.b64 v.toNat = (v.toNat / 4503599627370496 / 2048 % 2 == 1) := rfl
      rw [e4, show v.toNat / 4503599627370496 / 2048 % 2 = 0 by omega]
      rfl
    unfold FP.Core.decode at e
    rw [hs] at e
    split at e
    · split at e <;> cases e
    · split at e <;> (injection e with e1 e2 e3; exact e1.symm)
  · right
    obtain ⟨s', q', e'⟩ := (FP.Core.zero_bits2 v).mpr g3
    rw [e'] at e
    injection e with e1 e2 e3
    exact e2.symm
theorem pk_ok {rate tires : UInt64} (h1 : ¬ wi rate 4593671619917905920 4636737291354636288 = 0) (h2 : ¬ wi tires FP.dconst0 4621819117588971520 = 0) (w : Nat) : PkOk rate tires (nI w) := by
  obtain ⟨g1, g2, -⟩ := wi_mag h1 (ok_b (by decide +kernel)) (ok_b (by decide +kernel)) (by decide) (by decide)
  have e1 : (4593671619917905920 : UInt64).toNat = 4593671619917905920 := rfl
  have e2 : (4636737291354636288 : UInt64).toNat = 4636737291354636288 := rfl
  obtain ⟨t1, t2⟩ := fn_10 h2
  have hm := FP.Core.dmul_mag (a := tires) (b := FP.i2d (nI w)) t2 (FP.Core.i2d_mag (nI w)) (by decide) (by decide)
  have h1' : (FP.dconst1).toNat % 2 ^ 63 < 1061 * 2 ^ 52 := by decide +kernel
  have ha := FP.Core.dadd_mag (a := FP.dconst1) (b := FP.dmul tires (FP.i2d (nI w))) h1' hm (by decide)
  have hd := FP.Core.ddiv_mag (a := 4621819117588971520) (b := rate) (K := 1027) (L := 1020) (by decide +kernel) (by omega) (by omega) (by decide) (by decide)
  have f1 : dFin (FP.ddiv 4621819117588971520 rate) := FP.Core.fin_of_lt hd (by decide)
  have f2 : dFin (FP.dmul tires (FP.i2d (nI w))) := FP.Core.fin_of_lt hm (by decide)
  have f3 : dFin (FP.dadd FP.dconst1 (FP.dmul tires (FP.i2d (nI w)))) := FP.Core.fin_of_lt ha (by decide)
  exact ⟨n64_of f1.ok, n64_of f2.ok, n64_of f3.ok, n64_of (dmul_okf f1 f3)⟩
theorem wi_int (t : Int32) : wi (FP.i2d t) FP.dconst1 4652007308841189376 = if t < 1 then 0 else if 1000 < t then 0 else 1 := by
  have e1 : FP.dcmp (FP.i2d t) FP.dconst1 = some (compare t.toInt 1) := by
    rw [show FP.dconst1 = FP.i2d 1 from by decide +kernel]
    exact FP.Core.dcmp_int (FP.Core.i2d_int t) (FP.Core.i2d_int 1)
  have e2 : FP.dcmp (FP.i2d t) 4652007308841189376 = some (compare t.toInt 1000) := by
    rw [show (4652007308841189376 : UInt64) = FP.i2d 1000 from by decide +kernel]
    exact FP.Core.dcmp_int (FP.Core.i2d_int t) (FP.Core.i2d_int 1000)
  have q1 : (1 : Int32).toInt = 1 := rfl
  have q2 : (1000 : Int32).toInt = 1000 := rfl
  unfold wi
  rw [e1, e2]
  by_cases c1 : t < 1
  · have c1' := c1
    rw [Int32.lt_iff_toInt_lt, q1] at c1'
    rw [if_pos c1, (FP.Core.compare_lt_iff t.toInt 1).mpr c1', if_pos (by decide)]
  · have c1' := c1
    rw [Int32.lt_iff_toInt_lt, q1] at c1'
    rw [if_neg c1, if_neg]
    · by_cases c2 : 1000 < t
      · have c2' := c2
        rw [Int32.lt_iff_toInt_lt, q2] at c2'
        rw [if_pos c2, (FP.Core.compare_gt_iff t.toInt 1000).mpr c2', if_pos (by decide)]
      · have c2' := c2
        rw [Int32.lt_iff_toInt_lt, q2] at c2'
        rw [if_neg c2, if_neg]
        cases hc : compare t.toInt 1000 with
        | lt => decide
        | eq => decide
        | gt => exact absurd ((FP.Core.compare_gt_iff _ _).mp hc) c2'
    · cases hc : compare t.toInt 1 with
      | lt => exact absurd ((FP.Core.compare_lt_iff _ _).mp hc) c1'
      | eq => decide
      | gt => decide
