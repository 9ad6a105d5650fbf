section NW
variable {S : St} {x a z h j : Nat}
theorem nO_I (hh : sC S x = h) : sI (nO S x a z) x h j = 0 := by subst hh; exact congrFun u2_self j
theorem nO_D (hh : sC S x = h) : sD (nO S x a z) x h j = 0 := by subst hh; exact congrFun u2_self j
theorem nO_R (hh : sC S x = h) : sR (nO S x a z) x h j = none := by subst hh; exact congrFun u2_self j
theorem nO_N (hh : sC S x = h) : sN (nO S x a z) x h = z := by subst hh; exact u2_self
theorem nO_Io {k i : Nat} (hk : k ≠ x) : sI (nO S x a z) k i j = sI S k i j := congrFun (u2_ne (fun q => hk q.1)) j
theorem nO_Jo {k i : Nat} (hk : k ≠ x) : sJ (nO S x a z) k i j = sJ S k i j := congrFun (u2_ne (fun q => hk q.1)) j
theorem nO_Do {k i : Nat} (hk : k ≠ x) : sD (nO S x a z) k i j = sD S k i j := congrFun (u2_ne (fun q => hk q.1)) j
theorem nO_Ro {k i : Nat} (hk : k ≠ x) : sR (nO S x a z) k i j = sR S k i j := congrFun (u2_ne (fun q => hk q.1)) j
theorem nO_No {k i : Nat} (hk : k ≠ x) : sN (nO S x a z) k i = sN S k i := u2_ne (fun q => hk q.1)
theorem pR_s {i : Nat} {v : Option Nat} : sR (pR S x i j v) x i j = v := u3_self
theorem pD_s {i : Nat} {v : UInt64} : sD (pD S x i j v) x i j = v := u3_self
theorem pJ_s {i : Nat} {v : Int64} : sJ (pJ S x i j v) x i j = v := u3_self
theorem pR_R {i k i' j' : Nat} {v : Option Nat} (hh : ¬ (k = x ∧ i' = i ∧ j' = j)) : sR (pR S x i j v) k i' j' = sR S k i' j' := u3_ne hh
theorem pD_D {i k i' j' : Nat} {v : UInt64} (hh : ¬ (k = x ∧ i' = i ∧ j' = j)) : sD (pD S x i j v) k i' j' = sD S k i' j' := u3_ne hh
theorem pJ_J {i k i' j' : Nat} {v : Int64} (hh : ¬ (k = x ∧ i' = i ∧ j' = j)) : sJ (pJ S x i j v) k i' j' = sJ S k i' j' := u3_ne hh
variable {i : Nat}
theorem pI_C {v : Int32} : sC (pI S x i j v) = sC S := Eq.symm rfl
theorem pJ_C {v : Int64} : sC (pJ S x i j v) = sC S := Eq.symm rfl
theorem pD_C {v : UInt64} : sC (pD S x i j v) = sC S := Eq.symm rfl
theorem pR_C {v : Option Nat} : sC (pR S x i j v) = sC S := Eq.symm rfl
theorem pI_A {v : Int32} : sA (pI S x i j v) = sA S := Eq.symm rfl
theorem pJ_A {v : Int64} : sA (pJ S x i j v) = sA S := Eq.symm rfl
theorem pD_A {v : UInt64} : sA (pD S x i j v) = sA S := Eq.symm rfl
theorem pR_A {v : Option Nat} : sA (pR S x i j v) = sA S := Eq.symm rfl
theorem pI_N {v : Int32} : sN (pI S x i j v) = sN S := Eq.symm rfl
theorem pJ_N {v : Int64} : sN (pJ S x i j v) = sN S := Eq.symm rfl
theorem pD_N {v : UInt64} : sN (pD S x i j v) = sN S := Eq.symm rfl
theorem pR_N {v : Option Nat} : sN (pR S x i j v) = sN S := Eq.symm rfl
theorem pJ_I {v : Int64} : sI (pJ S x i j v) = sI S := Eq.symm rfl
theorem pD_I {v : UInt64} : sI (pD S x i j v) = sI S := Eq.symm rfl
theorem pR_I {v : Option Nat} : sI (pR S x i j v) = sI S := Eq.symm rfl
theorem pI_J {v : Int32} : sJ (pI S x i j v) = sJ S := Eq.symm rfl
theorem pD_J {v : UInt64} : sJ (pD S x i j v) = sJ S := Eq.symm rfl
theorem pR_J {v : Option Nat} : sJ (pR S x i j v) = sJ S := Eq.symm rfl
theorem pI_D {v : Int32} : sD (pI S x i j v) = sD S := Eq.symm rfl
theorem pJ_D {v : Int64} : sD (pJ S x i j v) = sD S := Eq.symm rfl
theorem pR_D {v : Option Nat} : sD (pR S x i j v) = sD S := Eq.symm rfl
theorem pI_R {v : Int32} : sR (pI S x i j v) = sR S := Eq.symm rfl
theorem pJ_R {v : Int64} : sR (pJ S x i j v) = sR S := Eq.symm rfl
theorem pD_R {v : UInt64} : sR (pD S x i j v) = sR S := Eq.symm rfl
theorem qI_J {α : Al} {k : Nat} {v : Int32} : aJ (qI α k j v) = aJ α := Eq.symm rfl
theorem qI_D {α : Al} {k : Nat} {v : Int32} : aD (qI α k j v) = aD α := Eq.symm rfl
theorem qD_Ix {α : Al} {k : Nat} {v : UInt64} : aI (qD α k j v) = aI α := Eq.symm rfl
theorem qJ_Ix {α : Al} {k : Nat} {v : Int64} : aI (qJ α k j v) = aI α := Eq.symm rfl
theorem qD_J {α : Al} {k : Nat} {v : UInt64} : aJ (qD α k j v) = aJ α := Eq.symm rfl
theorem ou_new {b kd g : Nat} (hh : sC S 4 = g) : sI (ouS S b kd a) 4 g j = 0 := by unfold ouS; rw [pR_I]; exact nO_I hh
theorem ou_old {b kd i : Nat} (hh : i < sC S 4) : sI (ouS S b kd a) 4 i j = sI S 4 i j := by unfold ouS; rw [pR_I]; exact congrFun (u2_ne (fun q => by omega)) j
theorem ou_C {b kd : Nat} : sC (ouS S b kd a) 4 = sC S 4 + 1 := by unfold ouS; rw [pR_C, sC_nO, if_pos rfl]
theorem ou_Co {b kd k : Nat} (hk : k ≠ 4) : sC (ouS S b kd a) k = sC S k := by unfold ouS; rw [pR_C, sC_nO, if_neg hk]
theorem ou_I {b kd k i : Nat} (hk : k ≠ 4) : sI (ouS S b kd a) k i j = sI S k i j := by unfold ouS; rw [pR_I]; exact nO_Io hk
theorem ou_D {b kd k i : Nat} (hk : k ≠ 4) : sD (ouS S b kd a) k i j = sD S k i j := by unfold ouS; rw [pR_D]; exact nO_Do hk
theorem ou_N {b kd k i : Nat} (hk : k ≠ 4) : sN (ouS S b kd a) k i = sN S k i := by unfold ouS; rw [pR_N]; exact nO_No hk
theorem ou_J {b kd k i : Nat} (hk : k ≠ 4) : sJ (ouS S b kd a) k i j = sJ S k i j := by unfold ouS; rw [pR_J]; exact nO_Jo hk
theorem ou_R {b kd k i : Nat} (hk : k ≠ 4) (h2 : ¬ (k = 17 ∧ i = b ∧ j = kd)) : sR (ouS S b kd a) k i j = sR S k i j := by unfold ouS; rw [pR_R h2]; exact nO_Ro hk
theorem ou_s {b kd : Nat} : sR (ouS S b kd a) 17 b kd = some (5 * b + kd) := pR_s
end NW
theorem Wt.z {α : Al} {i : Nat} : Wt α i 0 := fun j hj => absurd hj (Nat.not_lt_zero _)
theorem CZ.np0 {S : St} {α : Al} {nb nh nu nr nk np t : Nat} (z : CZ S α nb nh nu nr nk np t) (h : aI α 0 26 = 0) : np = 0 := by
  have e := z.1.2.2.1.2.2.2.2.2.1
  rw [h] at e
  exact ((nI_eq (by decide) (by omega)).mp (show nI 0 = nI np from e.1)).symm
/-- β has what α has of what a run moves -/
def dy (k : Nat) : Bool := match k with
  | 7 => true
  | 19 => true
  | 20 => true
  | 25 => true
  | 26 => true
  | 27 => true
  | 29 => true
  | 30 => true
  | 32 => true
  | 33 => true
  | 34 => true
  | 35 => true
  | _ => false
def Dy (α β : Al) : Prop := (∀ k j, dy k = true → aI β k j = aI α k j) ∧ (aI β 0 35 = aI α 0 35 ∧ aI β 0 36 = aI α 0 36 ∧ aI β 0 38 = aI α 0 38) ∧ aJ β = aJ α ∧ ∀ u, aD β 12 u = aD α 12 u
theorem Dy.rf {α : Al} : Dy α α := ⟨fun _ _ _ => rfl, ⟨rfl, rfl, rfl⟩, rfl, fun _ => rfl⟩
theorem Dy.I {α β : Al} {k j : Nat} {v : Int32} (h : Dy α β) (h1 : dy k = false) (h2 : ¬ (0 = k ∧ (35 = j ∨ 36 = j ∨ 38 = j))) : Dy α (qI β k j v) := ⟨fun k' j' q => (qI_I (fun z => by rw [z.1, h1] at q; cases q)).trans (h.1 k' j' q), ⟨(qI_I (fun z => h2 ⟨z.1, Or.inl z.2⟩)).trans h.2.1.1, (qI_I (fun z => h2 ⟨z.1, Or.inr (Or.inl z.2)⟩)).trans h.2.1.2.1, (qI_I (fun z => h2 ⟨z.1, Or.inr (Or.inr z.2)⟩)).trans h.2.1.2.2⟩, h.2.2.1, h.2.2.2⟩
theorem Dy.D {α β : Al} {k j : Nat} {v : UInt64} (h : Dy α β) (h1 : k ≠ 12) : Dy α (qD β k j v) := ⟨h.1, h.2.1, h.2.2.1, fun u => (qD_D (fun z => h1 z.1.symm)).trans (h.2.2.2 u)⟩
theorem Cd.dy {S : St} {α β : Al} {nb nu nk np : Nat} (d : Cd S α nb nu nk np) (h : Dy α β) : Cd S β nb nu nk np := by
  obtain ⟨hI, ⟨e35, e36, e38⟩, hJ, hD⟩ := h
  obtain ⟨d1, d2, d3, d4, d5, d6, d7, d8, d9, d10, d11⟩ := d
  refine ⟨by rw [e35]; exact d1, fun b hb => by rw [hI 7 b rfl]; exact d2 b hb, fun u hu => by rw [hD u]; exact d3 u hu, fun k hk => by rw [hI 20 k rfl, hI 19 k rfl]; exact d4 k hk, fun j hj => by rw [hI 25 j rfl, hI 26 j rfl, hI 27 j rfl]; exact d5 j hj, fun a ha => by rw [hI 32 a rfl, hI 33 a rfl, hI 34 a rfl, hI 35 a rfl]; exact d6 a ha, by rw [e36, e38]; exact d7, fun j hj hjt => ?_, fun j hj hjt => ?_, fun c hc => by rw [hJ]; exact d10 c hc, ct4 (α := α) (S := S) (fun j => hI 25 j rfl) (fun c _ => by rw [hJ]) d11⟩
  · rw [hI 29 _ rfl, hI 29 _ rfl, hI 29 _ rfl, hI 29 _ rfl]
    exact d8 j hj (by rw [← e36]; exact hjt)
  · rw [hI 30 _ rfl, hI 30 _ rfl, hI 30 _ rfl, hI 30 _ rfl]
    exact d9 j hj (by rw [← e38]; exact hjt)
theorem Dn.dy {α β : Al} {nb nk np n : Nat} (d : Dn α nb nk np n) (h : Dy α β) : Dn β nb nk np n := d.keep h.2.1.1 (fun j => h.1 25 j rfl) (fun j => h.1 26 j rfl) h.2.1.2.2 h.2.2.2 (fun j => h.1 20 j rfl) (d.2.2.2.2.2.2.same h.2.1.2.1)
theorem Oc.dy {α β : Al} {n : Nat} (o : Oc α n) (h : Dy α β) : Oc β n := o.same (fun a => h.1 32 a rfl) (Nat.le_refl _)
theorem CZ.up {S T : St} {α β : Al} {nb nh nu nr nk t nb' nh' nu' nr' nk' : Nat} (z : CZ S α nb nh nu nr nk 0 t) (e : Ek nb nh nu nr nk 0 S T) (g : Ag nb nh nu nr nk 0 α β) (d : Dy α β) (hb : nb ≤ nb') (hu : nu ≤ nu') (hk : nk ≤ nk')
    (hC : sC T 0 = nb' ∧ sC T 2 = nh' ∧ sC T 1 = nu' ∧ sC T 5 = nk' ∧ sC T 7 = nr' ∧ sC T 6 = 0 ∧ sC T 4 = 5 * nb' ∧ sC T 17 = nb')
    (hQ : sJ T 9 0 0 = aJ β 0 0 ∧ sI T 9 0 10 = aI β 0 1 ∧ sI T 9 0 11 = aI β 0 9 ∧ sI T 9 0 12 = aI β 0 13 ∧ sI T 9 0 13 = aI β 0 20 ∧ sI T 9 0 14 = aI β 0 16 ∧ sI T 9 0 15 = aI β 0 26)
    (hF : (aI β 0 1 = nI nb' ∧ nb' ≤ 6) ∧ (aI β 0 9 = nI nh' ∧ nh' ≤ 8) ∧ (aI β 0 13 = nI nu' ∧ nu' ≤ 4) ∧ (aI β 0 16 = nI nr' ∧ nr' ≤ 4) ∧ (aI β 0 20 = nI nk' ∧ nk' ≤ 4) ∧ aI β 0 26 = nI 0)
    (nB : ∀ b, nb ≤ b → b < nb' → ((sR T 11 0 b = some b ∧ sI T 0 b 0 = nI b ∧ sI T 0 b 1 = aI β 1 b ∧ sD T 0 b 2 = aD β 2 b ∧ sR T 0 b 3 = some b) ∧ (aI β 3 b = -1 ∧ sR T 0 b 4 = none ∧ sR T 0 b 5 = none) ∧ (sI T 0 b 6 = 0 ∧ sD T 0 b 7 = 0 ∧ sI T 0 b 8 = 0) ∧ sN T 17 b = 5 ∧ ∀ kd, kd < 5 → sR T 17 b kd = some (5 * b + kd)) ∧ ((∃ t, aI β 1 b = nI t ∧ 1 ≤ t ∧ t ≤ 1000) ∧ dNz (aD β 2 b)) ∧ sI T 0 b 9 = 0 ∧ aI β 4 b = aI α 4 b ∧ aD β 5 b = aD α 5 b ∧ aI β 6 b = aI α 6 b)
    (n4 : ∀ a, 5 * nb ≤ a → a < 5 * nb' → ∀ j, sI T 4 a j = 0)
    (nH : ∀ h, nh ≤ h → h < nh' → sR T 12 0 h = some h ∧ (∃ b, aI β 8 h = nI b ∧ b < nb ∧ sR T 2 h 0 = some b) ∧ sI T 2 h 1 = aI β 9 h ∧ sD T 2 h 2 = aD β 10 h)
    (nU : ∀ u, nu ≤ u → u < nu' → (sR T 13 0 u = some u ∧ sI T 1 u 0 = nI u ∧ sD T 1 u 1 = aD β 11 u) ∧ sD T 1 u 2 = 0)
    (nK : ∀ k, nk ≤ k → k < nk' → (sR T 14 0 k = some k ∧ (∃ b, aI β 16 k = nI b ∧ b < nb ∧ sR T 5 k 0 = some b) ∧ sD T 5 k 1 = aD β 17 k ∧ sD T 5 k 2 = aD β 18 k) ∧ (∀ w, w ≤ 60 → PkOk (aD β 17 k) (aD β 18 k) (nI w)) ∧ sI T 5 k 3 = 0 ∧ sI T 5 k 4 = 0)
    (nR : ∀ r, nr ≤ r → r < nr' → sR T 15 0 r = some r ∧ (∃ b, aI β 13 r = nI b ∧ b < nb ∧ sR T 7 r 0 = some b) ∧ sD T 7 r 1 = aD β 14 r ∧ sD T 7 r 2 = aD β 15 r)
    (zq' : ∀ b, nb' ≤ b → aI β 4 b = aI α 4 b ∧ aD β 5 b = aD α 5 b ∧ aI β 6 b = aI α 6 b) : CZ T β nb' nh' nu' nr' nk' 0 t := by
  obtain ⟨⟨sh, cs, cf, cd, dn, ⟨nw, t4⟩, oc, wt⟩, zr, zq⟩ := z
  obtain ⟨z7, z12, zk, zo⟩ := zr rfl
  have cp := CsP.ag (CsP.old cs sh e) g
  have dO := (cd.old cs sh e).dy d
  have fp : CfP α nb nh nu nr nk 0 := cf.2.2.2.2.2.2
  have fq := CfP.ag fp g
  refine ⟨⟨sh.old e, ⟨hC, hQ, ?_⟩, ⟨hF.1, hF.2.1, hF.2.2.1, hF.2.2.2.1, hF.2.2.2.2.1, ⟨hF.2.2.2.2.2, by decide⟩, ?_⟩, ?_, ?_, ⟨d.2.1.1.trans nw, t4⟩, oc.dy d, Wt.z⟩, fun _ => ⟨fun b => (d.1 7 b rfl).trans (z7 b), fun u => (d.2.2.2 u).trans (z12 u), fun k => ⟨(d.1 19 k rfl).trans (zk k).1, (d.1 20 k rfl).trans (zk k).2⟩, fun a => ⟨(d.1 32 a rfl).trans (zo a).1, (d.1 33 a rfl).trans (zo a).2.1, (d.1 34 a rfl).trans (zo a).2.2.1, (d.1 35 a rfl).trans (zo a).2.2.2⟩⟩, fun b h1 => ?_⟩
  · have cm := cp.mono (nb' := nb') (nu' := nu') hb hu (fun b h1 h2 => by
      obtain ⟨⟨a1, a2, a3, a4, a5⟩, -, -, a6, a7, a8⟩ := nB b h1 h2
      obtain ⟨y1, y2, y3⟩ := zq b h1
      exact ⟨a1, Or.inr (Or.inl a2), ⟨by rw [a6, y1]; exact a3.1, by rw [a7, y2]; exact a3.2.1, by rw [a8, y3]; exact a3.2.2⟩, a4, a5⟩) (fun u h1 h2 => (nU u h1 h2).1)
    obtain ⟨c3, c4, c5, c6, c7, c8⟩ := cm
    refine ⟨c3, fun h h1 => ?_, c5, fun h h1 => ?_, fun h h1 => ?_, c8⟩
    · rcases Nat.lt_or_ge h nh with q | q
      · exact c4 h q
      · obtain ⟨a1, ⟨b, a2, a3, a4⟩, a5⟩ := nH h q h1
        exact ⟨a1, ⟨b, a2, by omega, a4⟩, a5⟩
    · rcases Nat.lt_or_ge h nk with q | q
      · exact c6 h q
      · obtain ⟨⟨a1, ⟨b, a2, a3, a4⟩, a5⟩, -⟩ := nK h q h1
        exact ⟨a1, ⟨b, a2, by omega, a4⟩, a5⟩
    · rcases Nat.lt_or_ge h nr with q | q
      · exact c7 h q
      · obtain ⟨a1, ⟨b, a2, a3, a4⟩, a5⟩ := nR h q h1
        exact ⟨a1, ⟨b, a2, by omega, a4⟩, a5⟩
  · have cm := fq.mono (nb' := nb') (nu' := nu') hb hu (fun b h1 h2 => by
      obtain ⟨⟨-, a2, -⟩, ⟨a3, a4⟩, -, a6, -⟩ := nB b h1 h2
      exact ⟨a3, a4, Or.inr (Or.inl a2.1), Or.inl (a6.trans (zq b h1).1)⟩)
    obtain ⟨c7, c8, c9, c10, c11⟩ := cm
    refine ⟨c7, fun h h1 => ?_, fun h h1 => ?_, fun h h1 => ?_, c11⟩
    · rcases Nat.lt_or_ge h nh with q | q
      · exact c8 h q
      · obtain ⟨-, ⟨b, a2, a3, -⟩, -⟩ := nH h q h1
        exact ⟨b, a2, by omega⟩
    · rcases Nat.lt_or_ge h nr with q | q
      · exact c9 h q
      · obtain ⟨-, ⟨b, a2, a3, -⟩, -⟩ := nR h q h1
        exact ⟨b, a2, by omega⟩
    · rcases Nat.lt_or_ge h nk with q | q
      · exact c10 h q
      · obtain ⟨⟨-, ⟨b, a2, a3, -⟩, -⟩, a5, -⟩ := nK h q h1
        exact ⟨⟨b, a2, by omega⟩, a5⟩
  · obtain ⟨d1, d2, d3, d4, d5, d6, d7, d8, d9, d10, d11⟩ := dO
    refine ⟨d1, fun b h1 => ?_, fun u h1 => ?_, fun k h1 => ?_, fun j hj => absurd hj (Nat.not_lt_zero _), fun a h1 => ?_, d7, d8, d9, d10, d11⟩
    · rcases Nat.lt_or_ge b nb with q | q
      · exact d2 b q
      · rw [(nB b q h1).2.2.1, d.1 7 b rfl, z7]
    · rcases Nat.lt_or_ge u nu with q | q
      · exact d3 u q
      · rw [(nU u q h1).2, d.2.2.2 u, z12]
    · rcases Nat.lt_or_ge k nk with q | q
      · exact d4 k q
      · rw [(nK k q h1).2.2.1, (nK k q h1).2.2.2, d.1 20 k rfl, d.1 19 k rfl, (zk k).1, (zk k).2]
        exact ⟨rfl, rfl⟩
    · rcases Nat.lt_or_ge a (5 * nb) with q | q
      · exact d6 a q
      · obtain ⟨y1, y2, y3, y4⟩ := zo a
        rw [n4 a q h1, n4 a q h1, n4 a q h1, n4 a q h1, d.1 32 a rfl, d.1 33 a rfl, d.1 34 a rfl, d.1 35 a rfl, y1, y2, y3, y4]
        exact ⟨rfl, rfl, rfl, rfl⟩
  · obtain ⟨g1, g2, g3, g4, g5, g6, g7⟩ := dn.dy d
    refine ⟨g1, g2, fun j hj => absurd hj (Nat.not_lt_zero _), g4, g5, fun k h1 => ⟨0, (d.1 20 k rfl).trans (zk k).2, Nat.zero_le _⟩, g7⟩
  · obtain ⟨y1, y2, y3⟩ := zq' b h1
    obtain ⟨x1, x2, x3⟩ := zq b (by omega)
    exact ⟨y1.trans x1, y2.trans x2, y3.trans x3⟩
