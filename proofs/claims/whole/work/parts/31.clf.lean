def pkI (t p a b : Int32) : Int32 := ((t <<< ((16 : Int32) &&& 31) ||| p <<< ((10 : Int32) &&& 31)) ||| a <<< ((6 : Int32) &&& 31)) ||| b
/-- a log's next row -/
def logF (S : St) (i : Nat) (t p a b : Int32) : St := if nI (sN S 18 i) ≤ sI S 3 i 1 then pI S 3 i 1 (sI S 3 i 1 + 1) else pI (pI S 18 i (nn (sI S 3 i 1)) (pkI t p a b)) 3 i 1 (sI S 3 i 1 + 1)
def parF (v w : Int32) : Int32 := if w = 0 then v >>> ((16 : Int32) &&& 31) else if w = 1 then v >>> ((10 : Int32) &&& 31) &&& 63 else if w = 2 then v >>> ((6 : Int32) &&& 31) &&& 15 else if w = 3 then v &&& 63 else -1
def partA (S : St) (i : Nat) (k w : Int32) : Int32 := if ¬ k < 0 ∧ ¬ sI S 3 i 1 ≤ k ∧ k < nI (sN S 18 i) then parF (sI S 18 i (nn k)) w else -1
/-- the gaps of what goes out -/
def outsF (S : St) (a : Nat) (t : Int32) : St :=
  pI (pI (if sI S 4 a 0 = 1 then pI (pI S 4 a 2 (t - sI S 4 a 1)) 4 a 3 (t - sI S 4 a 1) else if sI S 4 a 0 ≤ 1 then S else pI (pI S 4 a 2 (if t - sI S 4 a 1 < sI S 4 a 2 then t - sI S 4 a 1 else sI S 4 a 2)) 4 a 3 (if sI S 4 a 3 < t - sI S 4 a 1 then t - sI S 4 a 1 else sI S 4 a 3)) 4 a 1 t) 4 a 0 (sI S 4 a 0 + 1)
def takeF (S : St) (k : Nat) (t : Int32) : St := pI (pI S 5 k 4 (busyF t (sD S 5 k 1) (sD S 5 k 2) (sI S 5 k 3))) 5 k 3 (sI S 5 k 3 + 1)
def restA (S : St) : Int64 := (sI S 8 0 1 + sI S 8 0 2 + sI S 8 0 3).toInt64 + sJ S 19 0 0 + sJ S 19 0 1 + sJ S 19 0 2
theorem w_tab {w : Int32} (h1 : ¬ w.toInt < 0) (h2 : ¬ (3 : Int) < w.toInt) : w = 0 ∨ w = 1 ∨ w = 2 ∨ w = 3 := by
  have : w.toInt = 0 ∨ w.toInt = 1 ∨ w.toInt = 2 ∨ w.toInt = 3 := by omega
  rcases this with h | h | h | h
  · exact Or.inl (Int32.toInt_inj.mp h)
  · exact Or.inr (Or.inl (Int32.toInt_inj.mp h))
  · exact Or.inr (Or.inr (Or.inl (Int32.toInt_inj.mp h)))
  · exact Or.inr (Or.inr (Or.inr (Int32.toInt_inj.mp h)))
theorem wout {w : Int32} (h : ¬ (w = 0 ∨ w = 1 ∨ w = 2 ∨ w = 3)) : w.toInt < 0 ∨ (3 : Int) < w.toInt := by
  rcases Int.lt_or_le w.toInt 0 with q | q
  · exact Or.inl q
  · rcases Int.lt_or_le 3 w.toInt with q2 | q2
    · exact Or.inr q2
    · exact absurd (w_tab (by omega) (by omega)) h
theorem pI_I {S : St} {x i j k z w : Nat} {v : Int32} (h : ¬ (k = x ∧ z = i ∧ w = j)) : sI (pI S x i j v) k z w = sI S k z w := u3_ne h
theorem pI_s {S : St} {x i j : Nat} {v : Int32} : sI (pI S x i j v) x i j = v := u3_self
theorem out_e1 {S : St} {a : Nat} {t : Int32} : pI (pI (pI (pI S 4 a 2 (t - sI S 4 a 1)) 4 a 3 (t - sI S 4 a 1)) 4 a 1 t) 4 a 0 (sI (pI (pI (pI S 4 a 2 (t - sI S 4 a 1)) 4 a 3 (t - sI S 4 a 1)) 4 a 1 t) 4 a 0 + 1) = pI (pI (pI (pI S 4 a 2 (t - sI S 4 a 1)) 4 a 3 (t - sI S 4 a 1)) 4 a 1 t) 4 a 0 (sI S 4 a 0 + 1) := by
  rw [show sI (pI (pI (pI S 4 a 2 (t - sI S 4 a 1)) 4 a 3 (t - sI S 4 a 1)) 4 a 1 t) 4 a 0 = sI S 4 a 0 from by rw [pI_I (by omega), pI_I (by omega), pI_I (by omega)]]
theorem out_e2 {S : St} {a : Nat} {t : Int32} : pI (pI S 4 a 1 t) 4 a 0 (sI (pI S 4 a 1 t) 4 a 0 + 1) = pI (pI S 4 a 1 t) 4 a 0 (sI S 4 a 0 + 1) := by
  rw [show sI (pI S 4 a 1 t) 4 a 0 = sI S 4 a 0 from pI_I (by omega)]
theorem out_e3 {S : St} {a : Nat} {t u g : Int32} : pI (pI (pI (pI S 4 a 2 u) 4 a 3 (if sI (pI S 4 a 2 u) 4 a 3 < g then g else sI (pI S 4 a 2 u) 4 a 3)) 4 a 1 t) 4 a 0 (sI (pI (pI (pI S 4 a 2 u) 4 a 3 (if sI (pI S 4 a 2 u) 4 a 3 < g then g else sI (pI S 4 a 2 u) 4 a 3)) 4 a 1 t) 4 a 0 + 1) = pI (pI (pI (pI S 4 a 2 u) 4 a 3 (if sI S 4 a 3 < g then g else sI S 4 a 3)) 4 a 1 t) 4 a 0 (sI S 4 a 0 + 1) := by
  rw [show sI (pI S 4 a 2 u) 4 a 3 = sI S 4 a 3 from pI_I (by omega)]
  rw [show sI (pI (pI (pI S 4 a 2 u) 4 a 3 (if sI S 4 a 3 < g then g else sI S 4 a 3)) 4 a 1 t) 4 a 0 = sI S 4 a 0 from by rw [pI_I (by omega), pI_I (by omega), pI_I (by omega)]]
theorem tak_e {S : St} {k : Nat} {u : Int32} : pI (pI S 5 k 4 u) 5 k 3 (sI (pI S 5 k 4 u) 5 k 3 + 1) = pI (pI S 5 k 4 u) 5 k 3 (sI S 5 k 3 + 1) := by
  rw [show sI (pI S 5 k 4 u) 5 k 3 = sI S 5 k 3 from pI_I (by omega)]
section MX
variable {X : Cx} {k n : Nat} {S : St} {pc q : Nat} {lv : List (Nat × Value)} {st : List Value} {cc : ByteArray} {own : String} {ix : Nat} {x y : Int32}
theorem j_mmin (hX : Ok X cc own) (hl : Cond.methodLink own ix Lib.Math.min.name ∈ BIG) (hs : Cond.static Lib.Math.min.name ∈ BIG) (hi : Cond.initialized "java/lang/Math" ∈ BIG) (hc : Cond.code Lib.Math.min.name Lib.Math.min.code 2 (some .int) ∈ BIG) (hd : decode cc pc = .ok (.invokestatic ix, 3)) (hq : pc + 3 = q) (hR : 1 ≤ (rx X).frames ∧ (st.map fun v => v.category).sum + 13 ≤ (rx X).locals ∧ k ≤ (rx X).cells ∧ n ≤ (rx X).slots) (kk : Jg X k n S q lv (.int (if y < x then y else x) :: st)) : Jg X k n S pc lv (.int y :: .int x :: st) := by
  obtain ⟨p, l, e, R, s, m, args, below, meth, c, Q, D, E, sz, nL⟩ := X
  subst hq
  intro ls H locs hl0 hW hS
  obtain ⟨hx1, hb1, hml, hown, hts, hKw, hsz, hlk⟩ := hX
  exact va_mmin hx1 hb1 (by rw [hml]; exact hl0.1.symm) hown (hts _ hl) (hts _ hs) (hts _ hi) (hts _ hc) hR.1 hR.2.1 hR.2.2.1 hR.2.2.2 hd (kk ls H locs hl0 hW hS)
theorem j_mmax (hX : Ok X cc own) (hl : Cond.methodLink own ix Lib.Math.max.name ∈ BIG) (hs : Cond.static Lib.Math.max.name ∈ BIG) (hi : Cond.initialized "java/lang/Math" ∈ BIG) (hc : Cond.code Lib.Math.max.name Lib.Math.max.code 2 (some .int) ∈ BIG) (hd : decode cc pc = .ok (.invokestatic ix, 3)) (hq : pc + 3 = q) (hR : 1 ≤ (rx X).frames ∧ (st.map fun v => v.category).sum + 13 ≤ (rx X).locals ∧ k ≤ (rx X).cells ∧ n ≤ (rx X).slots) (kk : Jg X k n S q lv (.int (if x < y then y else x) :: st)) : Jg X k n S pc lv (.int y :: .int x :: st) := by
  obtain ⟨p, l, e, R, s, m, args, below, meth, c, Q, D, E, sz, nL⟩ := X
  subst hq
  intro ls H locs hl0 hW hS
  obtain ⟨hx1, hb1, hml, hown, hts, hKw, hsz, hlk⟩ := hX
  exact va_mmax hx1 hb1 (by rw [hml]; exact hl0.1.symm) hown (hts _ hl) (hts _ hs) (hts _ hi) (hts _ hc) hR.1 hR.2.1 hR.2.2.1 hR.2.2.2 hd (kk ls H locs hl0 hW hS)
end MX
