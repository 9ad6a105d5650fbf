/-! WHAT THE LINE DOES, on the abstract state -/
def us (x : Int64) (k : Int32) : Int64 := (x.toUInt64 >>> (k.toInt64.toUInt64 &&& Int64.toUInt64 63)).toInt64
def ch0 (z : Int64) (p d : Int32) : Int64 := z * 6364136223846793005 + p.toInt64 * 1442695040888963407 + d.toInt64 * 2862933555777941757
def ch1 (x : Int64) : Int64 := (x ^^^ us x 29) * (-4658895280553007687)
def ch2 (x : Int64) : Int64 := x ^^^ us x 32
/-- the chance of a piece at a device -/
def chF (z : Int64) (p d : Int32) : UInt64 := FP.ddiv (FP.l2d (us (ch2 (ch1 (ch0 z p d))) 11)) 4845873199050653696
def nn (x : Int32) : Nat := x.toNatClampNeg
/-- an event is noted -/
def noteF (α : Al) (p w h : Int32) : Al :=
  if 2000 ≤ aI α 0 36 then qI α 0 36 (aI α 0 36 + 1)
  else qI (qI (qI (qI (qI α 29 (4 * nn (aI α 0 36)) (aI α 0 35)) 29 (4 * nn (aI α 0 36) + 1) p) 29 (4 * nn (aI α 0 36) + 2) w) 29 (4 * nn (aI α 0 36) + 3) h) 0 36 (aI α 0 36 + 1)
def loseF (α : Al) (p c : Nat) (w h : Int32) : Al := noteF (qJ (qI α 25 p 5) 31 c (aJ α 31 c + 1)) (nI p) w h
/-- on a belt -/
def onB (α : Al) (b : Int32) (j : Nat) : Prop := aI α 25 j = 1 ∧ aI α 26 j = b
theorem onB_dec (α : Al) (b : Int32) (j : Nat) : onB α b j ∨ ¬ onB α b j := Classical.em _
/-- the sizes on a belt, and one more piece's, added up by numbers -/
def szF (α : Al) (b w : Int32) : Nat → UInt64
  | 0 => FP.dconst0
  | j + 1 => FP.dadd (szF α b w j) (if nI j = w ∨ (aI α 25 j = 1 ∧ aI α 26 j = b) then aD α 22 j else FP.dconst0)
def pcF (α : Al) (b : Int32) : Nat → Nat
  | 0 => 0
  | j + 1 => pcF α b j + (if aI α 25 j = 1 ∧ aI α 26 j = b then 1 else 0)
/-- how many pieces are in a state -/
def ctF (α : Al) (s : Int32) : Nat → Nat
  | 0 => 0
  | j + 1 => ctF α s j + (if aI α 25 j = s then 1 else 0)
/-- the first h heads, for a piece -/
def passL (α : Al) (p : Nat) : Nat → Al
  | 0 => α
  | h + 1 => if aI (passL α p h) 8 h = aI (passL α p h) 26 p ∧ aI (passL α p h) 9 h = aI (passL α p h) 27 p then noteF (passL α p h) (nI p) (if 0 ≤ Op.cmpValue (FP.dcmp (chF (aJ (passL α p h) 0 0) (nI p) (nI h)) (aD (passL α p h) 10 h)) .g then 1 else 2) (nI h) else passL α p h
def passF (α : Al) (p : Nat) : Al := passL α p (nn (aI α 0 9))
theorem qI_I {α : Al} {a j b z : Nat} {v : Int32} (h : ¬ (b = a ∧ z = j)) : aI (qI α a j v) b z = aI α b z := u2_ne h
theorem qI_s {α : Al} {a j : Nat} {v : Int32} : aI (qI α a j v) a j = v := u2_self
theorem qJ_J {α : Al} {a j b z : Nat} {v : Int64} (h : ¬ (b = a ∧ z = j)) : aJ (qJ α a j v) b z = aJ α b z := u2_ne h
theorem qJ_s {α : Al} {a j : Nat} {v : Int64} : aJ (qJ α a j v) a j = v := u2_self
theorem qD_D {α : Al} {a j b z : Nat} {v : UInt64} (h : ¬ (b = a ∧ z = j)) : aD (qD α a j v) b z = aD α b z := u2_ne h
theorem qD_s {α : Al} {a j : Nat} {v : UInt64} : aD (qD α a j v) a j = v := u2_self
theorem noteF_I {α : Al} {p w h : Int32} {k j : Nat} (h1 : k ≠ 29) (h2 : ¬ (k = 0 ∧ j = 36)) : aI (noteF α p w h) k j = aI α k j := by
  unfold noteF
  split
  · exact qI_I h2
  · rw [qI_I h2, qI_I (fun q => h1 q.1), qI_I (fun q => h1 q.1), qI_I (fun q => h1 q.1), qI_I (fun q => h1 q.1)]
theorem noteF_J {α : Al} {p w h : Int32} : aJ (noteF α p w h) = aJ α := by
  unfold noteF
  split <;> rfl
theorem noteF_D {α : Al} {p w h : Int32} : aD (noteF α p w h) = aD α := by
  unfold noteF
  split <;> rfl
theorem noteF_t {α : Al} {p w h : Int32} : aI (noteF α p w h) 0 36 = aI α 0 36 + 1 := by
  unfold noteF
  split <;> exact qI_s
/-- at most n events so far -/
def TT (α : Al) (n : Nat) : Prop := ∃ t, aI α 0 36 = nI t ∧ t ≤ n
theorem TT.note {α : Al} {n : Nat} {p w h : Int32} (H : TT α n) : TT (noteF α p w h) (n + 1) := by
  obtain ⟨t, h1, h2⟩ := H
  exact ⟨t + 1, by rw [noteF_t, h1]; exact nI_1 t, by omega⟩
theorem TT.mono {α : Al} {n m : Nat} (H : TT α n) (h : n ≤ m) : TT α m := by
  obtain ⟨t, h1, h2⟩ := H
  exact ⟨t, h1, Nat.le_trans h2 h⟩
theorem TT.same {α β : Al} {n : Nat} (H : TT α n) (h : aI β 0 36 = aI α 0 36) : TT β n := by
  obtain ⟨t, h1, h2⟩ := H
  exact ⟨t, h.trans h1, h2⟩
theorem passL_I {α : Al} {p k j : Nat} (h1 : k ≠ 29) (h2 : ¬ (k = 0 ∧ j = 36)) : ∀ h, aI (passL α p h) k j = aI α k j
  | 0 => rfl
  | h + 1 => by
    unfold passL
    split
    · rw [noteF_I h1 h2, passL_I h1 h2 h]
    · exact passL_I h1 h2 h
theorem passL_J {α : Al} {p : Nat} : ∀ h, aJ (passL α p h) = aJ α
  | 0 => rfl
  | h + 1 => by
    unfold passL
    split
    · rw [noteF_J, passL_J h]
    · exact passL_J h
theorem passL_D {α : Al} {p : Nat} : ∀ h, aD (passL α p h) = aD α
  | 0 => rfl
  | h + 1 => by
    unfold passL
    split
    · rw [noteF_D, passL_D h]
    · exact passL_D h
theorem passL_T {α : Al} {p n : Nat} (H : TT α n) : ∀ h, TT (passL α p h) (n + h)
  | 0 => H
  | h + 1 => by
    unfold passL
    split
    · exact (passL_T H h).note
    · exact (passL_T H h).mono (by omega)
theorem ix4 (t i : Nat) : (4 : Int32) * nI t + nI i = nI (4 * t + i) := by
  rw [show (4 : Int32) = nI 4 from rfl, pk_mul, nI_add]
theorem ix40 (t : Nat) : (4 : Int32) * nI t = nI (4 * t) := pk_mul 4 t
theorem nI_S (h : Nat) : nI h + Int32.ofInt 1 = nI (h + 1) := nI_1 h
theorem szF_pz {α : Al} {b w : Int32} {n : Nat} (h : ∀ j, j < n → dNn (aD α 22 j)) : ∀ j, j ≤ n → dPz (szF α b w j)
  | 0, _ => pz_0
  | j + 1, hj => by
    unfold szF
    refine dadd_pz (szF_pz h j (by omega)) ?_
    split
    · exact h j (by omega)
    · exact nn_0
theorem pcF_le {α : Al} {b : Int32} : ∀ j, pcF α b j ≤ j
  | 0 => Nat.le_refl _
  | j + 1 => by
    unfold pcF
    have := pcF_le (α := α) (b := b) j
    split <;> omega
theorem ctF_le {α : Al} {s : Int32} : ∀ j, ctF α s j ≤ j
  | 0 => Nat.le_refl _
  | j + 1 => by
    unfold ctF
    have := ctF_le (α := α) (s := s) j
    split <;> omega
/-- a loop's own test: h against a count -/
theorem lt_of_nge {h n : Nat} {v : Int32} (hv : v = nI n) (hh : h < 2 ^ 31) (c : ¬ v ≤ nI h) : h < n := by
  rcases Nat.lt_or_ge h n with q | q
  · exact q
  · exact absurd (by rw [hv]; exact nI_le q hh) c
theorem ge_of_le {h n : Nat} {v : Int32} (hv : v = nI n) (hn : n < 2 ^ 31) (c : v ≤ nI h) (hle : h ≤ n) : h = n := by
  rcases Nat.lt_or_ge h n with q | q
  · exact absurd (by rw [hv] at c; exact c) (nI_ge q hn)
  · omega
theorem ct_s1 {α : Al} {s : Int32} {h : Nat} (c : aI α 25 h = s) : nI (ctF α s h) + 1 = nI (ctF α s (h + 1)) := by
  rw [show ctF α s (h + 1) = ctF α s h + 1 from by rw [ctF, if_pos c]]
  exact nI_1 _
theorem ct_s0 {α : Al} {s : Int32} {h : Nat} (c : ¬ aI α 25 h = s) : nI (ctF α s h) + 0 = nI (ctF α s (h + 1)) := by
  rw [show ctF α s (h + 1) = ctF α s h + 0 from by rw [ctF, if_neg c]]
  exact nI_add _ 0
theorem pc_s1 {α : Al} {b : Int32} {h : Nat} (c : aI α 25 h = 1 ∧ aI α 26 h = b) : nI (pcF α b h) + 1 = nI (pcF α b (h + 1)) := by
  rw [show pcF α b (h + 1) = pcF α b h + 1 from by rw [pcF, if_pos c]]
  exact nI_1 _
theorem pc_s0 {α : Al} {b : Int32} {h : Nat} (c : ¬ (aI α 25 h = 1 ∧ aI α 26 h = b)) : nI (pcF α b h) + 0 = nI (pcF α b (h + 1)) := by
  rw [show pcF α b (h + 1) = pcF α b h + 0 from by rw [pcF, if_neg c]]
  exact nI_add _ 0
theorem sz_s1 {α : Al} {b w : Int32} {h : Nat} (c : nI h = w ∨ (aI α 25 h = 1 ∧ aI α 26 h = b)) : FP.dadd (szF α b w h) (aD α 22 h) = szF α b w (h + 1) := by
  rw [szF, if_pos c]
theorem sz_s0 {α : Al} {b w : Int32} {h : Nat} (c1 : ¬ nI h = w) (c2 : ¬ (aI α 25 h = 1 ∧ aI α 26 h = b)) : FP.dadd (szF α b w h) FP.dconst0 = szF α b w (h + 1) := by
  rw [szF, if_neg (fun z => z.elim c1 c2)]
theorem pass_y {α : Al} {p h : Nat} (c1 : aI (passL α p h) 8 h = aI (passL α p h) 26 p) (c2 : aI (passL α p h) 9 h = aI (passL α p h) 27 p) : passL α p (h + 1) = noteF (passL α p h) (nI p) (if 0 ≤ Op.cmpValue (FP.dcmp (chF (aJ (passL α p h) 0 0) (nI p) (nI h)) (aD (passL α p h) 10 h)) .g then 1 else 2) (nI h) := by
  rw [passL, if_pos ⟨c1, c2⟩]
theorem pass_s {α : Al} {p h : Nat} (c : ¬ (aI (passL α p h) 8 h = aI (passL α p h) 26 p ∧ aI (passL α p h) 9 h = aI (passL α p h) 27 p)) : passL α p (h + 1) = passL α p h := by
  rw [passL, if_neg c]
theorem pass_y1 {α : Al} {p h : Nat} (c1 : aI (passL α p h) 8 h = aI (passL α p h) 26 p) (c2 : aI (passL α p h) 9 h = aI (passL α p h) 27 p) (c3 : 0 ≤ Op.cmpValue (FP.dcmp (chF (aJ (passL α p h) 0 0) (nI p) (nI h)) (aD (passL α p h) 10 h)) .g) : passL α p (h + 1) = noteF (passL α p h) (nI p) 1 (nI h) := by
  rw [pass_y c1 c2, if_pos c3]
theorem pass_y2 {α : Al} {p h : Nat} (c1 : aI (passL α p h) 8 h = aI (passL α p h) 26 p) (c2 : aI (passL α p h) 9 h = aI (passL α p h) 27 p) (c3 : ¬ 0 ≤ Op.cmpValue (FP.dcmp (chF (aJ (passL α p h) 0 0) (nI p) (nI h)) (aD (passL α p h) 10 h)) .g) : passL α p (h + 1) = noteF (passL α p h) (nI p) 2 (nI h) := by
  rw [pass_y c1 c2, if_neg c3]
