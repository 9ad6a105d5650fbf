def setF (β : Al) (p b : Nat) : Al := qI (qI (qI β 25 p 1) 26 p (nI b)) 27 p 0
def jamF (β : Al) (p b np : Nat) : Al := loseF (qI (qJ (qI (qI (qI (qI (qI β 30 (4 * nn (aI β 0 38)) (aI β 0 35)) 30 (4 * nn (aI β 0 38) + 1) (nI p)) 30 (4 * nn (aI β 0 38) + 2) (nI b)) 30 (4 * nn (aI β 0 38) + 3) (nI (pcF β (nI b) np))) 0 38 (aI β 0 38 + 1)) 31 3 (aJ β 31 3 + (aI β 6 b).toInt64)) 7 b (aI β 0 35 + aI β 6 b)) p 0 3 (nI b)
/-- a piece comes to a belt's start -/
def enterF (α : Al) (p b : Nat) : Al :=
  if aI α 7 b ≤ aI α 0 35 then
    if aI α 4 b = 0 ∨ Op.cmpValue (FP.dcmp (szF (qI α 25 p 0) (nI b) (nI p) (nn (aI α 0 26))) (aD α 5 b)) .l ≤ 0 then
      passL (noteF (setF (qI α 25 p 0) p b) (nI p) 0 (nI b)) p (nn (aI α 0 9))
    else jamF (qI α 25 p 0) p b (nn (aI α 0 26))
  else loseF (qI α 25 p 0) p 1 7 (nI b)
theorem pcF_congr {α β : Al} {b : Int32} (h1 : ∀ j, aI β 25 j = aI α 25 j) (h2 : ∀ j, aI β 26 j = aI α 26 j) : ∀ n, pcF β b n = pcF α b n
  | 0 => rfl
  | n + 1 => by
    unfold pcF
    rw [pcF_congr h1 h2 n, h1, h2]
theorem szF_congr {α β : Al} {b w : Int32} (h1 : ∀ j, aI β 25 j = aI α 25 j) (h2 : ∀ j, aI β 26 j = aI α 26 j) (h3 : ∀ j, aD β 22 j = aD α 22 j) : ∀ n, szF β b w n = szF α b w n
  | 0 => rfl
  | n + 1 => by
    unfold szF
    rw [szF_congr h1 h2 h3 n, h1, h2, h3]
def ff (P : Nat → Bool) : Nat → Nat → Option Nat
  | 0, _ => none
  | m + 1, i => bif P i then some i else ff P m (i + 1)
def robB (α : Al) (p r : Nat) : Bool := decide (aI α 13 r = aI α 26 p ∧ ¬ 0 < Op.cmpValue (FP.dcmp (aD α 22 p) (aD α 14 r)) .g ∧ ¬ Op.cmpValue (FP.dcmp (chF (aJ α 0 0) (nI p) (100 + nI r)) (aD α 15 r)) .l < 0)
def pickB (α : Al) (p h : Nat) : Bool := decide (aI α 16 h = aI α 26 p ∧ ¬ aI α 0 35 < aI α 19 h)
/-- which robot, which picker takes a piece that isn't of kind 0 -/
def robF (α : Al) (p : Nat) : Option Nat := if aI α 21 p ≤ 0 then none else ff (robB α p) (nn (aI α 0 16)) 0
def pickF (α : Al) (p : Nat) : Option Nat := if aI α 21 p ≤ 0 then none else ff (pickB α p) (nn (aI α 0 20)) 0
/-- until when a picker is busy -/
def busyF (now : Int32) (rate tires : UInt64) (took : Int32) : Int32 := now + 1 + FP.d2i (FP.dmul (FP.ddiv 4621819117588971520 rate) (FP.dadd FP.dconst1 (FP.dmul tires (FP.i2d took))))
def takR (α : Al) (p r : Nat) : Al := noteF (qI α 25 p 4) (nI p) 6 (nI r)
def takP (α : Al) (p h : Nat) : Al := noteF (qI (qI (qI α 19 h (busyF (aI α 0 35) (aD α 17 h) (aD α 18 h) (aI α 20 h))) 20 h (aI α 20 h + 1)) 25 p 4) (nI p) 5 (nI h)
def takenF (α : Al) (p : Nat) : Option Al := match robF α p with
  | some r => some (takR α p r)
  | none => match pickF α p with
    | some h => some (takP α p h)
    | none => none
def gapF (α : Al) (at' : Nat) : Al := if aI α 32 at' ≤ 0 then α else
  qI (qI α 34 at' (if aI α 32 at' = 1 ∨ ¬ aI α 34 at' ≤ aI α 0 35 - aI α 33 at' then aI α 0 35 - aI α 33 at' else aI α 34 at')) 35 at' (if aI α 32 at' = 1 ∨ ¬ aI α 0 35 - aI α 33 at' ≤ aI α 35 at' then aI α 0 35 - aI α 33 at' else aI α 35 at')
/-- a piece goes out -/
def outF (α : Al) (p at' : Nat) : Al := noteF (qI (qI (qI (gapF α at') 32 at' (aI α 32 at' + 1)) 33 at' (aI α 0 35)) 25 p 3) (nI p) 4 (aI α 26 p)
def atF (α : Al) (p : Nat) : Nat := 5 * nn (aI α 26 p) + nn (aI α 21 p)
def fillF (α : Al) (p k : Nat) : Al := if 0 < Op.cmpValue (FP.dcmp (FP.dadd (aD α 12 k) (aD α 22 p)) (aD α 11 k)) .g then loseF α p 2 8 (nI k) else noteF (qI (qD α 12 k (FP.dadd (aD α 12 k) (aD α 22 p))) 25 p 2) (nI p) 9 (nI k)
/-- a piece that nobody took goes on -/
def goF (α : Al) (p : Nat) (to : Int32) : Al := if to < 0 then (if to = -1 then outF α p (atF α p) else fillF α p (nn (-2 - to))) else enterF α p (nn to)
def mv1 (α : Al) (j : Nat) : Al := qI (qI α 28 j (if aI α 25 j = 1 ∧ ¬ aI α 0 35 ≤ aI α 7 (nn (aI α 26 j)) then 1 else 0)) 27 j (aI α 27 j + (if aI α 25 j = 1 ∧ ¬ aI α 0 35 ≤ aI α 7 (nn (aI α 26 j)) then 1 else 0))
def mvL (α : Al) : Nat → Al
  | 0 => α
  | j + 1 => mv1 (mvL α j) j
/-- at its place, behind the heads: at the belt's end it is taken or goes on -/
def endF (β : Al) (p : Nat) : Al := if aI β 27 p = aI β 1 (nn (aI β 26 p)) then (match takenF β p with
  | some γ => γ
  | none => goF β p (aI β 3 (nn (aI β 26 p)))) else β
def act1 (α : Al) (p : Nat) : Al := if aI α 25 p = 0 ∧ aI α 23 p = aI α 0 35 then enterF α p (nn (aI α 24 p)) else if aI α 28 p = 0 then α else endF (passL α p (nn (aI α 0 9))) p
def actL (α : Al) : Nat → Al
  | 0 => α
  | j + 1 => act1 (actL α j) j
def tenthF (α : Al) : Al := actL (mvL (qI α 0 35 (aI α 0 35 + 1)) (nn (aI α 0 26))) (nn (aI α 0 26))
def runL (α : Al) : Nat → Al
  | 0 => α
  | m + 1 => tenthF (runL α m)
theorem nn_nI {n : Nat} (h : n < 2 ^ 31) : nn (nI n) = n := nI_clamp h
def PkOk (rate tires : UInt64) (took : Int32) : Prop := vf_n64 (FP.ddiv 4621819117588971520 rate) ∧ vf_n64 (FP.dmul tires (FP.i2d took)) ∧ vf_n64 (FP.dadd FP.dconst1 (FP.dmul tires (FP.i2d took))) ∧ vf_n64 (FP.dmul (FP.ddiv 4621819117588971520 rate) (FP.dadd FP.dconst1 (FP.dmul tires (FP.i2d took))))
/-- a search, from i on, that has m places left -/
def scn (o : Option Nat) (c : Int32) (P : Nat → Bool) (m i : Nat) : Prop := o = if c ≤ 0 then none else ff P m i
theorem scn.z {o : Option Nat} {c : Int32} {P : Nat → Bool} {i : Nat} (h : scn o c P 0 i) : o = none := by
  unfold scn at h
  rw [h]
  split <;> rfl
theorem scn.c {o : Option Nat} {c : Int32} {P : Nat → Bool} {m i : Nat} (h : scn o c P m i) (hc : c ≤ 0) : o = none := by
  unfold scn at h
  rw [h, if_pos hc]
theorem scn.y {o : Option Nat} {c : Int32} {P : Nat → Bool} {m i : Nat} (h : scn o c P (m + 1) i) (hc : ¬ c ≤ 0) (hp : P i = true) : o = some i := by
  unfold scn at h
  rw [h, if_neg hc]
  unfold ff
  rw [hp]
  rfl
theorem scn.n {o : Option Nat} {c : Int32} {P : Nat → Bool} {m i : Nat} (h : scn o c P (m + 1) i) (hc : ¬ c ≤ 0) (hp : P i = false) : scn o c P m (i + 1) := by
  unfold scn at h ⊢
  rw [h, if_neg hc, if_neg hc]
  rw [show ff P (m + 1) i = bif P i then some i else ff P m (i + 1) from rfl, hp]
  rfl
def takPost (S : St) (α : Al) (p : Nat) (r : Option Value) (S' : St) : Prop := match takenF α p with
  | some γ => r = some (.int 1) ∧ S' = wr S γ
  | none => r = some (.int 0) ∧ S' = wr S α
theorem takPost.r {S : St} {α : Al} {p r : Nat} (h : robF α p = some r) : takPost S α p (some (.int 1)) (wr S (takR α p r)) := by
  unfold takPost takenF
  rw [h]
  exact ⟨rfl, rfl⟩
theorem takPost.p {S : St} {α : Al} {p h : Nat} (h1 : robF α p = none) (h2 : pickF α p = some h) : takPost S α p (some (.int 1)) (wr S (takP α p h)) := by
  unfold takPost takenF
  rw [h1]
  dsimp only
  rw [h2]
  exact ⟨rfl, rfl⟩
theorem takPost.n {S : St} {α : Al} {p : Nat} (h1 : robF α p = none) (h2 : pickF α p = none) : takPost S α p (some (.int 0)) (wr S α) := by
  unfold takPost takenF
  rw [h1]
  dsimp only
  rw [h2]
  exact ⟨rfl, rfl⟩
theorem m2_2 {k : Nat} (h : k < 4) : (-2 : Int32) - (-2 - nI k) = nI k := by
  match k, h with
  | 0, _ => decide
  | 1, _ => decide
  | 2, _ => decide
  | 3, _ => decide
theorem m2_n {k : Nat} (h : k < 4) : (-2 : Int32) - nI k < 0 := by
  match k, h with
  | 0, _ => decide
  | 1, _ => decide
  | 2, _ => decide
  | 3, _ => decide
theorem m2_m {k : Nat} (h : k < 4) : ¬ (-2 : Int32) - nI k = -1 := by
  match k, h with
  | 0, _ => decide
  | 1, _ => decide
  | 2, _ => decide
  | 3, _ => decide
