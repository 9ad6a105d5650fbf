/-! THE CALLS: what each answers, and what it makes of the state -/
def iB (α : Al) (b : Int32) : Int32 := if b < 0 then 0 else if aI α 0 1 ≤ b then 0 else 1
def op (α : Al) : Bool := decide (aI α 0 26 = 0)
def kBelt (α : Al) (t : Int32) (len : UInt64) : Bool := decide (¬ aI α 0 1 = 6 ∧ ¬ t < 1 ∧ ¬ 1000 < t ∧ ¬ wi len 4602678819172646912 4652007308841189376 = 0 ∧ aI α 0 26 = 0)
def beltF (α : Al) (t : Int32) (len : UInt64) : Al := bif kBelt α t len then qI (qI (qD (qI α 1 (nn (aI α 0 1)) t) 2 (nn (aI α 0 1)) len) 3 (nn (aI α 0 1)) (-1)) 0 1 (aI α 0 1 + 1) else α
def beltA (α : Al) (t : Int32) (len : UInt64) : Int32 := bif kBelt α t len then aI α 0 1 else -1
def kHead (α : Al) (b : Int32) (at' miss : UInt64) : Bool := decide (¬ aI α 0 9 = 8 ∧ ¬ iB α b = 0 ∧ ¬ wi at' FP.dconst0 (aD α 2 (nn b)) = 0 ∧ ¬ wi miss FP.dconst0 FP.dconst1 = 0 ∧ aI α 0 26 = 0)
def plF (at' len : UInt64) (t : Int32) : Int32 := FP.d2i (FP.dmul (FP.ddiv at' len) (FP.i2d t))
def headF (α : Al) (b : Int32) (at' miss : UInt64) : Al := bif kHead α b at' miss then qI (qD (qI (qI α 8 (nn (aI α 0 9)) b) 9 (nn (aI α 0 9)) (plF at' (aD α 2 (nn b)) (aI α 1 (nn b)))) 10 (nn (aI α 0 9)) miss) 0 9 (aI α 0 9 + 1) else α
def headA (α : Al) (b : Int32) (at' miss : UInt64) : Int32 := bif kHead α b at' miss then aI α 0 9 else -1
def kBunk (α : Al) (room : UInt64) : Bool := decide (¬ aI α 0 13 = 4 ∧ ¬ wi room FP.dconst0 4666723172467343360 = 0 ∧ aI α 0 26 = 0)
def bunkF (α : Al) (room : UInt64) : Al := bif kBunk α room then qI (qD α 11 (nn (aI α 0 13)) room) 0 13 (aI α 0 13 + 1) else α
def bunkA (α : Al) (room : UInt64) : Int32 := bif kBunk α room then aI α 0 13 else -1
def jTo (α : Al) (to : Int32) : Bool := decide (to = -1 ∨ (¬ to < 0 ∧ to < aI α 0 1) ∨ (¬ -2 < to ∧ ¬ to ≤ -2 - aI α 0 13))
def kJoin (α : Al) (b to : Int32) : Bool := decide (¬ iB α b = 0 ∧ jTo α to = true ∧ aI α 0 26 = 0)
def joinF (α : Al) (b to : Int32) : Al := bif kJoin α b to then qI α 3 (nn b) to else α
def boA (k : Bool) : Int32 := bif k then 1 else 0
def kRule (α : Al) (b : Int32) (load : UInt64) (s : Int32) : Bool := decide (¬ iB α b = 0 ∧ ¬ wi load FP.dconst0 4666723172467343360 = 0 ∧ ¬ s < 1 ∧ ¬ 1000 < s ∧ aI α 0 26 = 0)
def ruleF (α : Al) (b : Int32) (load : UInt64) (s : Int32) : Al := bif kRule α b load s then qI (qD (qI α 4 (nn b) 1) 5 (nn b) load) 6 (nn b) s else α
def kPick (α : Al) (b : Int32) (rate tires : UInt64) : Bool := decide (¬ aI α 0 20 = 4 ∧ ¬ iB α b = 0 ∧ ¬ wi rate 4593671619917905920 4636737291354636288 = 0 ∧ ¬ wi tires FP.dconst0 4621819117588971520 = 0 ∧ aI α 0 26 = 0)
def picF (α : Al) (b : Int32) (rate tires : UInt64) : Al := bif kPick α b rate tires then qI (qD (qD (qI α 16 (nn (aI α 0 20)) b) 17 (nn (aI α 0 20)) rate) 18 (nn (aI α 0 20)) tires) 0 20 (aI α 0 20 + 1) else α
def picA (α : Al) (b : Int32) (rate tires : UInt64) : Int32 := bif kPick α b rate tires then aI α 0 20 else -1
def kRob (α : Al) (b : Int32) (reach miss : UInt64) : Bool := decide (¬ aI α 0 16 = 4 ∧ ¬ iB α b = 0 ∧ ¬ wi reach FP.dconst0 4621819117588971520 = 0 ∧ ¬ wi miss FP.dconst0 FP.dconst1 = 0 ∧ aI α 0 26 = 0)
def robotF (α : Al) (b : Int32) (reach miss : UInt64) : Al := bif kRob α b reach miss then qI (qD (qD (qI α 13 (nn (aI α 0 16)) b) 14 (nn (aI α 0 16)) reach) 15 (nn (aI α 0 16)) miss) 0 16 (aI α 0 16 + 1) else α
def robotA (α : Al) (b : Int32) (reach miss : UInt64) : Int32 := bif kRob α b reach miss then aI α 0 16 else -1
def kFeed (α : Al) (b t kd : Int32) (size : UInt64) : Bool := decide (¬ aI α 0 26 = 60 ∧ ¬ iB α b = 0 ∧ ¬ t ≤ aI α 0 35 ∧ ¬ 10000 < t ∧ ¬ kd < 0 ∧ ¬ 5 ≤ kd ∧ ¬ wi size FP.dconst0 4621819117588971520 = 0)
def feedF (α : Al) (b t kd : Int32) (size : UInt64) : Al := bif kFeed α b t kd size then qI (qI (qI (qI (qD (qI α 21 (nn (aI α 0 26)) kd) 22 (nn (aI α 0 26)) size) 23 (nn (aI α 0 26)) t) 24 (nn (aI α 0 26)) b) 25 (nn (aI α 0 26)) 0) 0 26 (aI α 0 26 + 1) else α
def kRun (α : Al) (u : Int32) : Bool := decide (¬ u < aI α 0 35 ∧ ¬ 10000 < u)
def runF (α : Al) (u : Int32) : Al := bif kRun α u then runL α (nn u - nn (aI α 0 35)) else α
def runA (α : Al) (u : Int32) : Int32 := bif kRun α u then aI (runF α u) 0 36 else -1
def evA (α : Al) (k w : Int32) : Int32 := if ¬ k < 0 ∧ ¬ aI α 0 36 ≤ k ∧ ¬ 2000 ≤ k ∧ ¬ w < 0 ∧ ¬ 4 ≤ w then aI α 29 (4 * nn k + nn w) else -1
def isK (α : Al) (b kd : Int32) : Int32 := if ¬ iB α b = 0 ∧ ¬ kd < 0 ∧ ¬ 5 ≤ kd then 1 else 0
def outA (α : Al) (b kd : Int32) : Int64 := if isK α b kd = 0 then -1 else (aI α 32 (5 * nn b + nn kd)).toInt64
def inA (α : Al) (np : Nat) : Int64 := (nI (ctF α 1 np) + nI (ctF α 2 np)).toInt64
def jamA (α : Al) (k w : Int32) : Int32 := if ¬ k < 0 ∧ ¬ aI α 0 38 ≤ k ∧ ¬ w < 0 ∧ ¬ 4 ≤ w then aI α 30 (4 * nn k + nn w) else -1
def lostA (α : Al) (c : Int32) : Int64 := if ¬ c < 0 ∧ ¬ 4 ≤ c then aJ α 31 (nn c) else -1
def intA (α : Al) (b kd e : Int32) : UInt64 := if ¬ isK α b kd = 0 ∧ ¬ e < 0 ∧ ¬ 1 < e ∧ 2 ≤ aI α 32 (5 * nn b + nn kd) then FP.ddiv (FP.i2d (if e = 0 then aI α 34 (5 * nn b + nn kd) else aI α 35 (5 * nn b + nn kd))) 4621819117588971520 else 13830554455654793216
/-- how many pieces' times have come -/
def enF (α : Al) : Nat → Nat
  | 0 => 0
  | j + 1 => enF α j + (if aI α 0 35 < aI α 23 j then 0 else 1)
def sameA (α : Al) (np : Nat) : Int32 := if lg_cmp (nI (enF α np)).toInt64 (inA α np + (nI (ctF α 3 np)).toInt64 + (nI (ctF α 4 np)).toInt64 + (nI (ctF α 5 np)).toInt64) = 0 then 1 else 0
def pkA (α : Al) (x : Int64) : Int32 := if ¬ lg_cmp x 0 < 0 ∧ ¬ 0 ≤ lg_cmp x (aI α 0 26).toInt64 then aI α 21 (nn x.toInt32) else -1
theorem op1 {p : Prop} {h : Decidable p} (c : ¬ (if p then (1 : Int32) else 0) = 0) : p := by
  by_cases q : p
  · exact q
  · rw [if_neg q] at c
    exact absurd rfl c
theorem op0 {p : Prop} {h : Decidable p} (c : (if p then (1 : Int32) else 0) = 0) : ¬ p := fun q => by
  rw [if_pos q] at c
  exact absurd c (by decide)
theorem iB_in {α : Al} {b : Int32} {nb : Nat} (h : aI α 0 1 = nI nb) (hn : nb ≤ 6) (c : ¬ iB α b = 0) : ∃ j, j < nb ∧ b = nI j := by
  unfold iB at c
  rcases pk_ix b (n := nb) (by omega) with q | q | q
  · rw [if_pos q] at c
    exact absurd rfl c
  · rw [h, if_pos q] at c
    split at c <;> exact absurd rfl c
  · exact q
theorem nI_m1 (n : Nat) : nI n + 1 - 1 = nI n := by rw [← nI_succ]; exact nI_pred n
theorem iB_1 {α : Al} {b : Int32} (c : iB α b = 0) : ¬ ¬ iB α b = 0 := fun q => q c
theorem isK_in {α : Al} {b kd : Int32} (c : ¬ isK α b kd = 0) : ¬ iB α b = 0 ∧ ¬ kd < 0 ∧ ¬ 5 ≤ kd := by
  unfold isK at c
  by_cases q : ¬ iB α b = 0 ∧ ¬ kd < 0 ∧ ¬ 5 ≤ kd
  · exact q
  · rw [if_neg q] at c
    exact absurd rfl c
theorem kd_in {kd : Int32} (c1 : ¬ kd < 0) (c2 : ¬ 5 ≤ kd) : ∃ j, j < 5 ∧ kd = nI j := by
  rcases pk_ix kd (n := 5) (by omega) with q | q | q
  · exact absurd q c1
  · exact absurd q c2
  · exact q
theorem w_in {w : Int32} (c1 : ¬ w < 0) (c2 : ¬ 4 ≤ w) : ∃ j, j < 4 ∧ w = nI j := by
  rcases pk_ix w (n := 4) (by omega) with q | q | q
  · exact absurd q c1
  · exact absurd q c2
  · exact q
theorem ix5 (b kd : Nat) : (5 : Int32) * nI b + nI kd = nI (5 * b + kd) := by
  rw [show (5 : Int32) = nI 5 from rfl, pk_mul, nI_add]
theorem wi_ok {v a b : UInt64} (h : ¬ wi v a b = 0) : dOk v := by
  intro hn
  apply h
  unfold wi
  have e : FP.dcmp v a = none := by
    show FP.Core.order (FP.Core.val64 v) (FP.Core.val64 a) = none
    rw [hn]
    rfl
  rw [e]
  rfl
