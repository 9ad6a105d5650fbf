abbrev rm (f c s w : Nat) : Room := { frames := f, cells := c, slots := s, locals := w }
/-- a double within its bounds, as both sides ask it -/
def wi (v a b : UInt64) : Int32 := if Op.cmpValue (FP.dcmp v a) .l < 0 then 0 else if 0 < Op.cmpValue (FP.dcmp v b) .g then 0 else 1
set_option maxHeartbeats 4000000 in
set_option maxRecDepth 100000 in
theorem c_9_within (l : Launch) (S : St) (v a b : UInt64)  : Ct l yX9_within cX9_within 6 (some .boolean) (rm 0 0 0 0) [.double v, .double a, .double b] S (fun r S' => r = some (.int (wi v a b)) ∧ S' = S) := by
  refine Ct.of (by decide) (Nat.le_of_ble_eq_true rfl) (fun X hM => ?_)
  have hO := hM.1
  obtain rfl := hM.l
  show Jg X 0 0 S 0 [(0, .double v), (2, .double a), (4, .double b)] []
  refine j_dload_n (q := 1) hO dX9_within_0 rfl rfl ?_
  refine j_dload_n (q := 2) hO dX9_within_1 rfl rfl ?_
  refine j_dcmp (q := 3) hO dX9_within_2 rfl ?_
  refine j_if_lt (tgt := 17) (q := 6) hO dX9_within_3 rfl (by decide) (fun c_3_0 => ?_) (fun c_3_0 => ?_)
  · refine j_iconst (v := 0) (q := 18) hO dX9_within_17 rfl (by decide) ?_
    exact j_zret hM dX9_within_18 (Nat.le_of_ble_eq_true rfl) (Nat.le_of_ble_eq_true rfl) (by decide) ⟨by unfold wi; simp [*], rfl⟩
  · refine j_dload_n (q := 7) hO dX9_within_6 rfl rfl ?_
    refine j_dload (q := 9) hO dX9_within_7 rfl rfl ?_
    refine j_dcmp (q := 10) hO dX9_within_9 rfl ?_
    refine j_if_gt (tgt := 17) (q := 13) hO dX9_within_10 rfl (by decide) (fun c_10_1 => ?_) (fun c_10_1 => ?_)
    · refine j_iconst (v := 0) (q := 18) hO dX9_within_17 rfl (by decide) ?_
      exact j_zret hM dX9_within_18 (Nat.le_of_ble_eq_true rfl) (Nat.le_of_ble_eq_true rfl) (by decide) ⟨by unfold wi; simp [*], rfl⟩
    · refine j_iconst (v := 1) (q := 14) hO dX9_within_13 rfl (by decide) ?_
      refine j_goto (tgt := 18) hO dX9_within_14 (by decide) ?_
      exact j_zret hM dX9_within_18 (Nat.le_of_ble_eq_true rfl) (Nat.le_of_ble_eq_true rfl) (by decide) ⟨by unfold wi; simp [*], rfl⟩
set_option maxHeartbeats 4000000 in
set_option maxRecDepth 100000 in
theorem c_10_isIn (l : Launch) (S : St) (v a b : UInt64)  : Ct l yX10_isIn cX10_isIn 6 (some .boolean) (rm 0 0 0 0) [.double v, .double a, .double b] S (fun r S' => r = some (.int (wi v a b)) ∧ S' = S) := by
  refine Ct.of (by decide) (Nat.le_of_ble_eq_true rfl) (fun X hM => ?_)
  have hO := hM.1
  obtain rfl := hM.l
  show Jg X 0 0 S 0 [(0, .double v), (2, .double a), (4, .double b)] []
  refine j_dload_n (q := 1) hO dX10_isIn_0 rfl rfl ?_
  refine j_dload_n (q := 2) hO dX10_isIn_1 rfl rfl ?_
  refine j_dcmp (q := 3) hO dX10_isIn_2 rfl ?_
  refine j_if_lt (tgt := 17) (q := 6) hO dX10_isIn_3 rfl (by decide) (fun c_3_0 => ?_) (fun c_3_0 => ?_)
  · refine j_iconst (v := 0) (q := 18) hO dX10_isIn_17 rfl (by decide) ?_
    exact j_zret hM dX10_isIn_18 (Nat.le_of_ble_eq_true rfl) (Nat.le_of_ble_eq_true rfl) (by decide) ⟨by unfold wi; simp [*], rfl⟩
  · refine j_dload_n (q := 7) hO dX10_isIn_6 rfl rfl ?_
    refine j_dload (q := 9) hO dX10_isIn_7 rfl rfl ?_
    refine j_dcmp (q := 10) hO dX10_isIn_9 rfl ?_
    refine j_if_gt (tgt := 17) (q := 13) hO dX10_isIn_10 rfl (by decide) (fun c_10_1 => ?_) (fun c_10_1 => ?_)
    · refine j_iconst (v := 0) (q := 18) hO dX10_isIn_17 rfl (by decide) ?_
      exact j_zret hM dX10_isIn_18 (Nat.le_of_ble_eq_true rfl) (Nat.le_of_ble_eq_true rfl) (by decide) ⟨by unfold wi; simp [*], rfl⟩
    · refine j_iconst (v := 1) (q := 14) hO dX10_isIn_13 rfl (by decide) ?_
      refine j_goto (tgt := 18) hO dX10_isIn_14 (by decide) ?_
      exact j_zret hM dX10_isIn_18 (Nat.le_of_ble_eq_true rfl) (Nat.le_of_ble_eq_true rfl) (by decide) ⟨by unfold wi; simp [*], rfl⟩
def ik (x : Int32) : Int32 := if x < 0 then 0 else if 5 ≤ x then 0 else 1
set_option maxHeartbeats 4000000 in
set_option maxRecDepth 100000 in
theorem c_9_isKind (l : Launch) (S : St) (x : Int32)  : Ct l yX9_isKind cX9_isKind 1 (some .boolean) (rm 0 0 0 0) [.int x] S (fun r S' => r = some (.int (ik x)) ∧ S' = S) := by
  refine Ct.of (by decide) (Nat.le_of_ble_eq_true rfl) (fun X hM => ?_)
  have hO := hM.1
  obtain rfl := hM.l
  show Jg X 0 0 S 0 [(0, .int x)] []
  refine j_iload_n (q := 1) hO dX9_isKind_0 rfl rfl ?_
  refine j_if_lt (tgt := 13) (q := 4) hO dX9_isKind_1 rfl (by decide) (fun c_1_0 => ?_) (fun c_1_0 => ?_)
  · refine j_iconst (v := 0) (q := 14) hO dX9_isKind_13 rfl (by decide) ?_
    exact j_zret hM dX9_isKind_14 (Nat.le_of_ble_eq_true rfl) (Nat.le_of_ble_eq_true rfl) (by decide) ⟨by unfold ik; simp [*], rfl⟩
  · refine j_iload_n (q := 5) hO dX9_isKind_4 rfl rfl ?_
    refine j_iconst (v := 5) (q := 6) hO dX9_isKind_5 rfl (by decide) ?_
    refine j_icmp_ge (tgt := 13) (q := 9) hO dX9_isKind_6 rfl (by decide) (fun c_6_1 => ?_) (fun c_6_1 => ?_)
    · refine j_iconst (v := 0) (q := 14) hO dX9_isKind_13 rfl (by decide) ?_
      exact j_zret hM dX9_isKind_14 (Nat.le_of_ble_eq_true rfl) (Nat.le_of_ble_eq_true rfl) (by decide) ⟨by unfold ik; simp [*], rfl⟩
    · refine j_iconst (v := 1) (q := 10) hO dX9_isKind_9 rfl (by decide) ?_
      refine j_goto (tgt := 14) hO dX9_isKind_10 (by decide) ?_
      exact j_zret hM dX9_isKind_14 (Nat.le_of_ble_eq_true rfl) (Nat.le_of_ble_eq_true rfl) (by decide) ⟨by unfold ik; simp [*], rfl⟩
set_option maxHeartbeats 4000000 in
set_option maxRecDepth 100000 in
theorem c_9_isClosed (l : Launch) (S : St)  (h9 : 0 < sC S 9) : Ct l yX9_isClosed cX9_isClosed 1 (some .boolean) (rm 0 0 0 0) [.ref (sA S 9 0)] S (fun r S' => r = some (.int (if sI S 9 0 15 ≤ 0 then 0 else 1)) ∧ S' = S) := by
  refine Ct.of (by decide) (Nat.le_of_ble_eq_true rfl) (fun X hM => ?_)
  have hO := hM.1
  obtain rfl := hM.l
  show Jg X 0 0 S 0 [(0, .ref (sA S 9 0))] []
  refine j_aload_n (q := 1) hO dX9_isClosed_0 rfl rfl ?_
  refine j_getI (x := 9) (j := 15) (q := 4) hO CK_9 dX9_isClosed_1 rfl mw_87 rfl (by assumption) rfl rfl (by decide) (Or.inl rfl) ?_
  refine j_if_le (tgt := 11) (q := 7) hO dX9_isClosed_4 rfl (by decide) (fun c_4_0 => ?_) (fun c_4_0 => ?_)
  · refine j_iconst (v := 0) (q := 12) hO dX9_isClosed_11 rfl (by decide) ?_
    exact j_zret hM dX9_isClosed_12 (Nat.le_of_ble_eq_true rfl) (Nat.le_of_ble_eq_true rfl) (by decide) ⟨by simp [*], rfl⟩
  · refine j_iconst (v := 1) (q := 8) hO dX9_isClosed_7 rfl (by decide) ?_
    refine j_goto (tgt := 12) hO dX9_isClosed_8 (by decide) ?_
    exact j_zret hM dX9_isClosed_12 (Nat.le_of_ble_eq_true rfl) (Nat.le_of_ble_eq_true rfl) (by decide) ⟨by simp [*], rfl⟩
set_option maxHeartbeats 4000000 in
set_option maxRecDepth 100000 in
theorem c_10_isOpen (l : Launch) (S : St)  (h10 : 0 < sC S 10) : Ct l yX10_isOpen cX10_isOpen 1 (some .boolean) (rm 0 0 0 0) [.ref (sA S 10 0)] S (fun r S' => r = some (.int (if sI S 10 0 26 = 0 then 1 else 0)) ∧ S' = S) := by
  refine Ct.of (by decide) (Nat.le_of_ble_eq_true rfl) (fun X hM => ?_)
  have hO := hM.1
  obtain rfl := hM.l
  show Jg X 0 0 S 0 [(0, .ref (sA S 10 0))] []
  refine j_aload_n (q := 1) hO dX10_isOpen_0 rfl rfl ?_
  refine j_getI (x := 10) (j := 26) (q := 4) hO CK_10 dX10_isOpen_1 rfl mw_524 rfl (by assumption) rfl rfl (by decide) (Or.inl rfl) ?_
  refine j_if_ne (tgt := 11) (q := 7) hO dX10_isOpen_4 rfl (by decide) (fun c_4_0 => ?_) (fun c_4_0 => ?_)
  · refine j_iconst (v := 0) (q := 12) hO dX10_isOpen_11 rfl (by decide) ?_
    exact j_zret hM dX10_isOpen_12 (Nat.le_of_ble_eq_true rfl) (Nat.le_of_ble_eq_true rfl) (by decide) ⟨by simp [*], rfl⟩
  · refine j_iconst (v := 1) (q := 8) hO dX10_isOpen_7 rfl (by decide) ?_
    refine j_goto (tgt := 12) hO dX10_isOpen_8 (by decide) ?_
    exact j_zret hM dX10_isOpen_12 (Nat.le_of_ble_eq_true rfl) (Nat.le_of_ble_eq_true rfl) (by decide) ⟨by simp [*], rfl⟩
set_option maxHeartbeats 4000000 in
set_option maxRecDepth 100000 in
theorem c_10_isBelt (l : Launch) (S : St) (b : Int32) (h10 : 0 < sC S 10) : Ct l yX10_isBelt cX10_isBelt 2 (some .boolean) (rm 0 0 0 0) [.ref (sA S 10 0), .int b] S (fun r S' => r = some (.int (if b < 0 then 0 else if sI S 10 0 1 ≤ b then 0 else 1)) ∧ S' = S) := by
  refine Ct.of (by decide) (Nat.le_of_ble_eq_true rfl) (fun X hM => ?_)
  have hO := hM.1
  obtain rfl := hM.l
  show Jg X 0 0 S 0 [(0, .ref (sA S 10 0)), (1, .int b)] []
  refine j_iload_n (q := 1) hO dX10_isBelt_0 rfl rfl ?_
  refine j_if_lt (tgt := 16) (q := 4) hO dX10_isBelt_1 rfl (by decide) (fun c_1_0 => ?_) (fun c_1_0 => ?_)
  · refine j_iconst (v := 0) (q := 17) hO dX10_isBelt_16 rfl (by decide) ?_
    exact j_zret hM dX10_isBelt_17 (Nat.le_of_ble_eq_true rfl) (Nat.le_of_ble_eq_true rfl) (by decide) ⟨by simp [*], rfl⟩
  · refine j_iload_n (q := 5) hO dX10_isBelt_4 rfl rfl ?_
    refine j_aload_n (q := 6) hO dX10_isBelt_5 rfl rfl ?_
    refine j_getI (x := 10) (j := 1) (q := 9) hO CK_10 dX10_isBelt_6 rfl mw_499 rfl (by assumption) rfl rfl (by decide) (Or.inl rfl) ?_
    refine j_icmp_ge (tgt := 16) (q := 12) hO dX10_isBelt_9 rfl (by decide) (fun c_9_1 => ?_) (fun c_9_1 => ?_)
    · refine j_iconst (v := 0) (q := 17) hO dX10_isBelt_16 rfl (by decide) ?_
      exact j_zret hM dX10_isBelt_17 (Nat.le_of_ble_eq_true rfl) (Nat.le_of_ble_eq_true rfl) (by decide) ⟨by simp [*], rfl⟩
    · refine j_iconst (v := 1) (q := 13) hO dX10_isBelt_12 rfl (by decide) ?_
      refine j_goto (tgt := 17) hO dX10_isBelt_13 (by decide) ?_
      exact j_zret hM dX10_isBelt_17 (Nat.le_of_ble_eq_true rfl) (Nat.le_of_ble_eq_true rfl) (by decide) ⟨by simp [*], rfl⟩
