set_option maxHeartbeats 4000000 in
set_option maxRecDepth 100000 in
theorem c_1_init (l : Launch) (S : St) (h : Nat) (v : Int32) (w : UInt64) (hh : h < sC S 1)  : Ct l yX1_init cX1_init 4 (none : Option Jvm.ClassFile.FieldType) (rm 1 0 0 20) [.ref (sA S 1 h), .int v, .double w] S (fun r S' => r = none ∧ S' = pD (pI S 1 h 0 v) 1 h 1 w) := by
  refine Ct.of (by decide) (Nat.le_of_ble_eq_true rfl) (fun X hM => ?_)
  have hO := hM.1
  obtain rfl := hM.l
  have hIn := hM.nm
  show Jg X 0 0 S 0 [(0, .ref (sA S 1 h)), (1, .int v), (2, .double w)] []
  refine j_aload_n (q := 1) hO dX1_init_0 rfl rfl ?_
  refine j_obj (q := 4) hO mw_240 mw_19 mw_20 dX1_init_1 rfl (by rw [hM.R]; exact ⟨Nat.le_of_ble_eq_true rfl, Nat.le_of_ble_eq_true rfl⟩) ?_
  refine j_aload_n (q := 5) hO dX1_init_4 rfl rfl ?_
  refine j_iload_n (q := 6) hO dX1_init_5 rfl rfl ?_
  refine j_putFI (x := 1) (j := 0) (q := 9) hO hIn CK_1 dX1_init_6 rfl mw_241 rfl hh rfl rfl (by decide) rfl rfl (by decide +kernel) rfl ?_
  refine j_aload_n (q := 10) hO dX1_init_9 rfl rfl ?_
  refine j_dload_n (q := 11) hO dX1_init_10 rfl rfl ?_
  refine j_putFD (x := 1) (j := 1) (q := 14) hO hIn CK_1 dX1_init_11 rfl mw_243 rfl hh rfl rfl (by decide) rfl rfl (by decide +kernel) rfl ?_
  exact j_vret hM dX1_init_14 (Nat.le_of_ble_eq_true rfl) (Nat.le_of_ble_eq_true rfl) ⟨rfl, rfl⟩
set_option maxHeartbeats 4000000 in
set_option maxRecDepth 100000 in
theorem c_2_init (l : Launch) (S : St) (h : Nat) (b : Nat) (v : Int32) (w : UInt64) (hh : h < sC S 2) (hb : b < sC S 0) : Ct l yX2_init cX2_init 5 (none : Option Jvm.ClassFile.FieldType) (rm 1 0 0 20) [.ref (sA S 2 h), .ref (sA S 0 b), .int v, .double w] S (fun r S' => r = none ∧ S' = pD (pI (pR S 2 h 0 (some b)) 2 h 1 v) 2 h 2 w) := by
  refine Ct.of (by decide) (Nat.le_of_ble_eq_true rfl) (fun X hM => ?_)
  have hO := hM.1
  obtain rfl := hM.l
  have hIn := hM.nm
  show Jg X 0 0 S 0 [(0, .ref (sA S 2 h)), (1, .ref (sA S 0 b)), (2, .int v), (3, .double w)] []
  refine j_aload_n (q := 1) hO dX2_init_0 rfl rfl ?_
  refine j_obj (q := 4) hO mw_217 mw_19 mw_20 dX2_init_1 rfl (by rw [hM.R]; exact ⟨Nat.le_of_ble_eq_true rfl, Nat.le_of_ble_eq_true rfl⟩) ?_
  refine j_aload_n (q := 5) hO dX2_init_4 rfl rfl ?_
  refine j_aload_n (q := 6) hO dX2_init_5 rfl rfl ?_
  refine j_putFR (fty := tyX2 0) (x := 2) (j := 0) (q := 9) hO hIn CK_2 dX2_init_6 rfl mw_218 rfl hh rfl rfl (by decide) rfl rfl (by decide +kernel) rfl rfl rfl (r := b) rfl hb ?_
  refine j_aload_n (q := 10) hO dX2_init_9 rfl rfl ?_
  refine j_iload_n (q := 11) hO dX2_init_10 rfl rfl ?_
  refine j_putFI (x := 2) (j := 1) (q := 14) hO hIn CK_2 dX2_init_11 rfl mw_220 rfl hh rfl rfl (by decide) rfl rfl (by decide +kernel) rfl ?_
  refine j_aload_n (q := 15) hO dX2_init_14 rfl rfl ?_
  refine j_dload_n (q := 16) hO dX2_init_15 rfl rfl ?_
  refine j_putFD (x := 2) (j := 2) (q := 19) hO hIn CK_2 dX2_init_16 rfl mw_222 rfl hh rfl rfl (by decide) rfl rfl (by decide +kernel) rfl ?_
  exact j_vret hM dX2_init_19 (Nat.le_of_ble_eq_true rfl) (Nat.le_of_ble_eq_true rfl) ⟨rfl, rfl⟩
set_option maxHeartbeats 4000000 in
set_option maxRecDepth 100000 in
theorem c_4_init (l : Launch) (S : St) (h : Nat)  (hh : h < sC S 4)  : Ct l yX4_init cX4_init 1 (none : Option Jvm.ClassFile.FieldType) (rm 1 0 0 20) [.ref (sA S 4 h)] S (fun r S' => r = none ∧ S' = S) := by
  refine Ct.of (by decide) (Nat.le_of_ble_eq_true rfl) (fun X hM => ?_)
  have hO := hM.1
  obtain rfl := hM.l
  have hIn := hM.nm
  show Jg X 0 0 S 0 [(0, .ref (sA S 4 h))] []
  refine j_aload_n (q := 1) hO dX4_init_0 rfl rfl ?_
  refine j_obj (q := 4) hO mw_148 mw_19 mw_20 dX4_init_1 rfl (by rw [hM.R]; exact ⟨Nat.le_of_ble_eq_true rfl, Nat.le_of_ble_eq_true rfl⟩) ?_
  exact j_vret hM dX4_init_4 (Nat.le_of_ble_eq_true rfl) (Nat.le_of_ble_eq_true rfl) ⟨rfl, rfl⟩
set_option maxHeartbeats 4000000 in
set_option maxRecDepth 100000 in
theorem c_5_init (l : Launch) (S : St) (h : Nat) (b : Nat) (v w : UInt64) (hh : h < sC S 5) (hb : b < sC S 0) : Ct l yX5_init cX5_init 6 (none : Option Jvm.ClassFile.FieldType) (rm 1 0 0 20) [.ref (sA S 5 h), .ref (sA S 0 b), .double v, .double w] S (fun r S' => r = none ∧ S' = pD (pD (pR S 5 h 0 (some b)) 5 h 1 v) 5 h 2 w) := by
  refine Ct.of (by decide) (Nat.le_of_ble_eq_true rfl) (fun X hM => ?_)
  have hO := hM.1
  obtain rfl := hM.l
  have hIn := hM.nm
  show Jg X 0 0 S 0 [(0, .ref (sA S 5 h)), (1, .ref (sA S 0 b)), (2, .double v), (4, .double w)] []
  refine j_aload_n (q := 1) hO dX5_init_0 rfl rfl ?_
  refine j_obj (q := 4) hO mw_276 mw_19 mw_20 dX5_init_1 rfl (by rw [hM.R]; exact ⟨Nat.le_of_ble_eq_true rfl, Nat.le_of_ble_eq_true rfl⟩) ?_
  refine j_aload_n (q := 5) hO dX5_init_4 rfl rfl ?_
  refine j_aload_n (q := 6) hO dX5_init_5 rfl rfl ?_
  refine j_putFR (fty := tyX5 0) (x := 5) (j := 0) (q := 9) hO hIn CK_5 dX5_init_6 rfl mw_277 rfl hh rfl rfl (by decide) rfl rfl (by decide +kernel) rfl rfl rfl (r := b) rfl hb ?_
  refine j_aload_n (q := 10) hO dX5_init_9 rfl rfl ?_
  refine j_dload_n (q := 11) hO dX5_init_10 rfl rfl ?_
  refine j_putFD (x := 5) (j := 1) (q := 14) hO hIn CK_5 dX5_init_11 rfl mw_279 rfl hh rfl rfl (by decide) rfl rfl (by decide +kernel) rfl ?_
  refine j_aload_n (q := 15) hO dX5_init_14 rfl rfl ?_
  refine j_dload (q := 17) hO dX5_init_15 rfl rfl ?_
  refine j_putFD (x := 5) (j := 2) (q := 20) hO hIn CK_5 dX5_init_17 rfl mw_280 rfl hh rfl rfl (by decide) rfl rfl (by decide +kernel) rfl ?_
  exact j_vret hM dX5_init_20 (Nat.le_of_ble_eq_true rfl) (Nat.le_of_ble_eq_true rfl) ⟨rfl, rfl⟩
set_option maxHeartbeats 4000000 in
set_option maxRecDepth 100000 in
theorem c_7_init (l : Launch) (S : St) (h : Nat) (b : Nat) (v w : UInt64) (hh : h < sC S 7) (hb : b < sC S 0) : Ct l yX7_init cX7_init 6 (none : Option Jvm.ClassFile.FieldType) (rm 1 0 0 20) [.ref (sA S 7 h), .ref (sA S 0 b), .double v, .double w] S (fun r S' => r = none ∧ S' = pD (pD (pR S 7 h 0 (some b)) 7 h 1 v) 7 h 2 w) := by
  refine Ct.of (by decide) (Nat.le_of_ble_eq_true rfl) (fun X hM => ?_)
  have hO := hM.1
  obtain rfl := hM.l
  have hIn := hM.nm
  show Jg X 0 0 S 0 [(0, .ref (sA S 7 h)), (1, .ref (sA S 0 b)), (2, .double v), (4, .double w)] []
  refine j_aload_n (q := 1) hO dX7_init_0 rfl rfl ?_
  refine j_obj (q := 4) hO mw_303 mw_19 mw_20 dX7_init_1 rfl (by rw [hM.R]; exact ⟨Nat.le_of_ble_eq_true rfl, Nat.le_of_ble_eq_true rfl⟩) ?_
  refine j_aload_n (q := 5) hO dX7_init_4 rfl rfl ?_
  refine j_aload_n (q := 6) hO dX7_init_5 rfl rfl ?_
  refine j_putFR (fty := tyX7 0) (x := 7) (j := 0) (q := 9) hO hIn CK_7 dX7_init_6 rfl mw_304 rfl hh rfl rfl (by decide) rfl rfl (by decide +kernel) rfl rfl rfl (r := b) rfl hb ?_
  refine j_aload_n (q := 10) hO dX7_init_9 rfl rfl ?_
  refine j_dload_n (q := 11) hO dX7_init_10 rfl rfl ?_
  refine j_putFD (x := 7) (j := 1) (q := 14) hO hIn CK_7 dX7_init_11 rfl mw_306 rfl hh rfl rfl (by decide) rfl rfl (by decide +kernel) rfl ?_
  refine j_aload_n (q := 15) hO dX7_init_14 rfl rfl ?_
  refine j_dload (q := 17) hO dX7_init_15 rfl rfl ?_
  refine j_putFD (x := 7) (j := 2) (q := 20) hO hIn CK_7 dX7_init_17 rfl mw_308 rfl hh rfl rfl (by decide) rfl rfl (by decide +kernel) rfl ?_
  exact j_vret hM dX7_init_20 (Nat.le_of_ble_eq_true rfl) (Nat.le_of_ble_eq_true rfl) ⟨rfl, rfl⟩
set_option maxHeartbeats 4000000 in
set_option maxRecDepth 100000 in
theorem c_6_init (l : Launch) (S : St) (h : Nat) (b : Nat) (u t kd : Int32) (w : UInt64) (hh : h < sC S 6) (hb : b < sC S 0) : Ct l yX6_init cX6_init 7 (none : Option Jvm.ClassFile.FieldType) (rm 1 0 0 20) [.ref (sA S 6 h), .int u, .ref (sA S 0 b), .int t, .int kd, .double w] S (fun r S' => r = none ∧ S' = pD (pI (pI (pR (pI S 6 h 0 u) 6 h 1 (some b)) 6 h 2 t) 6 h 3 kd) 6 h 4 w) := by
  refine Ct.of (by decide) (Nat.le_of_ble_eq_true rfl) (fun X hM => ?_)
  have hO := hM.1
  obtain rfl := hM.l
  have hIn := hM.nm
  show Jg X 0 0 S 0 [(0, .ref (sA S 6 h)), (1, .int u), (2, .ref (sA S 0 b)), (3, .int t), (4, .int kd), (5, .double w)] []
  refine j_aload_n (q := 1) hO dX6_init_0 rfl rfl ?_
  refine j_obj (q := 4) hO mw_328 mw_19 mw_20 dX6_init_1 rfl (by rw [hM.R]; exact ⟨Nat.le_of_ble_eq_true rfl, Nat.le_of_ble_eq_true rfl⟩) ?_
  refine j_aload_n (q := 5) hO dX6_init_4 rfl rfl ?_
  refine j_iload_n (q := 6) hO dX6_init_5 rfl rfl ?_
  refine j_putFI (x := 6) (j := 0) (q := 9) hO hIn CK_6 dX6_init_6 rfl mw_329 rfl hh rfl rfl (by decide) rfl rfl (by decide +kernel) rfl ?_
  refine j_aload_n (q := 10) hO dX6_init_9 rfl rfl ?_
  refine j_aload_n (q := 11) hO dX6_init_10 rfl rfl ?_
  refine j_putFR (fty := tyX6 1) (x := 6) (j := 1) (q := 14) hO hIn CK_6 dX6_init_11 rfl mw_331 rfl hh rfl rfl (by decide) rfl rfl (by decide +kernel) rfl rfl rfl (r := b) rfl hb ?_
  refine j_aload_n (q := 15) hO dX6_init_14 rfl rfl ?_
  refine j_iload_n (q := 16) hO dX6_init_15 rfl rfl ?_
  refine j_putFI (x := 6) (j := 2) (q := 19) hO hIn CK_6 dX6_init_16 rfl mw_333 rfl hh rfl rfl (by decide) rfl rfl (by decide +kernel) rfl ?_
  refine j_aload_n (q := 20) hO dX6_init_19 rfl rfl ?_
  refine j_iload (q := 22) hO dX6_init_20 rfl rfl ?_
  refine j_putFI (x := 6) (j := 3) (q := 25) hO hIn CK_6 dX6_init_22 rfl mw_335 rfl hh rfl rfl (by decide) rfl rfl (by decide +kernel) rfl ?_
  refine j_aload_n (q := 26) hO dX6_init_25 rfl rfl ?_
  refine j_dload (q := 28) hO dX6_init_26 rfl rfl ?_
  refine j_putFD (x := 6) (j := 4) (q := 31) hO hIn CK_6 dX6_init_28 rfl mw_337 rfl hh rfl rfl (by decide) rfl rfl (by decide +kernel) rfl ?_
  exact j_vret hM dX6_init_31 (Nat.le_of_ble_eq_true rfl) (Nat.le_of_ble_eq_true rfl) ⟨rfl, rfl⟩
set_option maxHeartbeats 4000000 in
set_option maxRecDepth 100000 in
theorem c_3_init (l : Launch) (S : St) (h : Nat) (g : Nat) (hh : h < sC S 3) (hg : sC S 18 = g) : Ct l yX3_init cX3_init 2 (none : Option Jvm.ClassFile.FieldType) (rm 1 1 2000 20) [.ref (sA S 3 h), .int 2000] S (fun r S' => r = none ∧ ∃ a, S' = pR (nO S 18 a 2000) 3 h 0 (some g)) := by
  refine Ct.of (by decide) (Nat.le_of_ble_eq_true rfl) (fun X hM => ?_)
  have hO := hM.1
  obtain rfl := hM.l
  have hIn := hM.nm
  show Jg X 0 0 S 0 [(0, .ref (sA S 3 h)), (1, .int 2000)] []
  refine j_aload_n (q := 1) hO dX3_init_0 rfl rfl ?_
  refine j_obj (q := 4) hO mw_38 mw_19 mw_20 dX3_init_1 rfl (by rw [hM.R]; exact ⟨Nat.le_of_ble_eq_true rfl, Nat.le_of_ble_eq_true rfl⟩) ?_
  refine j_aload_n (q := 5) hO dX3_init_4 rfl rfl ?_
  refine j_iload_n (q := 6) hO dX3_init_5 rfl rfl ?_
  refine j_newah (h := g) (x := 18) (z := 2000) (c0 := 0) (fty := .int) (row := (.inl (fun _ => 0))) (q := 8) hO dX3_init_6 rfl mw_47 rfl rfl rfl (fun _ => rfl) (fun a => sX_I (Or.inl rfl)) (fun _ => rfl) rfl (by decide) (by decide) (by rw [hM.R]; exact ⟨Nat.le_of_ble_eq_true rfl, Nat.le_of_ble_eq_true rfl⟩) hg (fun a6 => ?_)
  refine j_putFR (fty := tyX3 0) (x := 3) (j := 0) (q := 11) hO hIn CK_3 dX3_init_8 rfl mw_39 rfl hh rfl rfl (by decide) rfl rfl (by decide +kernel) rfl rfl rfl (r := g) rfl (show g < sC S 18 + 1 by omega) ?_
  exact j_vret hM dX3_init_11 (Nat.le_of_ble_eq_true rfl) (Nat.le_of_ble_eq_true rfl) ⟨rfl, _, rfl⟩
set_option maxHeartbeats 4000000 in
set_option maxRecDepth 100000 in
theorem c_3_init60 (l : Launch) (S : St) (h : Nat) (g : Nat) (hh : h < sC S 3) (hg : sC S 18 = g) : Ct l yX3_init cX3_init 2 (none : Option Jvm.ClassFile.FieldType) (rm 1 1 60 20) [.ref (sA S 3 h), .int 60] S (fun r S' => r = none ∧ ∃ a, S' = pR (nO S 18 a 60) 3 h 0 (some g)) := by
  refine Ct.of (by decide) (Nat.le_of_ble_eq_true rfl) (fun X hM => ?_)
  have hO := hM.1
  obtain rfl := hM.l
  have hIn := hM.nm
  show Jg X 0 0 S 0 [(0, .ref (sA S 3 h)), (1, .int 60)] []
  refine j_aload_n (q := 1) hO dX3_init_0 rfl rfl ?_
  refine j_obj (q := 4) hO mw_38 mw_19 mw_20 dX3_init_1 rfl (by rw [hM.R]; exact ⟨Nat.le_of_ble_eq_true rfl, Nat.le_of_ble_eq_true rfl⟩) ?_
  refine j_aload_n (q := 5) hO dX3_init_4 rfl rfl ?_
  refine j_iload_n (q := 6) hO dX3_init_5 rfl rfl ?_
  refine j_newah (h := g) (x := 18) (z := 60) (c0 := 0) (fty := .int) (row := (.inl (fun _ => 0))) (q := 8) hO dX3_init_6 rfl mw_47 rfl rfl rfl (fun _ => rfl) (fun a => sX_I (Or.inl rfl)) (fun _ => rfl) rfl (by decide) (by decide) (by rw [hM.R]; exact ⟨Nat.le_of_ble_eq_true rfl, Nat.le_of_ble_eq_true rfl⟩) hg (fun a6 => ?_)
  refine j_putFR (fty := tyX3 0) (x := 3) (j := 0) (q := 11) hO hIn CK_3 dX3_init_8 rfl mw_39 rfl hh rfl rfl (by decide) rfl rfl (by decide +kernel) rfl rfl rfl (r := g) rfl (show g < sC S 18 + 1 by omega) ?_
  exact j_vret hM dX3_init_11 (Nat.le_of_ble_eq_true rfl) (Nat.le_of_ble_eq_true rfl) ⟨rfl, _, rfl⟩
set_option maxHeartbeats 4000000 in
set_option maxRecDepth 100000 in
theorem c_8_init (l : Launch) (S : St) (h : Nat) (g : Nat) (hh : h < sC S 8) (hg : sC S 19 = g) : Ct l yX8_init cX8_init 1 (none : Option Jvm.ClassFile.FieldType) (rm 1 1 4 20) [.ref (sA S 8 h)] S (fun r S' => r = none ∧ ∃ a, S' = pR (nO S 19 a 4) 8 h 0 (some g)) := by
  refine Ct.of (by decide) (Nat.le_of_ble_eq_true rfl) (fun X hM => ?_)
  have hO := hM.1
  obtain rfl := hM.l
  have hIn := hM.nm
  show Jg X 0 0 S 0 [(0, .ref (sA S 8 h))] []
  refine j_aload_n (q := 1) hO dX8_init_0 rfl rfl ?_
  refine j_obj (q := 4) hO mw_53 mw_19 mw_20 dX8_init_1 rfl (by rw [hM.R]; exact ⟨Nat.le_of_ble_eq_true rfl, Nat.le_of_ble_eq_true rfl⟩) ?_
  refine j_aload_n (q := 5) hO dX8_init_4 rfl rfl ?_
  refine j_iconst (v := 4) (q := 6) hO dX8_init_5 rfl (by decide) ?_
  refine j_newah (h := g) (x := 19) (z := 4) (c0 := 1) (fty := .long) (row := (.inr (.inl (fun _ => 0)))) (q := 8) hO dX8_init_6 rfl mw_71 rfl rfl rfl (fun _ => rfl) (fun a => sX_J rfl) (fun _ => rfl) rfl (by decide) (by decide) (by rw [hM.R]; exact ⟨Nat.le_of_ble_eq_true rfl, Nat.le_of_ble_eq_true rfl⟩) hg (fun a6 => ?_)
  refine j_putFR (fty := tyX8 0) (x := 8) (j := 0) (q := 11) hO hIn CK_8 dX8_init_8 rfl mw_54 rfl hh rfl rfl (by decide) rfl rfl (by decide +kernel) rfl rfl rfl (r := g) rfl (show g < sC S 19 + 1 by omega) ?_
  exact j_vret hM dX8_init_11 (Nat.le_of_ble_eq_true rfl) (Nat.le_of_ble_eq_true rfl) ⟨rfl, _, rfl⟩
/-- a belt's own cells -/
def ouS (S : St) (b kd a : Nat) : St := pR (nO S 4 a 0) 17 b kd (some (5 * b + kd))
def beS (S : St) (b a : Nat) (v t : Int32) (w : UInt64) : St := pD (pI (pI (pR (nO S 17 a 5) 0 b 3 (some b)) 0 b 0 v) 0 b 1 t) 0 b 2 w
def btS (S : St) (b : Nat) (v t : Int32) (w : UInt64) (a a0 a1 a2 a3 a4 : Nat) : St := ouS (ouS (ouS (ouS (ouS (beS S b a v t w) b 0 a0) b 1 a1) b 2 a2) b 3 a3) b 4 a4
set_option maxHeartbeats 4000000 in
set_option maxRecDepth 100000 in
theorem c_0_init (l : Launch) (S : St) (h : Nat) (v t : Int32) (w : UInt64) (hh : h < sC S 0) (hg : sC S 17 = h) (h4 : sC S 4 = 5 * h) : Ct l yX0_init cX0_init 6 (none : Option Jvm.ClassFile.FieldType) (rm 2 6 25 40) [.ref (sA S 0 h), .int v, .int t, .double w] S (fun r S' => r = none ∧ ∃ a a0 a1 a2 a3 a4, S' = btS S h v t w a a0 a1 a2 a3 a4) := by
  refine Ct.of (by decide) (Nat.le_of_ble_eq_true rfl) (fun X hM => ?_)
  have hO := hM.1
  obtain rfl := hM.l
  have hIn := hM.nm
  show Jg X 0 0 S 0 [(0, .ref (sA S 0 h)), (1, .int v), (2, .int t), (3, .double w)] []
  refine j_aload_n (q := 1) hO dX0_init_0 rfl rfl ?_
  refine j_obj (q := 4) hO mw_141 mw_19 mw_20 dX0_init_1 rfl (by rw [hM.R]; exact ⟨Nat.le_of_ble_eq_true rfl, Nat.le_of_ble_eq_true rfl⟩) ?_
  refine j_aload_n (q := 5) hO dX0_init_4 rfl rfl ?_
  refine j_iconst (v := 5) (q := 6) hO dX0_init_5 rfl (by decide) ?_
  refine j_newqh (h := h) (x := 17) (z := 5) (c0 := 10) (q := 9) hO dX0_init_6 rfl mw_142 (fun _ _ _ h => h.2.1.2.2.2.1) rfl rfl (fun _ => rfl) rfl rfl (by decide) (by rw [hM.R]; exact ⟨Nat.le_of_ble_eq_true rfl, Nat.le_of_ble_eq_true rfl⟩) hg (fun a6 => ?_)
  have eN : sN (nO S 17 a6 5) 17 h = 5 := by rw [← hg]; exact u2_self
  refine j_putFR (fty := tyX0 3) (x := 0) (j := 3) (q := 12) hO hIn CK_0 dX0_init_9 rfl mw_171 rfl hh rfl rfl (by decide) rfl rfl (by decide +kernel) rfl rfl rfl (r := h) rfl (show h < sC S 17 + 1 by omega) ?_
  refine j_aload_n (q := 13) hO dX0_init_12 rfl rfl ?_
  refine j_iload_n (q := 14) hO dX0_init_13 rfl rfl ?_
  refine j_putFI (x := 0) (j := 0) (q := 17) hO hIn CK_0 dX0_init_14 rfl mw_165 rfl hh rfl rfl (by decide) rfl rfl (by decide +kernel) rfl ?_
  refine j_aload_n (q := 18) hO dX0_init_17 rfl rfl ?_
  refine j_iload_n (q := 19) hO dX0_init_18 rfl rfl ?_
  refine j_putFI (x := 0) (j := 1) (q := 22) hO hIn CK_0 dX0_init_19 rfl mw_167 rfl hh rfl rfl (by decide) rfl rfl (by decide +kernel) rfl ?_
  refine j_aload_n (q := 23) hO dX0_init_22 rfl rfl ?_
  refine j_dload_n (q := 24) hO dX0_init_23 rfl rfl ?_
  refine j_putFD (x := 0) (j := 2) (q := 27) hO hIn CK_0 dX0_init_24 rfl mw_169 rfl hh rfl rfl (by decide) rfl rfl (by decide +kernel) rfl ?_
  refine j_iconst (v := 0) (q := 28) hO dX0_init_27 rfl (by decide) ?_
  refine j_istore (q := 30) hO dX0_init_28 rfl (by rw [hM.nL]; decide) rfl ?_
  refine j_iload (q := 32) hO dX0_init_30 rfl rfl ?_
  refine j_iconst (v := 5) (q := 33) hO dX0_init_32 rfl (by decide) ?_
  refine j_icmp_ge (tgt := 56) (q := 36) hO dX0_init_33 rfl (by decide) (fun c33 => ?_) (fun c33 => ?_)
  · exact absurd c33 (by decide)
  · refine j_aload_n (q := 37) hO dX0_init_36 rfl rfl ?_
    refine j_getRs (x := 0) (j := 3) (q := 40) hO CK_0 dX0_init_37 rfl mw_171 rfl hh rfl rfl (by decide) rfl (show sR (pR (nO S 17 a6 5) 0 h 3 (some h)) 0 h 3 = some h from u3_self) ?_
    refine j_iload (q := 42) hO dX0_init_40 rfl rfl ?_
    refine j_newh (h := (5 * h + 0)) (x := 4) (q := 45) hO CK_4 dX0_init_42 rfl mw_142 mw_144 mw_6 rfl rfl dv_4 (by rw [hM.R]; exact ⟨Nat.le_of_ble_eq_true rfl, Nat.le_of_ble_eq_true rfl⟩) (show sC S 4 = 5 * h + 0 by omega) (fun a42 => ?_)
    refine j_dup (q := 46) hO dX0_init_45 rfl rfl ?_
    refine j_callN (q := 49) hO (c_4_init (lx X) _ (5 * h + 0) (show 5 * h + 0 < sC S 4 + 1 by omega)) M_4_init (fun _ _ _ h => h.2.2.1) rfl rfl (by unfold roomy; rw [hM.R]; exact ⟨⟨Nat.le_of_ble_eq_true rfl, Nat.le_of_ble_eq_true rfl⟩, ⟨Nat.le_of_ble_eq_true rfl, Nat.le_of_ble_eq_true rfl⟩, Nat.le_of_ble_eq_true rfl⟩) dX0_init_46 rfl (fun v_46 S_46 hp_46 => ?_)
    obtain ⟨rfl, rfl⟩ := hp_46
    refine j_aast (x := 17) (c0 := 10) (y := 4) (rw0 := (RX4, TX4, 4)) (q := 50) hO dX0_init_49 rfl rfl (show h < sC S 17 + 1 by omega) rfl rfl (fun _ => rfl) rfl (fun _ => rfl) rfl rfl (r := 5 * h + 0) rfl (show 5 * h + 0 < sC S 4 + 1 by omega) (j := 0) rfl (show 0 < sN (nO S 17 a6 5) 17 h by rw [eN]; decide) (show sN (nO S 17 a6 5) 17 h < 2 ^ 31 by rw [eN]; decide) ?_
    refine j_iinc (q := 53) hO dX0_init_50 rfl rfl rfl (by rw [hM.nL]; decide) rfl ?_
    refine j_goto (tgt := 30) hO dX0_init_53 (by decide) ?_
    refine j_iload (q := 32) hO dX0_init_30 rfl rfl ?_
    refine j_iconst (v := 5) (q := 33) hO dX0_init_32 rfl (by decide) ?_
    refine j_icmp_ge (tgt := 56) (q := 36) hO dX0_init_33 rfl (by decide) (fun c33 => ?_) (fun c33 => ?_)
    · exact absurd c33 (by decide)
    · refine j_aload_n (q := 37) hO dX0_init_36 rfl rfl ?_
      refine j_getRs (x := 0) (j := 3) (q := 40) hO CK_0 dX0_init_37 rfl mw_171 rfl hh rfl rfl (by decide) rfl (show sR (pR (nO S 17 a6 5) 0 h 3 (some h)) 0 h 3 = some h from u3_self) ?_
      refine j_iload (q := 42) hO dX0_init_40 rfl rfl ?_
      refine j_newh (h := (5 * h + 1)) (x := 4) (q := 45) hO CK_4 dX0_init_42 rfl mw_142 mw_144 mw_6 rfl rfl dv_4 (by rw [hM.R]; exact ⟨Nat.le_of_ble_eq_true rfl, Nat.le_of_ble_eq_true rfl⟩) (show sC S 4 + 1 = 5 * h + 1 by omega) (fun a42 => ?_)
      refine j_dup (q := 46) hO dX0_init_45 rfl rfl ?_
      refine j_callN (q := 49) hO (c_4_init (lx X) _ (5 * h + 1) (show 5 * h + 1 < sC S 4 + 1 + 1 by omega)) M_4_init (fun _ _ _ h => h.2.2.1) rfl rfl (by unfold roomy; rw [hM.R]; exact ⟨⟨Nat.le_of_ble_eq_true rfl, Nat.le_of_ble_eq_true rfl⟩, ⟨Nat.le_of_ble_eq_true rfl, Nat.le_of_ble_eq_true rfl⟩, Nat.le_of_ble_eq_true rfl⟩) dX0_init_46 rfl (fun v_46 S_46 hp_46 => ?_)
      obtain ⟨rfl, rfl⟩ := hp_46
      refine j_aast (x := 17) (c0 := 10) (y := 4) (rw0 := (RX4, TX4, 4)) (q := 50) hO dX0_init_49 rfl rfl (show h < sC S 17 + 1 by omega) rfl rfl (fun _ => rfl) rfl (fun _ => rfl) rfl rfl (r := 5 * h + 1) rfl (show 5 * h + 1 < sC S 4 + 1 + 1 by omega) (j := 1) rfl (show 1 < sN (nO S 17 a6 5) 17 h by rw [eN]; decide) (show sN (nO S 17 a6 5) 17 h < 2 ^ 31 by rw [eN]; decide) ?_
      refine j_iinc (q := 53) hO dX0_init_50 rfl rfl rfl (by rw [hM.nL]; decide) rfl ?_
      refine j_goto (tgt := 30) hO dX0_init_53 (by decide) ?_
      refine j_iload (q := 32) hO dX0_init_30 rfl rfl ?_
      refine j_iconst (v := 5) (q := 33) hO dX0_init_32 rfl (by decide) ?_
      refine j_icmp_ge (tgt := 56) (q := 36) hO dX0_init_33 rfl (by decide) (fun c33 => ?_) (fun c33 => ?_)
      · exact absurd c33 (by decide)
      · refine j_aload_n (q := 37) hO dX0_init_36 rfl rfl ?_
        refine j_getRs (x := 0) (j := 3) (q := 40) hO CK_0 dX0_init_37 rfl mw_171 rfl hh rfl rfl (by decide) rfl (show sR (pR (nO S 17 a6 5) 0 h 3 (some h)) 0 h 3 = some h from u3_self) ?_
        refine j_iload (q := 42) hO dX0_init_40 rfl rfl ?_
        refine j_newh (h := (5 * h + 2)) (x := 4) (q := 45) hO CK_4 dX0_init_42 rfl mw_142 mw_144 mw_6 rfl rfl dv_4 (by rw [hM.R]; exact ⟨Nat.le_of_ble_eq_true rfl, Nat.le_of_ble_eq_true rfl⟩) (show sC S 4 + 1 + 1 = 5 * h + 2 by omega) (fun a42 => ?_)
        refine j_dup (q := 46) hO dX0_init_45 rfl rfl ?_
        refine j_callN (q := 49) hO (c_4_init (lx X) _ (5 * h + 2) (show 5 * h + 2 < sC S 4 + 1 + 1 + 1 by omega)) M_4_init (fun _ _ _ h => h.2.2.1) rfl rfl (by unfold roomy; rw [hM.R]; exact ⟨⟨Nat.le_of_ble_eq_true rfl, Nat.le_of_ble_eq_true rfl⟩, ⟨Nat.le_of_ble_eq_true rfl, Nat.le_of_ble_eq_true rfl⟩, Nat.le_of_ble_eq_true rfl⟩) dX0_init_46 rfl (fun v_46 S_46 hp_46 => ?_)
        obtain ⟨rfl, rfl⟩ := hp_46
        refine j_aast (x := 17) (c0 := 10) (y := 4) (rw0 := (RX4, TX4, 4)) (q := 50) hO dX0_init_49 rfl rfl (show h < sC S 17 + 1 by omega) rfl rfl (fun _ => rfl) rfl (fun _ => rfl) rfl rfl (r := 5 * h + 2) rfl (show 5 * h + 2 < sC S 4 + 1 + 1 + 1 by omega) (j := 2) rfl (show 2 < sN (nO S 17 a6 5) 17 h by rw [eN]; decide) (show sN (nO S 17 a6 5) 17 h < 2 ^ 31 by rw [eN]; decide) ?_
        refine j_iinc (q := 53) hO dX0_init_50 rfl rfl rfl (by rw [hM.nL]; decide) rfl ?_
        refine j_goto (tgt := 30) hO dX0_init_53 (by decide) ?_
        refine j_iload (q := 32) hO dX0_init_30 rfl rfl ?_
        refine j_iconst (v := 5) (q := 33) hO dX0_init_32 rfl (by decide) ?_
        refine j_icmp_ge (tgt := 56) (q := 36) hO dX0_init_33 rfl (by decide) (fun c33 => ?_) (fun c33 => ?_)
        · exact absurd c33 (by decide)
        · refine j_aload_n (q := 37) hO dX0_init_36 rfl rfl ?_
          refine j_getRs (x := 0) (j := 3) (q := 40) hO CK_0 dX0_init_37 rfl mw_171 rfl hh rfl rfl (by decide) rfl (show sR (pR (nO S 17 a6 5) 0 h 3 (some h)) 0 h 3 = some h from u3_self) ?_
          refine j_iload (q := 42) hO dX0_init_40 rfl rfl ?_
          refine j_newh (h := (5 * h + 3)) (x := 4) (q := 45) hO CK_4 dX0_init_42 rfl mw_142 mw_144 mw_6 rfl rfl dv_4 (by rw [hM.R]; exact ⟨Nat.le_of_ble_eq_true rfl, Nat.le_of_ble_eq_true rfl⟩) (show sC S 4 + 1 + 1 + 1 = 5 * h + 3 by omega) (fun a42 => ?_)
          refine j_dup (q := 46) hO dX0_init_45 rfl rfl ?_
          refine j_callN (q := 49) hO (c_4_init (lx X) _ (5 * h + 3) (show 5 * h + 3 < sC S 4 + 1 + 1 + 1 + 1 by omega)) M_4_init (fun _ _ _ h => h.2.2.1) rfl rfl (by unfold roomy; rw [hM.R]; exact ⟨⟨Nat.le_of_ble_eq_true rfl, Nat.le_of_ble_eq_true rfl⟩, ⟨Nat.le_of_ble_eq_true rfl, Nat.le_of_ble_eq_true rfl⟩, Nat.le_of_ble_eq_true rfl⟩) dX0_init_46 rfl (fun v_46 S_46 hp_46 => ?_)
          obtain ⟨rfl, rfl⟩ := hp_46
          refine j_aast (x := 17) (c0 := 10) (y := 4) (rw0 := (RX4, TX4, 4)) (q := 50) hO dX0_init_49 rfl rfl (show h < sC S 17 + 1 by omega) rfl rfl (fun _ => rfl) rfl (fun _ => rfl) rfl rfl (r := 5 * h + 3) rfl (show 5 * h + 3 < sC S 4 + 1 + 1 + 1 + 1 by omega) (j := 3) rfl (show 3 < sN (nO S 17 a6 5) 17 h by rw [eN]; decide) (show sN (nO S 17 a6 5) 17 h < 2 ^ 31 by rw [eN]; decide) ?_
          refine j_iinc (q := 53) hO dX0_init_50 rfl rfl rfl (by rw [hM.nL]; decide) rfl ?_
          refine j_goto (tgt := 30) hO dX0_init_53 (by decide) ?_
          refine j_iload (q := 32) hO dX0_init_30 rfl rfl ?_
          refine j_iconst (v := 5) (q := 33) hO dX0_init_32 rfl (by decide) ?_
          refine j_icmp_ge (tgt := 56) (q := 36) hO dX0_init_33 rfl (by decide) (fun c33 => ?_) (fun c33 => ?_)
          · exact absurd c33 (by decide)
          · refine j_aload_n (q := 37) hO dX0_init_36 rfl rfl ?_
            refine j_getRs (x := 0) (j := 3) (q := 40) hO CK_0 dX0_init_37 rfl mw_171 rfl hh rfl rfl (by decide) rfl (show sR (pR (nO S 17 a6 5) 0 h 3 (some h)) 0 h 3 = some h from u3_self) ?_
            refine j_iload (q := 42) hO dX0_init_40 rfl rfl ?_
            refine j_newh (h := (5 * h + 4)) (x := 4) (q := 45) hO CK_4 dX0_init_42 rfl mw_142 mw_144 mw_6 rfl rfl dv_4 (by rw [hM.R]; exact ⟨Nat.le_of_ble_eq_true rfl, Nat.le_of_ble_eq_true rfl⟩) (show sC S 4 + 1 + 1 + 1 + 1 = 5 * h + 4 by omega) (fun a42 => ?_)
            refine j_dup (q := 46) hO dX0_init_45 rfl rfl ?_
            refine j_callN (q := 49) hO (c_4_init (lx X) _ (5 * h + 4) (show 5 * h + 4 < sC S 4 + 1 + 1 + 1 + 1 + 1 by omega)) M_4_init (fun _ _ _ h => h.2.2.1) rfl rfl (by unfold roomy; rw [hM.R]; exact ⟨⟨Nat.le_of_ble_eq_true rfl, Nat.le_of_ble_eq_true rfl⟩, ⟨Nat.le_of_ble_eq_true rfl, Nat.le_of_ble_eq_true rfl⟩, Nat.le_of_ble_eq_true rfl⟩) dX0_init_46 rfl (fun v_46 S_46 hp_46 => ?_)
            obtain ⟨rfl, rfl⟩ := hp_46
            refine j_aast (x := 17) (c0 := 10) (y := 4) (rw0 := (RX4, TX4, 4)) (q := 50) hO dX0_init_49 rfl rfl (show h < sC S 17 + 1 by omega) rfl rfl (fun _ => rfl) rfl (fun _ => rfl) rfl rfl (r := 5 * h + 4) rfl (show 5 * h + 4 < sC S 4 + 1 + 1 + 1 + 1 + 1 by omega) (j := 4) rfl (show 4 < sN (nO S 17 a6 5) 17 h by rw [eN]; decide) (show sN (nO S 17 a6 5) 17 h < 2 ^ 31 by rw [eN]; decide) ?_
            refine j_iinc (q := 53) hO dX0_init_50 rfl rfl rfl (by rw [hM.nL]; decide) rfl ?_
            refine j_goto (tgt := 30) hO dX0_init_53 (by decide) ?_
            refine j_iload (q := 32) hO dX0_init_30 rfl rfl ?_
            refine j_iconst (v := 5) (q := 33) hO dX0_init_32 rfl (by decide) ?_
            refine j_icmp_ge (tgt := 56) (q := 36) hO dX0_init_33 rfl (by decide) (fun c33 => ?_) (fun c33 => ?_)
            · exact j_vret hM dX0_init_56 (Nat.le_of_ble_eq_true rfl) (Nat.le_of_ble_eq_true rfl) ⟨rfl, _, _, _, _, _, _, rfl⟩
            · exact absurd (by decide) c33
