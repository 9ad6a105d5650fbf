set_option maxHeartbeats 4000000 in
set_option maxRecDepth 100000 in
theorem c_9_chance (l : Launch) (S : St) (p d : Int32) (h9 : 0 < sC S 9) : Ct l yX9_chance cX9_chance 5 (some .double) (rm 0 0 0 0) [.ref (sA S 9 0), .int p, .int d] S (fun r S' => r = some (.double (chF (sJ S 9 0 0) p d)) ∧ S' = S) := by
  refine Ct.of (by decide) (Nat.le_of_ble_eq_true rfl) (fun X hM => ?_)
  have hO := hM.1
  obtain rfl := hM.l
  show Jg X 0 0 S 0 [(0, .ref (sA S 9 0)), (1, .int p), (2, .int d)] []
  refine j_aload_n (q := 1) hO dX9_chance_0 rfl rfl ?_
  refine j_getJ (x := 9) (j := 0) (q := 4) hO CK_9 dX9_chance_1 rfl mw_72 rfl (by assumption) rfl rfl (by decide) rfl ?_
  refine j_ldc2 (q := 7) hO dX9_chance_4 rfl mw_411 ?_
  refine j_lmul (q := 8) hO dX9_chance_7 rfl ?_
  refine j_iload_n (q := 9) hO dX9_chance_8 rfl rfl ?_
  refine j_i2l (q := 10) hO dX9_chance_9 rfl ?_
  refine j_ldc2 (q := 13) hO dX9_chance_10 rfl mw_412 ?_
  refine j_lmul (q := 14) hO dX9_chance_13 rfl ?_
  refine j_ladd (q := 15) hO dX9_chance_14 rfl ?_
  refine j_iload_n (q := 16) hO dX9_chance_15 rfl rfl ?_
  refine j_i2l (q := 17) hO dX9_chance_16 rfl ?_
  refine j_ldc2 (q := 20) hO dX9_chance_17 rfl mw_413 ?_
  refine j_lmul (q := 21) hO dX9_chance_20 rfl ?_
  refine j_ladd (q := 22) hO dX9_chance_21 rfl ?_
  refine j_lstore_n (q := 23) hO dX9_chance_22 rfl (by rw [hM.nL]; decide) rfl ?_
  refine j_lload_n (q := 24) hO dX9_chance_23 rfl rfl ?_
  refine j_lload_n (q := 25) hO dX9_chance_24 rfl rfl ?_
  refine j_bipush (v := 29) (q := 27) hO dX9_chance_25 rfl (by decide) ?_
  refine j_lushr (q := 28) hO dX9_chance_27 rfl ?_
  refine j_lxor (q := 29) hO dX9_chance_28 rfl ?_
  refine j_ldc2 (q := 32) hO dX9_chance_29 rfl mw_414 ?_
  refine j_lmul (q := 33) hO dX9_chance_32 rfl ?_
  refine j_lstore_n (q := 34) hO dX9_chance_33 rfl (by rw [hM.nL]; decide) rfl ?_
  refine j_lload_n (q := 35) hO dX9_chance_34 rfl rfl ?_
  refine j_lload_n (q := 36) hO dX9_chance_35 rfl rfl ?_
  refine j_bipush (v := 32) (q := 38) hO dX9_chance_36 rfl (by decide) ?_
  refine j_lushr (q := 39) hO dX9_chance_38 rfl ?_
  refine j_lxor (q := 40) hO dX9_chance_39 rfl ?_
  refine j_lstore_n (q := 41) hO dX9_chance_40 rfl (by rw [hM.nL]; decide) rfl ?_
  refine j_lload_n (q := 42) hO dX9_chance_41 rfl rfl ?_
  refine j_bipush (v := 11) (q := 44) hO dX9_chance_42 rfl (by decide) ?_
  refine j_lushr (q := 45) hO dX9_chance_44 rfl ?_
  refine j_l2d (q := 46) hO dX9_chance_45 rfl ?_
  refine j_ldc2d (q := 49) hO dX9_chance_46 rfl mw_415 ?_
  refine j_ddiv (q := 50) hO dX9_chance_49 rfl (n64_of (ddiv_ok (l2d_ok _) (dNz_of (by decide +kernel)))) ?_
  exact j_dret hM dX9_chance_50 (Nat.le_of_ble_eq_true rfl) (Nat.le_of_ble_eq_true rfl) ⟨rfl, rfl⟩
set_option maxHeartbeats 4000000 in
set_option maxRecDepth 100000 in
theorem c_3_add (l : Launch) (S : St) (i n : Nat) (t p a b : Int32) (hi : i < sC S 3) (hr : sR S 3 i 0 = some i) (hc : i < sC S 18) (hN : sN S 18 i ≤ 2000) (ht : sI S 3 i 1 = nI n) (hn : n < 2 ^ 30) : Ct l yX3_add cX3_add 5 (none : Option Jvm.ClassFile.FieldType) (rm 0 0 0 0) [.ref (sA S 3 i), .int t, .int p, .int a, .int b] S (fun r S' => r = none ∧ S' = logF S i t p a b) := by
  refine Ct.of (by decide) (Nat.le_of_ble_eq_true rfl) (fun X hM => ?_)
  have hO := hM.1
  obtain rfl := hM.l
  show Jg X 0 0 S 0 [(0, .ref (sA S 3 i)), (1, .int t), (2, .int p), (3, .int a), (4, .int b)] []
  refine j_aload_n (q := 1) hO dX3_add_0 rfl rfl ?_
  refine j_getI (x := 3) (j := 1) (q := 4) hO CK_3 dX3_add_1 rfl mw_40 rfl (by assumption) rfl rfl (by decide) (Or.inl rfl) ?_
  refine j_aload_n (q := 5) hO dX3_add_4 rfl rfl ?_
  refine j_getRs (x := 3) (j := 0) (q := 8) hO CK_3 dX3_add_5 rfl mw_39 rfl (by assumption) rfl rfl (by decide) rfl hr ?_
  refine j_alen (x := 18) (q := 9) hO dX3_add_8 rfl rfl (by assumption) rfl (by decide) rfl ?_
  refine j_icmp_ge (tgt := 38) (q := 12) hO dX3_add_9 rfl (by decide) (fun c9 => ?_) (fun c9 => ?_)
  · refine j_aload_n (q := 39) hO dX3_add_38 rfl rfl ?_
    refine j_dup (q := 40) hO dX3_add_39 rfl rfl ?_
    refine j_getI (x := 3) (j := 1) (q := 43) hO CK_3 dX3_add_40 rfl mw_40 rfl (by assumption) rfl rfl (by decide) (Or.inl rfl) ?_
    refine j_iconst (v := 1) (q := 44) hO dX3_add_43 rfl (by decide) ?_
    refine j_iadd (q := 45) hO dX3_add_44 rfl ?_
    refine j_putI (x := 3) (j := 1) (q := 48) hO CK_3 dX3_add_45 rfl mw_40 rfl (by assumption) rfl rfl (by decide) rfl (by decide +kernel) rfl ?_
    exact j_vret hM dX3_add_48 (Nat.le_of_ble_eq_true rfl) (Nat.le_of_ble_eq_true rfl) ⟨rfl, by unfold logF; rw [if_pos c9]⟩
  · have hlt : n < sN S 18 i := by
      rcases Nat.lt_or_ge n (sN S 18 i) with q | q
      · exact q
      · exact absurd (by rw [ht]; exact nI_le q (by omega)) c9
    have hN31 : sN S 18 i < 2 ^ 31 := by omega
    refine j_aload_n (q := 13) hO dX3_add_12 rfl rfl ?_
    refine j_getRs (x := 3) (j := 0) (q := 16) hO CK_3 dX3_add_13 rfl mw_39 rfl (by assumption) rfl rfl (by decide) rfl hr ?_
    refine j_aload_n (q := 17) hO dX3_add_16 rfl rfl ?_
    refine j_getI (x := 3) (j := 1) (q := 20) hO CK_3 dX3_add_17 rfl mw_40 rfl (by assumption) rfl rfl (by decide) (Or.inl rfl) ?_
    refine j_iload_n (q := 21) hO dX3_add_20 rfl rfl ?_
    refine j_bipush (v := 16) (q := 23) hO dX3_add_21 rfl (by decide) ?_
    refine j_ishl (q := 24) hO dX3_add_23 rfl ?_
    refine j_iload_n (q := 25) hO dX3_add_24 rfl rfl ?_
    refine j_bipush (v := 10) (q := 27) hO dX3_add_25 rfl (by decide) ?_
    refine j_ishl (q := 28) hO dX3_add_27 rfl ?_
    refine j_ior (q := 29) hO dX3_add_28 rfl ?_
    refine j_iload_n (q := 30) hO dX3_add_29 rfl rfl ?_
    refine j_bipush (v := 6) (q := 32) hO dX3_add_30 rfl (by decide) ?_
    refine j_ishl (q := 33) hO dX3_add_32 rfl ?_
    refine j_ior (q := 34) hO dX3_add_33 rfl ?_
    refine j_iload (q := 36) hO dX3_add_34 rfl rfl ?_
    refine j_ior (q := 37) hO dX3_add_36 rfl ?_
    refine j_iast (x := 18) (q := 38) hO dX3_add_37 rfl rfl (by assumption) rfl rfl rfl (j := n) ht hlt hN31 ?_
    refine j_aload_n (q := 39) hO dX3_add_38 rfl rfl ?_
    refine j_dup (q := 40) hO dX3_add_39 rfl rfl ?_
    refine j_getI (x := 3) (j := 1) (q := 43) hO CK_3 dX3_add_40 rfl mw_40 rfl (by assumption) rfl rfl (by decide) (Or.inl rfl) ?_
    refine j_iconst (v := 1) (q := 44) hO dX3_add_43 rfl (by decide) ?_
    refine j_iadd (q := 45) hO dX3_add_44 rfl ?_
    refine j_putI (x := 3) (j := 1) (q := 48) hO CK_3 dX3_add_45 rfl mw_40 rfl (by assumption) rfl rfl (by decide) rfl (by decide +kernel) rfl ?_
    exact j_vret hM dX3_add_48 (Nat.le_of_ble_eq_true rfl) (Nat.le_of_ble_eq_true rfl) ⟨rfl, by unfold logF; rw [if_neg c9, show nn (sI S 3 i 1) = n from by rw [ht]; exact nn_nI (by omega)]; rfl⟩
set_option maxHeartbeats 4000000 in
set_option maxRecDepth 100000 in
theorem c_3_part (l : Launch) (S : St) (i : Nat) (k w : Int32) (hi : i < sC S 3) (hr : sR S 3 i 0 = some i) (hc : i < sC S 18) (hN : sN S 18 i ≤ 2000) : Ct l yX3_part cX3_part 4 (some .int) (rm 0 0 0 0) [.ref (sA S 3 i), .int k, .int w] S (fun r S' => r = some (.int (partA S i k w)) ∧ S' = S) := by
  refine Ct.of (by decide) (Nat.le_of_ble_eq_true rfl) (fun X hM => ?_)
  have hO := hM.1
  obtain rfl := hM.l
  show Jg X 0 0 S 0 [(0, .ref (sA S 3 i)), (1, .int k), (2, .int w)] []
  refine j_iload_n (q := 1) hO dX3_part_0 rfl rfl ?_
  refine j_if_lt (tgt := 21) (q := 4) hO dX3_part_1 rfl (by decide) (fun c1 => ?_) (fun c1 => ?_)
  · refine j_iconst (v := (-1)) (q := 22) hO dX3_part_21 rfl (by decide) ?_
    exact j_iret hM dX3_part_22 (Nat.le_of_ble_eq_true rfl) (Nat.le_of_ble_eq_true rfl) ⟨by unfold partA; rw [if_neg (fun z => z.1 c1)], rfl⟩
  · refine j_iload_n (q := 5) hO dX3_part_4 rfl rfl ?_
    refine j_aload_n (q := 6) hO dX3_part_5 rfl rfl ?_
    refine j_getI (x := 3) (j := 1) (q := 9) hO CK_3 dX3_part_6 rfl mw_40 rfl (by assumption) rfl rfl (by decide) (Or.inl rfl) ?_
    refine j_icmp_ge (tgt := 21) (q := 12) hO dX3_part_9 rfl (by decide) (fun c9 => ?_) (fun c9 => ?_)
    · refine j_iconst (v := (-1)) (q := 22) hO dX3_part_21 rfl (by decide) ?_
      exact j_iret hM dX3_part_22 (Nat.le_of_ble_eq_true rfl) (Nat.le_of_ble_eq_true rfl) ⟨by unfold partA; rw [if_neg (fun z => z.2.1 c9)], rfl⟩
    · refine j_iload_n (q := 13) hO dX3_part_12 rfl rfl ?_
      refine j_aload_n (q := 14) hO dX3_part_13 rfl rfl ?_
      refine j_getRs (x := 3) (j := 0) (q := 17) hO CK_3 dX3_part_14 rfl mw_39 rfl (by assumption) rfl rfl (by decide) rfl hr ?_
      refine j_alen (x := 18) (q := 18) hO dX3_part_17 rfl rfl (by assumption) rfl (by decide) rfl ?_
      refine j_icmp_lt (tgt := 23) (q := 21) hO dX3_part_18 rfl (by decide) (fun c18 => ?_) (fun c18 => ?_)
      · obtain ⟨kk, hkk, rfl⟩ : ∃ j, j < sN S 18 i ∧ k = nI j := by
          rcases pk_ix k (n := sN S 18 i) (by omega) with q | q | q
          · exact absurd q c1
          · exact absurd c18 (by intro z; exact absurd q (Int32.not_le.mpr z))
          · exact q
        have hN31 : sN S 18 i < 2 ^ 31 := by omega
        refine j_aload_n (q := 24) hO dX3_part_23 rfl rfl ?_
        refine j_getRs (x := 3) (j := 0) (q := 27) hO CK_3 dX3_part_24 rfl mw_39 rfl (by assumption) rfl rfl (by decide) rfl hr ?_
        refine j_iload_n (q := 28) hO dX3_part_27 rfl rfl ?_
        refine j_iald (x := 18) (q := 29) hO dX3_part_28 rfl rfl (by assumption) rfl rfl rfl (j := kk) rfl hkk hN31 ?_
        refine j_istore_n (q := 30) hO dX3_part_29 rfl (by rw [hM.nL]; decide) rfl ?_
        refine j_iload_n (q := 31) hO dX3_part_30 rfl rfl ?_
        rcases Classical.em (w = 0 ∨ w = 1 ∨ w = 2 ∨ w = 3) with (rfl | rfl | rfl | rfl) | hw
        · refine j_tableIn (tgt := 60) hO dX3_part_31 (by decide) (by decide) rfl (by decide) ?_
          refine j_iload_n (q := 61) hO dX3_part_60 rfl rfl ?_
          refine j_bipush (v := 16) (q := 63) hO dX3_part_61 rfl (by decide) ?_
          refine j_ishr (q := 64) hO dX3_part_63 rfl ?_
          exact j_iret hM dX3_part_64 (Nat.le_of_ble_eq_true rfl) (Nat.le_of_ble_eq_true rfl) ⟨by unfold partA; rw [if_pos ⟨c1, c9, c18⟩, nn_nI (by omega)]; rfl, rfl⟩
        · refine j_tableIn (tgt := 65) hO dX3_part_31 (by decide) (by decide) rfl (by decide) ?_
          refine j_iload_n (q := 66) hO dX3_part_65 rfl rfl ?_
          refine j_bipush (v := 10) (q := 68) hO dX3_part_66 rfl (by decide) ?_
          refine j_ishr (q := 69) hO dX3_part_68 rfl ?_
          refine j_bipush (v := 63) (q := 71) hO dX3_part_69 rfl (by decide) ?_
          refine j_iand (q := 72) hO dX3_part_71 rfl ?_
          exact j_iret hM dX3_part_72 (Nat.le_of_ble_eq_true rfl) (Nat.le_of_ble_eq_true rfl) ⟨by unfold partA; rw [if_pos ⟨c1, c9, c18⟩, nn_nI (by omega)]; rfl, rfl⟩
        · refine j_tableIn (tgt := 73) hO dX3_part_31 (by decide) (by decide) rfl (by decide) ?_
          refine j_iload_n (q := 74) hO dX3_part_73 rfl rfl ?_
          refine j_bipush (v := 6) (q := 76) hO dX3_part_74 rfl (by decide) ?_
          refine j_ishr (q := 77) hO dX3_part_76 rfl ?_
          refine j_bipush (v := 15) (q := 79) hO dX3_part_77 rfl (by decide) ?_
          refine j_iand (q := 80) hO dX3_part_79 rfl ?_
          exact j_iret hM dX3_part_80 (Nat.le_of_ble_eq_true rfl) (Nat.le_of_ble_eq_true rfl) ⟨by unfold partA; rw [if_pos ⟨c1, c9, c18⟩, nn_nI (by omega)]; rfl, rfl⟩
        · refine j_tableIn (tgt := 81) hO dX3_part_31 (by decide) (by decide) rfl (by decide) ?_
          refine j_iload_n (q := 82) hO dX3_part_81 rfl rfl ?_
          refine j_bipush (v := 63) (q := 84) hO dX3_part_82 rfl (by decide) ?_
          refine j_iand (q := 85) hO dX3_part_84 rfl ?_
          exact j_iret hM dX3_part_85 (Nat.le_of_ble_eq_true rfl) (Nat.le_of_ble_eq_true rfl) ⟨by unfold partA; rw [if_pos ⟨c1, c9, c18⟩, nn_nI (by omega)]; rfl, rfl⟩
        · refine j_tableOut (tgt := 86) hO dX3_part_31 (wout hw) (by decide) ?_
          refine j_iconst (v := (-1)) (q := 87) hO dX3_part_86 rfl (by decide) ?_
          exact j_iret hM dX3_part_87 (Nat.le_of_ble_eq_true rfl) (Nat.le_of_ble_eq_true rfl) ⟨by unfold partA; rw [if_pos ⟨c1, c9, c18⟩]; unfold parF; rw [if_neg (fun z => hw (Or.inl z)), if_neg (fun z => hw (Or.inr (Or.inl z))), if_neg (fun z => hw (Or.inr (Or.inr (Or.inl z)))), if_neg (fun z => hw (Or.inr (Or.inr (Or.inr z))))], rfl⟩
      · refine j_iconst (v := (-1)) (q := 22) hO dX3_part_21 rfl (by decide) ?_
        exact j_iret hM dX3_part_22 (Nat.le_of_ble_eq_true rfl) (Nat.le_of_ble_eq_true rfl) ⟨by unfold partA; rw [if_neg (fun z => c18 z.2.2)], rfl⟩
set_option maxHeartbeats 4000000 in
set_option maxRecDepth 100000 in
theorem c_4_add (l : Launch) (S : St) (a : Nat) (t : Int32) (ha : a < sC S 4) : Ct l yX4_add cX4_add 3 (none : Option Jvm.ClassFile.FieldType) (rm 1 0 0 20) [.ref (sA S 4 a), .int t] S (fun r S' => r = none ∧ S' = outsF S a t) := by
  refine Ct.of (by decide) (Nat.le_of_ble_eq_true rfl) (fun X hM => ?_)
  have hO := hM.1
  obtain rfl := hM.l
  show Jg X 0 0 S 0 [(0, .ref (sA S 4 a)), (1, .int t)] []
  refine j_iload_n (q := 1) hO dX4_add_0 rfl rfl ?_
  refine j_aload_n (q := 2) hO dX4_add_1 rfl rfl ?_
  refine j_getI (x := 4) (j := 1) (q := 5) hO CK_4 dX4_add_2 rfl mw_151 rfl (by assumption) rfl rfl (by decide) (Or.inl rfl) ?_
  refine j_isub (q := 6) hO dX4_add_5 rfl ?_
  refine j_istore_n (q := 7) hO dX4_add_6 rfl (by rw [hM.nL]; decide) rfl ?_
  refine j_aload_n (q := 8) hO dX4_add_7 rfl rfl ?_
  refine j_getI (x := 4) (j := 0) (q := 11) hO CK_4 dX4_add_8 rfl mw_149 rfl (by assumption) rfl rfl (by decide) (Or.inl rfl) ?_
  refine j_iconst (v := 1) (q := 12) hO dX4_add_11 rfl (by decide) ?_
  refine j_icmp_ne (tgt := 28) (q := 15) hO dX4_add_12 rfl (by decide) (fun c12 => ?_) (fun c12 => ?_)
  · refine j_aload_n (q := 29) hO dX4_add_28 rfl rfl ?_
    refine j_getI (x := 4) (j := 0) (q := 32) hO CK_4 dX4_add_29 rfl mw_149 rfl (by assumption) rfl rfl (by decide) (Or.inl rfl) ?_
    refine j_iconst (v := 1) (q := 33) hO dX4_add_32 rfl (by decide) ?_
    refine j_icmp_le (tgt := 60) (q := 36) hO dX4_add_33 rfl (by decide) (fun c33 => ?_) (fun c33 => ?_)
    · refine j_aload_n (q := 61) hO dX4_add_60 rfl rfl ?_
      refine j_iload_n (q := 62) hO dX4_add_61 rfl rfl ?_
      refine j_putI (x := 4) (j := 1) (q := 65) hO CK_4 dX4_add_62 rfl mw_151 rfl (by assumption) rfl rfl (by decide) rfl (by decide +kernel) rfl ?_
      refine j_aload_n (q := 66) hO dX4_add_65 rfl rfl ?_
      refine j_dup (q := 67) hO dX4_add_66 rfl rfl ?_
      refine j_getI (x := 4) (j := 0) (q := 70) hO CK_4 dX4_add_67 rfl mw_149 rfl (by assumption) rfl rfl (by decide) (Or.inl rfl) ?_
      refine j_iconst (v := 1) (q := 71) hO dX4_add_70 rfl (by decide) ?_
      refine j_iadd (q := 72) hO dX4_add_71 rfl ?_
      refine j_putI (x := 4) (j := 0) (q := 75) hO CK_4 dX4_add_72 rfl mw_149 rfl (by assumption) rfl rfl (by decide) rfl (by decide +kernel) rfl ?_
      exact j_vret hM dX4_add_75 (Nat.le_of_ble_eq_true rfl) (Nat.le_of_ble_eq_true rfl) ⟨rfl, by unfold outsF; rw [if_neg c12, if_pos c33]; exact out_e2⟩
    · refine j_aload_n (q := 37) hO dX4_add_36 rfl rfl ?_
      refine j_aload_n (q := 38) hO dX4_add_37 rfl rfl ?_
      refine j_getI (x := 4) (j := 2) (q := 41) hO CK_4 dX4_add_38 rfl mw_152 rfl (by assumption) rfl rfl (by decide) (Or.inl rfl) ?_
      refine j_iload_n (q := 42) hO dX4_add_41 rfl rfl ?_
      refine j_mmin (q := 45) hO mw_441 mw_442 mw_12 mw_443 dX4_add_42 rfl (by rw [hM.R]; exact ⟨Nat.le_of_ble_eq_true rfl, Nat.le_of_ble_eq_true rfl, Nat.le_of_ble_eq_true rfl, Nat.le_of_ble_eq_true rfl⟩) ?_
      refine j_putI (x := 4) (j := 2) (q := 48) hO CK_4 dX4_add_45 rfl mw_152 rfl (by assumption) rfl rfl (by decide) rfl (by decide +kernel) rfl ?_
      refine j_aload_n (q := 49) hO dX4_add_48 rfl rfl ?_
      refine j_aload_n (q := 50) hO dX4_add_49 rfl rfl ?_
      refine j_getI (x := 4) (j := 3) (q := 53) hO CK_4 dX4_add_50 rfl mw_154 rfl (by assumption) rfl rfl (by decide) (Or.inl rfl) ?_
      refine j_iload_n (q := 54) hO dX4_add_53 rfl rfl ?_
      refine j_mmax (q := 57) hO mw_444 mw_445 mw_12 mw_446 dX4_add_54 rfl (by rw [hM.R]; exact ⟨Nat.le_of_ble_eq_true rfl, Nat.le_of_ble_eq_true rfl, Nat.le_of_ble_eq_true rfl, Nat.le_of_ble_eq_true rfl⟩) ?_
      refine j_putI (x := 4) (j := 3) (q := 60) hO CK_4 dX4_add_57 rfl mw_154 rfl (by assumption) rfl rfl (by decide) rfl (by decide +kernel) rfl ?_
      refine j_aload_n (q := 61) hO dX4_add_60 rfl rfl ?_
      refine j_iload_n (q := 62) hO dX4_add_61 rfl rfl ?_
      refine j_putI (x := 4) (j := 1) (q := 65) hO CK_4 dX4_add_62 rfl mw_151 rfl (by assumption) rfl rfl (by decide) rfl (by decide +kernel) rfl ?_
      refine j_aload_n (q := 66) hO dX4_add_65 rfl rfl ?_
      refine j_dup (q := 67) hO dX4_add_66 rfl rfl ?_
      refine j_getI (x := 4) (j := 0) (q := 70) hO CK_4 dX4_add_67 rfl mw_149 rfl (by assumption) rfl rfl (by decide) (Or.inl rfl) ?_
      refine j_iconst (v := 1) (q := 71) hO dX4_add_70 rfl (by decide) ?_
      refine j_iadd (q := 72) hO dX4_add_71 rfl ?_
      refine j_putI (x := 4) (j := 0) (q := 75) hO CK_4 dX4_add_72 rfl mw_149 rfl (by assumption) rfl rfl (by decide) rfl (by decide +kernel) rfl ?_
      exact j_vret hM dX4_add_75 (Nat.le_of_ble_eq_true rfl) (Nat.le_of_ble_eq_true rfl) ⟨rfl, by unfold outsF; rw [if_neg c12, if_neg c33]; exact out_e3⟩
  · refine j_aload_n (q := 16) hO dX4_add_15 rfl rfl ?_
    refine j_iload_n (q := 17) hO dX4_add_16 rfl rfl ?_
    refine j_putI (x := 4) (j := 2) (q := 20) hO CK_4 dX4_add_17 rfl mw_152 rfl (by assumption) rfl rfl (by decide) rfl (by decide +kernel) rfl ?_
    refine j_aload_n (q := 21) hO dX4_add_20 rfl rfl ?_
    refine j_iload_n (q := 22) hO dX4_add_21 rfl rfl ?_
    refine j_putI (x := 4) (j := 3) (q := 25) hO CK_4 dX4_add_22 rfl mw_154 rfl (by assumption) rfl rfl (by decide) rfl (by decide +kernel) rfl ?_
    refine j_goto (tgt := 60) hO dX4_add_25 (by decide) ?_
    refine j_aload_n (q := 61) hO dX4_add_60 rfl rfl ?_
    refine j_iload_n (q := 62) hO dX4_add_61 rfl rfl ?_
    refine j_putI (x := 4) (j := 1) (q := 65) hO CK_4 dX4_add_62 rfl mw_151 rfl (by assumption) rfl rfl (by decide) rfl (by decide +kernel) rfl ?_
    refine j_aload_n (q := 66) hO dX4_add_65 rfl rfl ?_
    refine j_dup (q := 67) hO dX4_add_66 rfl rfl ?_
    refine j_getI (x := 4) (j := 0) (q := 70) hO CK_4 dX4_add_67 rfl mw_149 rfl (by assumption) rfl rfl (by decide) (Or.inl rfl) ?_
    refine j_iconst (v := 1) (q := 71) hO dX4_add_70 rfl (by decide) ?_
    refine j_iadd (q := 72) hO dX4_add_71 rfl ?_
    refine j_putI (x := 4) (j := 0) (q := 75) hO CK_4 dX4_add_72 rfl mw_149 rfl (by assumption) rfl rfl (by decide) rfl (by decide +kernel) rfl ?_
    exact j_vret hM dX4_add_75 (Nat.le_of_ble_eq_true rfl) (Nat.le_of_ble_eq_true rfl) ⟨rfl, by unfold outsF; rw [if_pos c12]; exact out_e1⟩
set_option maxHeartbeats 4000000 in
set_option maxRecDepth 100000 in
theorem c_5_take (l : Launch) (S : St) (k : Nat) (t : Int32) (hk : k < sC S 5) (hpk : PkOk (sD S 5 k 1) (sD S 5 k 2) (sI S 5 k 3)) : Ct l yX5_take cX5_take 2 (none : Option Jvm.ClassFile.FieldType) (rm 0 0 0 0) [.ref (sA S 5 k), .int t] S (fun r S' => r = none ∧ S' = takeF S k t) := by
  refine Ct.of (by decide) (Nat.le_of_ble_eq_true rfl) (fun X hM => ?_)
  have hO := hM.1
  obtain rfl := hM.l
  show Jg X 0 0 S 0 [(0, .ref (sA S 5 k)), (1, .int t)] []
  refine j_aload_n (q := 1) hO dX5_take_0 rfl rfl ?_
  refine j_iload_n (q := 2) hO dX5_take_1 rfl rfl ?_
  refine j_iconst (v := 1) (q := 3) hO dX5_take_2 rfl (by decide) ?_
  refine j_iadd (q := 4) hO dX5_take_3 rfl ?_
  refine j_ldc2d (q := 7) hO dX5_take_4 rfl mw_432 ?_
  refine j_aload_n (q := 8) hO dX5_take_7 rfl rfl ?_
  refine j_getD (x := 5) (j := 1) (q := 11) hO CK_5 dX5_take_8 rfl mw_279 rfl (by assumption) rfl rfl (by decide) rfl ?_
  refine j_ddiv (q := 12) hO dX5_take_11 rfl hpk.1 ?_
  refine j_dconst1 (q := 13) hO dX5_take_12 rfl ?_
  refine j_aload_n (q := 14) hO dX5_take_13 rfl rfl ?_
  refine j_getD (x := 5) (j := 2) (q := 17) hO CK_5 dX5_take_14 rfl mw_280 rfl (by assumption) rfl rfl (by decide) rfl ?_
  refine j_aload_n (q := 18) hO dX5_take_17 rfl rfl ?_
  refine j_getI (x := 5) (j := 3) (q := 21) hO CK_5 dX5_take_18 rfl mw_281 rfl (by assumption) rfl rfl (by decide) (Or.inl rfl) ?_
  refine j_i2d (q := 22) hO dX5_take_21 rfl ?_
  refine j_dmul (q := 23) hO dX5_take_22 rfl hpk.2.1 ?_
  refine j_dadd (q := 24) hO dX5_take_23 rfl hpk.2.2.1 ?_
  refine j_dmul (q := 25) hO dX5_take_24 rfl hpk.2.2.2 ?_
  refine j_d2i (q := 26) hO dX5_take_25 rfl ?_
  refine j_iadd (q := 27) hO dX5_take_26 rfl ?_
  refine j_putI (x := 5) (j := 4) (q := 30) hO CK_5 dX5_take_27 rfl mw_282 rfl (by assumption) rfl rfl (by decide) rfl (by decide +kernel) rfl ?_
  refine j_aload_n (q := 31) hO dX5_take_30 rfl rfl ?_
  refine j_dup (q := 32) hO dX5_take_31 rfl rfl ?_
  refine j_getI (x := 5) (j := 3) (q := 35) hO CK_5 dX5_take_32 rfl mw_281 rfl (by assumption) rfl rfl (by decide) (Or.inl rfl) ?_
  refine j_iconst (v := 1) (q := 36) hO dX5_take_35 rfl (by decide) ?_
  refine j_iadd (q := 37) hO dX5_take_36 rfl ?_
  refine j_putI (x := 5) (j := 3) (q := 40) hO CK_5 dX5_take_37 rfl mw_281 rfl (by assumption) rfl rfl (by decide) rfl (by decide +kernel) rfl ?_
  exact j_vret hM dX5_take_40 (Nat.le_of_ble_eq_true rfl) (Nat.le_of_ble_eq_true rfl) ⟨rfl, by unfold takeF; exact tak_e⟩
set_option maxHeartbeats 4000000 in
set_option maxRecDepth 100000 in
theorem c_8_atRest (l : Launch) (S : St)  (h8 : 0 < sC S 8) (hr : sR S 8 0 0 = some 0) (h19 : 0 < sC S 19) (hN : sN S 19 0 = 4) : Ct l yX8_atRest cX8_atRest 1 (some .long) (rm 0 0 0 0) [.ref (sA S 8 0)] S (fun r S' => r = some (.long (restA S)) ∧ S' = S) := by
  refine Ct.of (by decide) (Nat.le_of_ble_eq_true rfl) (fun X hM => ?_)
  have hO := hM.1
  obtain rfl := hM.l
  show Jg X 0 0 S 0 [(0, .ref (sA S 8 0))] []
  refine j_aload_n (q := 1) hO dX8_atRest_0 rfl rfl ?_
  refine j_getI (x := 8) (j := 1) (q := 4) hO CK_8 dX8_atRest_1 rfl mw_56 rfl (by assumption) rfl rfl (by decide) (Or.inl rfl) ?_
  refine j_aload_n (q := 5) hO dX8_atRest_4 rfl rfl ?_
  refine j_getI (x := 8) (j := 2) (q := 8) hO CK_8 dX8_atRest_5 rfl mw_58 rfl (by assumption) rfl rfl (by decide) (Or.inl rfl) ?_
  refine j_iadd (q := 9) hO dX8_atRest_8 rfl ?_
  refine j_aload_n (q := 10) hO dX8_atRest_9 rfl rfl ?_
  refine j_getI (x := 8) (j := 3) (q := 13) hO CK_8 dX8_atRest_10 rfl mw_60 rfl (by assumption) rfl rfl (by decide) (Or.inl rfl) ?_
  refine j_iadd (q := 14) hO dX8_atRest_13 rfl ?_
  refine j_i2l (q := 15) hO dX8_atRest_14 rfl ?_
  refine j_aload_n (q := 16) hO dX8_atRest_15 rfl rfl ?_
  refine j_getRs (x := 8) (j := 0) (q := 19) hO CK_8 dX8_atRest_16 rfl mw_54 rfl (by assumption) rfl rfl (by decide) rfl hr ?_
  refine j_iconst (v := 0) (q := 20) hO dX8_atRest_19 rfl (by decide) ?_
  refine j_lald (x := 19) (q := 21) hO dX8_atRest_20 rfl rfl (by assumption) rfl rfl rfl (j := 0) rfl (by rw [hN]; decide) (by rw [hN]; decide) ?_
  refine j_ladd (q := 22) hO dX8_atRest_21 rfl ?_
  refine j_aload_n (q := 23) hO dX8_atRest_22 rfl rfl ?_
  refine j_getRs (x := 8) (j := 0) (q := 26) hO CK_8 dX8_atRest_23 rfl mw_54 rfl (by assumption) rfl rfl (by decide) rfl hr ?_
  refine j_iconst (v := 1) (q := 27) hO dX8_atRest_26 rfl (by decide) ?_
  refine j_lald (x := 19) (q := 28) hO dX8_atRest_27 rfl rfl (by assumption) rfl rfl rfl (j := 1) rfl (by rw [hN]; decide) (by rw [hN]; decide) ?_
  refine j_ladd (q := 29) hO dX8_atRest_28 rfl ?_
  refine j_aload_n (q := 30) hO dX8_atRest_29 rfl rfl ?_
  refine j_getRs (x := 8) (j := 0) (q := 33) hO CK_8 dX8_atRest_30 rfl mw_54 rfl (by assumption) rfl rfl (by decide) rfl hr ?_
  refine j_iconst (v := 2) (q := 34) hO dX8_atRest_33 rfl (by decide) ?_
  refine j_lald (x := 19) (q := 35) hO dX8_atRest_34 rfl rfl (by assumption) rfl rfl rfl (j := 2) rfl (by rw [hN]; decide) (by rw [hN]; decide) ?_
  refine j_ladd (q := 36) hO dX8_atRest_35 rfl ?_
  exact j_lret hM dX8_atRest_36 (Nat.le_of_ble_eq_true rfl) (Nat.le_of_ble_eq_true rfl) ⟨rfl, rfl⟩
set_option maxHeartbeats 4000000 in
set_option maxRecDepth 100000 in
theorem c_0_movesAt (l : Launch) (S : St) (b : Nat) (t : Int32) (hb : b < sC S 0) : Ct l yX0_movesAt cX0_movesAt 2 (some .boolean) (rm 0 0 0 0) [.ref (sA S 0 b), .int t] S (fun r S' => r = some (.int (if t ≤ sI S 0 b 9 then 0 else 1)) ∧ S' = S) := by
  refine Ct.of (by decide) (Nat.le_of_ble_eq_true rfl) (fun X hM => ?_)
  have hO := hM.1
  obtain rfl := hM.l
  show Jg X 0 0 S 0 [(0, .ref (sA S 0 b)), (1, .int t)] []
  refine j_iload_n (q := 1) hO dX0_movesAt_0 rfl rfl ?_
  refine j_aload_n (q := 2) hO dX0_movesAt_1 rfl rfl ?_
  refine j_getI (x := 0) (j := 9) (q := 5) hO CK_0 dX0_movesAt_2 rfl mw_178 rfl (by assumption) rfl rfl (by decide) (Or.inl rfl) ?_
  refine j_icmp_le (tgt := 12) (q := 8) hO dX0_movesAt_5 rfl (by decide) (fun c5 => ?_) (fun c5 => ?_)
  · refine j_iconst (v := 0) (q := 13) hO dX0_movesAt_12 rfl (by decide) ?_
    exact j_zret hM dX0_movesAt_13 (Nat.le_of_ble_eq_true rfl) (Nat.le_of_ble_eq_true rfl) (by decide) ⟨by rw [if_pos c5], rfl⟩
  · refine j_iconst (v := 1) (q := 9) hO dX0_movesAt_8 rfl (by decide) ?_
    refine j_goto (tgt := 13) hO dX0_movesAt_9 (by decide) ?_
    exact j_zret hM dX0_movesAt_13 (Nat.le_of_ble_eq_true rfl) (Nat.le_of_ble_eq_true rfl) (by decide) ⟨by rw [if_neg c5], rfl⟩
set_option maxHeartbeats 4000000 in
set_option maxRecDepth 100000 in
theorem c_0_refusesAt (l : Launch) (S : St) (b : Nat) (t : Int32) (hb : b < sC S 0) : Ct l yX0_refusesAt cX0_refusesAt 2 (some .boolean) (rm 0 0 0 0) [.ref (sA S 0 b), .int t] S (fun r S' => r = some (.int (if sI S 0 b 9 ≤ t then 0 else 1)) ∧ S' = S) := by
  refine Ct.of (by decide) (Nat.le_of_ble_eq_true rfl) (fun X hM => ?_)
  have hO := hM.1
  obtain rfl := hM.l
  show Jg X 0 0 S 0 [(0, .ref (sA S 0 b)), (1, .int t)] []
  refine j_iload_n (q := 1) hO dX0_refusesAt_0 rfl rfl ?_
  refine j_aload_n (q := 2) hO dX0_refusesAt_1 rfl rfl ?_
  refine j_getI (x := 0) (j := 9) (q := 5) hO CK_0 dX0_refusesAt_2 rfl mw_178 rfl (by assumption) rfl rfl (by decide) (Or.inl rfl) ?_
  refine j_icmp_ge (tgt := 12) (q := 8) hO dX0_refusesAt_5 rfl (by decide) (fun c5 => ?_) (fun c5 => ?_)
  · refine j_iconst (v := 0) (q := 13) hO dX0_refusesAt_12 rfl (by decide) ?_
    exact j_zret hM dX0_refusesAt_13 (Nat.le_of_ble_eq_true rfl) (Nat.le_of_ble_eq_true rfl) (by decide) ⟨by rw [if_pos c5], rfl⟩
  · refine j_iconst (v := 1) (q := 9) hO dX0_refusesAt_8 rfl (by decide) ?_
    refine j_goto (tgt := 13) hO dX0_refusesAt_9 (by decide) ?_
    exact j_zret hM dX0_refusesAt_13 (Nat.le_of_ble_eq_true rfl) (Nat.le_of_ble_eq_true rfl) (by decide) ⟨by rw [if_neg c5], rfl⟩
set_option maxHeartbeats 4000000 in
set_option maxRecDepth 100000 in
theorem c_0_placeOf (l : Launch) (S : St) (b : Nat) (x : UInt64) (hb : b < sC S 0) (h1 : vf_n64 (FP.ddiv x (sD S 0 b 2))) (h2 : vf_n64 (FP.dmul (FP.ddiv x (sD S 0 b 2)) (FP.i2d (sI S 0 b 1)))) : Ct l yX0_placeOf cX0_placeOf 3 (some .int) (rm 0 0 0 0) [.ref (sA S 0 b), .double x] S (fun r S' => r = some (.int (plF x (sD S 0 b 2) (sI S 0 b 1))) ∧ S' = S) := by
  refine Ct.of (by decide) (Nat.le_of_ble_eq_true rfl) (fun X hM => ?_)
  have hO := hM.1
  obtain rfl := hM.l
  show Jg X 0 0 S 0 [(0, .ref (sA S 0 b)), (1, .double x)] []
  refine j_dload_n (q := 1) hO dX0_placeOf_0 rfl rfl ?_
  refine j_aload_n (q := 2) hO dX0_placeOf_1 rfl rfl ?_
  refine j_getD (x := 0) (j := 2) (q := 5) hO CK_0 dX0_placeOf_2 rfl mw_169 rfl (by assumption) rfl rfl (by decide) rfl ?_
  refine j_ddiv (q := 6) hO dX0_placeOf_5 rfl h1 ?_
  refine j_aload_n (q := 7) hO dX0_placeOf_6 rfl rfl ?_
  refine j_getI (x := 0) (j := 1) (q := 10) hO CK_0 dX0_placeOf_7 rfl mw_167 rfl (by assumption) rfl rfl (by decide) (Or.inl rfl) ?_
  refine j_i2d (q := 11) hO dX0_placeOf_10 rfl ?_
  refine j_dmul (q := 12) hO dX0_placeOf_11 rfl h2 ?_
  refine j_d2i (q := 13) hO dX0_placeOf_12 rfl ?_
  exact j_iret hM dX0_placeOf_13 (Nat.le_of_ble_eq_true rfl) (Nat.le_of_ble_eq_true rfl) ⟨rfl, rfl⟩
