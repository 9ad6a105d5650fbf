set_option maxHeartbeats 4000000 in
set_option maxRecDepth 100000 in
theorem c_10_chance (l : Launch) (S : St) (α : Al) (p d : Int32) (hm : MSh S) : Ct l yX10_chance cX10_chance 5 (some .double) (rm 0 0 0 0) [.ref (sA S 10 0), .int p, .int d] (wr S α) (fun r S' => r = some (.double (chF (aJ α 0 0) p d)) ∧ S' = wr S α) := by
  refine Ct.of (by decide) (Nat.le_of_ble_eq_true rfl) (fun X hM => ?_)
  have hO := hM.1
  obtain rfl := hM.l
  show Jg X 0 0 (wr S α) 0 [(0, .ref (sA S 10 0)), (1, .int p), (2, .int d)] []
  refine j_aload_n (q := 1) hO dX10_chance_0 rfl rfl ?_
  refine m_getJ (j := 0) (q := 4) hO hm dX10_chance_1 rfl mw_498 (by decide) rfl ?_
  refine j_ldc2 (q := 7) hO dX10_chance_4 rfl mw_721 ?_
  refine j_lmul (q := 8) hO dX10_chance_7 rfl ?_
  refine j_iload_n (q := 9) hO dX10_chance_8 rfl rfl ?_
  refine j_i2l (q := 10) hO dX10_chance_9 rfl ?_
  refine j_ldc2 (q := 13) hO dX10_chance_10 rfl mw_722 ?_
  refine j_lmul (q := 14) hO dX10_chance_13 rfl ?_
  refine j_ladd (q := 15) hO dX10_chance_14 rfl ?_
  refine j_iload_n (q := 16) hO dX10_chance_15 rfl rfl ?_
  refine j_i2l (q := 17) hO dX10_chance_16 rfl ?_
  refine j_ldc2 (q := 20) hO dX10_chance_17 rfl mw_723 ?_
  refine j_lmul (q := 21) hO dX10_chance_20 rfl ?_
  refine j_ladd (q := 22) hO dX10_chance_21 rfl ?_
  refine j_lstore_n (q := 23) hO dX10_chance_22 rfl (by rw [hM.nL]; decide) rfl ?_
  refine j_lload_n (q := 24) hO dX10_chance_23 rfl rfl ?_
  refine j_lload_n (q := 25) hO dX10_chance_24 rfl rfl ?_
  refine j_bipush (v := 29) (q := 27) hO dX10_chance_25 rfl (by decide) ?_
  refine j_lushr (q := 28) hO dX10_chance_27 rfl ?_
  refine j_lxor (q := 29) hO dX10_chance_28 rfl ?_
  refine j_ldc2 (q := 32) hO dX10_chance_29 rfl mw_724 ?_
  refine j_lmul (q := 33) hO dX10_chance_32 rfl ?_
  refine j_lstore_n (q := 34) hO dX10_chance_33 rfl (by rw [hM.nL]; decide) rfl ?_
  refine j_lload_n (q := 35) hO dX10_chance_34 rfl rfl ?_
  refine j_lload_n (q := 36) hO dX10_chance_35 rfl rfl ?_
  refine j_bipush (v := 32) (q := 38) hO dX10_chance_36 rfl (by decide) ?_
  refine j_lushr (q := 39) hO dX10_chance_38 rfl ?_
  refine j_lxor (q := 40) hO dX10_chance_39 rfl ?_
  refine j_lstore_n (q := 41) hO dX10_chance_40 rfl (by rw [hM.nL]; decide) rfl ?_
  refine j_lload_n (q := 42) hO dX10_chance_41 rfl rfl ?_
  refine j_bipush (v := 11) (q := 44) hO dX10_chance_42 rfl (by decide) ?_
  refine j_lushr (q := 45) hO dX10_chance_44 rfl ?_
  refine j_l2d (q := 46) hO dX10_chance_45 rfl ?_
  refine j_ldc2d (q := 49) hO dX10_chance_46 rfl mw_725 ?_
  refine j_ddiv (q := 50) hO dX10_chance_49 rfl (n64_of (ddiv_ok (l2d_ok _) (dNz_of (by decide +kernel)))) ?_
  exact j_dret hM dX10_chance_50 (Nat.le_of_ble_eq_true rfl) (Nat.le_of_ble_eq_true rfl) ⟨rfl, rfl⟩
set_option maxHeartbeats 4000000 in
set_option maxRecDepth 100000 in
theorem c_10_note (l : Launch) (S : St) (α : Al) (n : Nat) (p w h : Int32) (hm : MSh S) (hT : TT α n) (hn : n < 2 ^ 30) : Ct l yX10_note cX10_note 4 (none : Option Jvm.ClassFile.FieldType) (rm 0 0 0 0) [.ref (sA S 10 0), .int p, .int w, .int h] (wr S α) (fun r S' => r = none ∧ S' = wr S (noteF α p w h)) := by
  refine Ct.of (by decide) (Nat.le_of_ble_eq_true rfl) (fun X hM => ?_)
  have hO := hM.1
  obtain rfl := hM.l
  obtain ⟨t, ht, htn⟩ := hT
  show Jg X 0 0 (wr S α) 0 [(0, .ref (sA S 10 0)), (1, .int p), (2, .int w), (3, .int h)] []
  refine j_aload_n (q := 1) hO dX10_note_0 rfl rfl ?_
  refine m_getI (j := 36) (q := 4) hO hm dX10_note_1 rfl mw_534 (by decide) rfl ?_
  refine j_sipush (v := 2000) (q := 7) hO dX10_note_4 rfl (by decide) ?_
  refine j_icmp_ge (tgt := 67) (q := 10) hO dX10_note_7 rfl (by decide) (fun c7 => ?_) (fun c7 => ?_)
  · refine j_aload_n (q := 68) hO dX10_note_67 rfl rfl ?_
    refine j_dup (q := 69) hO dX10_note_68 rfl rfl ?_
    refine m_getI (j := 36) (q := 72) hO hm dX10_note_69 rfl mw_534 (by decide) rfl ?_
    refine j_iconst (v := 1) (q := 73) hO dX10_note_72 rfl (by decide) ?_
    refine j_iadd (q := 74) hO dX10_note_73 rfl ?_
    refine m_putI (j := 36) (q := 77) hO hm dX10_note_74 rfl mw_534 (by decide) rfl rfl (by decide +kernel) ?_
    exact j_vret hM dX10_note_77 (Nat.le_of_ble_eq_true rfl) (Nat.le_of_ble_eq_true rfl) ⟨rfl, by unfold noteF; first | (rw [if_pos c7]; done) | (rw [if_neg c7, show nn (aI α 0 36) = t from by rw [ht]; exact nI_clamp (by omega)]; rfl)⟩
  · have hlt : t < 2000 := by
      rcases Nat.lt_or_ge t 2000 with h | h
      · exact h
      · exact absurd (by rw [ht]; exact nI_le h (by omega)) c7
    refine j_aload_n (q := 11) hO dX10_note_10 rfl rfl ?_
    refine m_getA (j := 37) (x := 48) (q := 14) hO hm dX10_note_11 rfl mw_535 (by decide) rfl rfl ?_
    refine j_iconst (v := 4) (q := 15) hO dX10_note_14 rfl (by decide) ?_
    refine j_aload_n (q := 16) hO dX10_note_15 rfl rfl ?_
    refine m_getI (j := 36) (q := 19) hO hm dX10_note_16 rfl mw_534 (by decide) rfl ?_
    refine j_imul (q := 20) hO dX10_note_19 rfl ?_
    refine j_aload_n (q := 21) hO dX10_note_20 rfl rfl ?_
    refine m_getI (j := 35) (q := 24) hO hm dX10_note_21 rfl mw_533 (by decide) rfl ?_
    refine m_iast (x := 48) (q := 25) hO hm MK_48 dX10_note_24 rfl rfl (j := 4 * t) (by show (4 : Int32) * aI α 0 36 = _; rw [ht]; exact ix40 t) (by omega) ?_
    refine j_aload_n (q := 26) hO dX10_note_25 rfl rfl ?_
    refine m_getA (j := 37) (x := 48) (q := 29) hO hm dX10_note_26 rfl mw_535 (by decide) rfl rfl ?_
    refine j_iconst (v := 4) (q := 30) hO dX10_note_29 rfl (by decide) ?_
    refine j_aload_n (q := 31) hO dX10_note_30 rfl rfl ?_
    refine m_getI (j := 36) (q := 34) hO hm dX10_note_31 rfl mw_534 (by decide) rfl ?_
    refine j_imul (q := 35) hO dX10_note_34 rfl ?_
    refine j_iconst (v := 1) (q := 36) hO dX10_note_35 rfl (by decide) ?_
    refine j_iadd (q := 37) hO dX10_note_36 rfl ?_
    refine j_iload_n (q := 38) hO dX10_note_37 rfl rfl ?_
    refine m_iast (x := 48) (q := 39) hO hm MK_48 dX10_note_38 rfl rfl (j := 4 * t + 1) (by show (4 : Int32) * aI α 0 36 + nI 1 = _; rw [ht]; exact ix4 t 1) (by omega) ?_
    refine j_aload_n (q := 40) hO dX10_note_39 rfl rfl ?_
    refine m_getA (j := 37) (x := 48) (q := 43) hO hm dX10_note_40 rfl mw_535 (by decide) rfl rfl ?_
    refine j_iconst (v := 4) (q := 44) hO dX10_note_43 rfl (by decide) ?_
    refine j_aload_n (q := 45) hO dX10_note_44 rfl rfl ?_
    refine m_getI (j := 36) (q := 48) hO hm dX10_note_45 rfl mw_534 (by decide) rfl ?_
    refine j_imul (q := 49) hO dX10_note_48 rfl ?_
    refine j_iconst (v := 2) (q := 50) hO dX10_note_49 rfl (by decide) ?_
    refine j_iadd (q := 51) hO dX10_note_50 rfl ?_
    refine j_iload_n (q := 52) hO dX10_note_51 rfl rfl ?_
    refine m_iast (x := 48) (q := 53) hO hm MK_48 dX10_note_52 rfl rfl (j := 4 * t + 2) (by show (4 : Int32) * aI α 0 36 + nI 2 = _; rw [ht]; exact ix4 t 2) (by omega) ?_
    refine j_aload_n (q := 54) hO dX10_note_53 rfl rfl ?_
    refine m_getA (j := 37) (x := 48) (q := 57) hO hm dX10_note_54 rfl mw_535 (by decide) rfl rfl ?_
    refine j_iconst (v := 4) (q := 58) hO dX10_note_57 rfl (by decide) ?_
    refine j_aload_n (q := 59) hO dX10_note_58 rfl rfl ?_
    refine m_getI (j := 36) (q := 62) hO hm dX10_note_59 rfl mw_534 (by decide) rfl ?_
    refine j_imul (q := 63) hO dX10_note_62 rfl ?_
    refine j_iconst (v := 3) (q := 64) hO dX10_note_63 rfl (by decide) ?_
    refine j_iadd (q := 65) hO dX10_note_64 rfl ?_
    refine j_iload_n (q := 66) hO dX10_note_65 rfl rfl ?_
    refine m_iast (x := 48) (q := 67) hO hm MK_48 dX10_note_66 rfl rfl (j := 4 * t + 3) (by show (4 : Int32) * aI α 0 36 + nI 3 = _; rw [ht]; exact ix4 t 3) (by omega) ?_
    refine j_aload_n (q := 68) hO dX10_note_67 rfl rfl ?_
    refine j_dup (q := 69) hO dX10_note_68 rfl rfl ?_
    refine m_getI (j := 36) (q := 72) hO hm dX10_note_69 rfl mw_534 (by decide) rfl ?_
    refine j_iconst (v := 1) (q := 73) hO dX10_note_72 rfl (by decide) ?_
    refine j_iadd (q := 74) hO dX10_note_73 rfl ?_
    refine m_putI (j := 36) (q := 77) hO hm dX10_note_74 rfl mw_534 (by decide) rfl rfl (by decide +kernel) ?_
    exact j_vret hM dX10_note_77 (Nat.le_of_ble_eq_true rfl) (Nat.le_of_ble_eq_true rfl) ⟨rfl, by unfold noteF; first | (rw [if_pos c7]; done) | (rw [if_neg c7, show nn (aI α 0 36) = t from by rw [ht]; exact nI_clamp (by omega)]; rfl)⟩
set_option maxHeartbeats 4000000 in
set_option maxRecDepth 100000 in
theorem c_10_lose (l : Launch) (S : St) (α : Al) (n p c : Nat) (w h : Int32) (hm : MSh S) (hT : TT α n) (hn : n < 2 ^ 30) (hp : p < 60) (hc : c < 4) : Ct l yX10_lose cX10_lose 5 (none : Option Jvm.ClassFile.FieldType) (rm 1 0 0 24) [.ref (sA S 10 0), .int (nI p), .int (nI c), .int w, .int h] (wr S α) (fun r S' => r = none ∧ S' = wr S (loseF α p c w h)) := by
  refine Ct.of (by decide) (Nat.le_of_ble_eq_true rfl) (fun X hM => ?_)
  have hO := hM.1
  obtain rfl := hM.l
  show Jg X 0 0 (wr S α) 0 [(0, .ref (sA S 10 0)), (1, .int (nI p)), (2, .int (nI c)), (3, .int w), (4, .int h)] []
  refine j_aload_n (q := 1) hO dX10_lose_0 rfl rfl ?_
  refine m_getA (j := 31) (x := 44) (q := 4) hO hm dX10_lose_1 rfl mw_529 (by decide) rfl rfl ?_
  refine j_iload_n (q := 5) hO dX10_lose_4 rfl rfl ?_
  refine j_iconst (v := 5) (q := 6) hO dX10_lose_5 rfl (by decide) ?_
  refine m_iast (x := 44) (q := 7) hO hm MK_44 dX10_lose_6 rfl rfl rfl (by omega) ?_
  refine j_aload_n (q := 8) hO dX10_lose_7 rfl rfl ?_
  refine m_getA (j := 40) (x := 50) (q := 11) hO hm dX10_lose_8 rfl mw_538 (by decide) rfl rfl ?_
  refine j_iload_n (q := 12) hO dX10_lose_11 rfl rfl ?_
  refine j_dup2_11 (q := 13) hO dX10_lose_12 rfl rfl rfl ?_
  refine m_lald (x := 50) (q := 14) hO hm MK_50 dX10_lose_13 rfl rfl rfl (by omega) ?_
  refine j_lconst (v := 1) (q := 15) hO dX10_lose_14 rfl (by decide) ?_
  refine j_ladd (q := 16) hO dX10_lose_15 rfl ?_
  refine m_last (x := 50) (q := 17) hO hm MK_50 dX10_lose_16 rfl rfl rfl (by omega) ?_
  refine j_aload_n (q := 18) hO dX10_lose_17 rfl rfl ?_
  refine j_iload_n (q := 19) hO dX10_lose_18 rfl rfl ?_
  refine j_iload_n (q := 20) hO dX10_lose_19 rfl rfl ?_
  refine j_iload (q := 22) hO dX10_lose_20 rfl rfl ?_
  refine j_callV (x := 10) (q := 25) hO (c_10_note (lx X) S _ n _ _ _ hm (hT.same rfl) hn) M_10_note mw_701 CK_10 rfl hm.1 rfl rfl rfl (by unfold roomy; rw [hM.R]; exact ⟨⟨Nat.le_of_ble_eq_true rfl, Nat.le_of_ble_eq_true rfl⟩, ⟨Nat.le_of_ble_eq_true rfl, Nat.le_of_ble_eq_true rfl⟩, Nat.le_of_ble_eq_true rfl⟩) dX10_lose_22 rfl (fun v_22 S_22 hp_22 => ?_)
  obtain ⟨rfl, rfl⟩ := hp_22
  exact j_vret hM dX10_lose_25 (Nat.le_of_ble_eq_true rfl) (Nat.le_of_ble_eq_true rfl) ⟨rfl, rfl⟩
