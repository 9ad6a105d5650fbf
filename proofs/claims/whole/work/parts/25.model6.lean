set_option maxHeartbeats 4000000 in
set_option maxRecDepth 100000 in
theorem c_10_belt (l : Launch) (S : St) (α : Al) (nb : Nat) (t : Int32) (len : UInt64) (hm : MSh S) (hnb : aI α 0 1 = nI nb) (hb6 : nb ≤ 6) : Ct l yX10_belt cX10_belt 4 (some .int) (rm 1 0 0 25) [.ref (sA S 10 0), .int t, .double len] (wr S α) (fun r S' => r = some (.int (beltA α t len)) ∧ S' = wr S (beltF α t len)) := by
  refine Ct.of (by decide) (Nat.le_of_ble_eq_true rfl) (fun X hM => ?_)
  have hO := hM.1
  obtain rfl := hM.l
  show Jg X 0 0 (wr S α) 0 [(0, .ref (sA S 10 0)), (1, .int t), (2, .double len)] []
  refine j_aload_n (q := 1) hO dX10_belt_0 rfl rfl ?_
  refine m_getI (j := 1) (q := 4) hO hm dX10_belt_1 rfl mw_499 (by decide) rfl ?_
  refine j_bipush (v := 6) (q := 6) hO dX10_belt_4 rfl (by decide) ?_
  refine j_icmp_eq (tgt := 41) (q := 9) hO dX10_belt_6 rfl (by decide) (fun c6 => ?_) (fun c6 => ?_)
  · refine j_iconst (v := (-1)) (q := 42) hO dX10_belt_41 rfl (by decide) ?_
    exact j_iret hM dX10_belt_42 (Nat.le_of_ble_eq_true rfl) (Nat.le_of_ble_eq_true rfl) ⟨by unfold beltA kBelt; rw [decide_eq_false (fun z => z.1 c6)]; rfl, by unfold beltF kBelt; rw [decide_eq_false (fun z => z.1 c6)]; rfl⟩
  · refine j_iload_n (q := 10) hO dX10_belt_9 rfl rfl ?_
    refine j_iconst (v := 1) (q := 11) hO dX10_belt_10 rfl (by decide) ?_
    refine j_icmp_lt (tgt := 41) (q := 14) hO dX10_belt_11 rfl (by decide) (fun c11 => ?_) (fun c11 => ?_)
    · refine j_iconst (v := (-1)) (q := 42) hO dX10_belt_41 rfl (by decide) ?_
      exact j_iret hM dX10_belt_42 (Nat.le_of_ble_eq_true rfl) (Nat.le_of_ble_eq_true rfl) ⟨by unfold beltA kBelt; rw [decide_eq_false (fun z => z.2.1 c11)]; rfl, by unfold beltF kBelt; rw [decide_eq_false (fun z => z.2.1 c11)]; rfl⟩
    · refine j_iload_n (q := 15) hO dX10_belt_14 rfl rfl ?_
      refine j_sipush (v := 1000) (q := 18) hO dX10_belt_15 rfl (by decide) ?_
      refine j_icmp_gt (tgt := 41) (q := 21) hO dX10_belt_18 rfl (by decide) (fun c18 => ?_) (fun c18 => ?_)
      · refine j_iconst (v := (-1)) (q := 42) hO dX10_belt_41 rfl (by decide) ?_
        exact j_iret hM dX10_belt_42 (Nat.le_of_ble_eq_true rfl) (Nat.le_of_ble_eq_true rfl) ⟨by unfold beltA kBelt; rw [decide_eq_false (fun z => z.2.2.1 c18)]; rfl, by unfold beltF kBelt; rw [decide_eq_false (fun z => z.2.2.1 c18)]; rfl⟩
      · refine j_dload_n (q := 22) hO dX10_belt_21 rfl rfl ?_
        refine j_ldc2d (q := 25) hO dX10_belt_22 rfl mw_640 ?_
        refine j_ldc2d (q := 28) hO dX10_belt_25 rfl mw_641 ?_
        refine j_callS (q := 31) hO (c_10_isIn (lx X) _ _ _ _) M_10_isIn mw_642 rfl rfl (by unfold roomy; rw [hM.R]; exact ⟨⟨Nat.le_of_ble_eq_true rfl, Nat.le_of_ble_eq_true rfl⟩, ⟨Nat.le_of_ble_eq_true rfl, Nat.le_of_ble_eq_true rfl⟩, Nat.le_of_ble_eq_true rfl⟩) dX10_belt_28 rfl (fun v_28 S_28 hp_28 => ?_)
        obtain ⟨rfl, rfl⟩ := hp_28
        refine j_if_eq (tgt := 41) (q := 34) hO dX10_belt_31 rfl (by decide) (fun c31 => ?_) (fun c31 => ?_)
        · refine j_iconst (v := (-1)) (q := 42) hO dX10_belt_41 rfl (by decide) ?_
          exact j_iret hM dX10_belt_42 (Nat.le_of_ble_eq_true rfl) (Nat.le_of_ble_eq_true rfl) ⟨by unfold beltA kBelt; rw [decide_eq_false (fun z => z.2.2.2.1 c31)]; rfl, by unfold beltF kBelt; rw [decide_eq_false (fun z => z.2.2.2.1 c31)]; rfl⟩
        · refine j_aload_n (q := 35) hO dX10_belt_34 rfl rfl ?_
          refine j_callV (x := 10) (q := 38) hO (c_10_isOpen (lx X) _ hm.1) M_10_isOpen mw_645 CK_10 rfl hm.1 rfl rfl rfl (by unfold roomy; rw [hM.R]; exact ⟨⟨Nat.le_of_ble_eq_true rfl, Nat.le_of_ble_eq_true rfl⟩, ⟨Nat.le_of_ble_eq_true rfl, Nat.le_of_ble_eq_true rfl⟩, Nat.le_of_ble_eq_true rfl⟩) dX10_belt_35 rfl (fun v_35 S_35 hp_35 => ?_)
          obtain ⟨rfl, rfl⟩ := hp_35
          refine j_if_ne (tgt := 43) (q := 41) hO dX10_belt_38 rfl (by decide) (fun c38 => ?_) (fun c38 => ?_)
          · have hlt : nb < 6 := by rcases Nat.lt_or_ge nb 6 with q | q; exact q; exact absurd (by rw [hnb, show nb = 6 by omega]; rfl) c6
            refine j_aload_n (q := 44) hO dX10_belt_43 rfl rfl ?_
            refine m_getA (j := 2) (x := 20) (q := 47) hO hm dX10_belt_44 rfl mw_500 (by decide) rfl rfl ?_
            refine j_aload_n (q := 48) hO dX10_belt_47 rfl rfl ?_
            refine m_getI (j := 1) (q := 51) hO hm dX10_belt_48 rfl mw_499 (by decide) rfl ?_
            refine j_iload_n (q := 52) hO dX10_belt_51 rfl rfl ?_
            refine m_iast (x := 20) (a := 1) (q := 53) hO hm MK_20 dX10_belt_52 rfl rfl (j := nb) hnb (by omega) ?_
            refine j_aload_n (q := 54) hO dX10_belt_53 rfl rfl ?_
            refine m_getA (j := 3) (x := 21) (q := 57) hO hm dX10_belt_54 rfl mw_501 (by decide) rfl rfl ?_
            refine j_aload_n (q := 58) hO dX10_belt_57 rfl rfl ?_
            refine m_getI (j := 1) (q := 61) hO hm dX10_belt_58 rfl mw_499 (by decide) rfl ?_
            refine j_dload_n (q := 62) hO dX10_belt_61 rfl rfl ?_
            refine m_dast (x := 21) (a := 2) (q := 63) hO hm MK_21 dX10_belt_62 rfl rfl (j := nb) hnb (by omega) ?_
            refine j_aload_n (q := 64) hO dX10_belt_63 rfl rfl ?_
            refine m_getA (j := 4) (x := 22) (q := 67) hO hm dX10_belt_64 rfl mw_502 (by decide) rfl rfl ?_
            refine j_aload_n (q := 68) hO dX10_belt_67 rfl rfl ?_
            refine m_getI (j := 1) (q := 71) hO hm dX10_belt_68 rfl mw_499 (by decide) rfl ?_
            refine j_iconst (v := (-1)) (q := 72) hO dX10_belt_71 rfl (by decide) ?_
            refine m_iast (x := 22) (a := 3) (q := 73) hO hm MK_22 dX10_belt_72 rfl rfl (j := nb) hnb (by omega) ?_
            refine j_aload_n (q := 74) hO dX10_belt_73 rfl rfl ?_
            refine j_dup (q := 75) hO dX10_belt_74 rfl rfl ?_
            refine m_getI (j := 1) (q := 78) hO hm dX10_belt_75 rfl mw_499 (by decide) rfl ?_
            refine j_iconst (v := 1) (q := 79) hO dX10_belt_78 rfl (by decide) ?_
            refine j_iadd (q := 80) hO dX10_belt_79 rfl ?_
            refine m_putI (j := 1) (q := 83) hO hm dX10_belt_80 rfl mw_499 (by decide) rfl rfl (by decide +kernel) ?_
            refine j_aload_n (q := 84) hO dX10_belt_83 rfl rfl ?_
            refine m_getI (j := 1) (q := 87) hO hm dX10_belt_84 rfl mw_499 (by decide) rfl ?_
            refine j_iconst (v := 1) (q := 88) hO dX10_belt_87 rfl (by decide) ?_
            refine j_isub (q := 89) hO dX10_belt_88 rfl ?_
            exact j_iret hM dX10_belt_89 (Nat.le_of_ble_eq_true rfl) (Nat.le_of_ble_eq_true rfl) ⟨by unfold beltA kBelt; rw [decide_eq_true ⟨c6, c11, c18, c31, op1 c38⟩]; show some (Value.int (aI α 0 1 + 1 - 1)) = some (Value.int (aI α 0 1)); rw [hnb, nI_m1], by unfold beltF kBelt; rw [decide_eq_true ⟨c6, c11, c18, c31, op1 c38⟩, show nn (aI α 0 1) = nb from by rw [hnb]; exact nn_nI (by omega)]; rfl⟩
          · refine j_iconst (v := (-1)) (q := 42) hO dX10_belt_41 rfl (by decide) ?_
            exact j_iret hM dX10_belt_42 (Nat.le_of_ble_eq_true rfl) (Nat.le_of_ble_eq_true rfl) ⟨by unfold beltA kBelt; rw [decide_eq_false (fun z => op0 c38 z.2.2.2.2)]; rfl, by unfold beltF kBelt; rw [decide_eq_false (fun z => op0 c38 z.2.2.2.2)]; rfl⟩
set_option maxHeartbeats 4000000 in
set_option maxRecDepth 100000 in
theorem c_10_head (l : Launch) (S : St) (α : Al) (nb nh : Nat) (b0 : Int32) (at' miss : UInt64) (hm : MSh S) (hnb : aI α 0 1 = nI nb) (hb6 : nb ≤ 6) (hnh : aI α 0 9 = nI nh) (hn8 : nh ≤ 8) (hlen : ∀ b, b < nb → dNz (aD α 2 b)) (hten : ∀ b, b < nb → ∃ t, aI α 1 b = nI t ∧ 1 ≤ t ∧ t ≤ 1000) : Ct l yX10_head cX10_head 6 (some .int) (rm 1 0 0 25) [.ref (sA S 10 0), .int b0, .double at', .double miss] (wr S α) (fun r S' => r = some (.int (headA α b0 at' miss)) ∧ S' = wr S (headF α b0 at' miss)) := by
  refine Ct.of (by decide) (Nat.le_of_ble_eq_true rfl) (fun X hM => ?_)
  have hO := hM.1
  obtain rfl := hM.l
  show Jg X 0 0 (wr S α) 0 [(0, .ref (sA S 10 0)), (1, .int b0), (2, .double at'), (4, .double miss)] []
  refine j_aload_n (q := 1) hO dX10_head_0 rfl rfl ?_
  refine m_getI (j := 9) (q := 4) hO hm dX10_head_1 rfl mw_507 (by decide) rfl ?_
  refine j_bipush (v := 8) (q := 6) hO dX10_head_4 rfl (by decide) ?_
  refine j_icmp_eq (tgt := 48) (q := 9) hO dX10_head_6 rfl (by decide) (fun c6 => ?_) (fun c6 => ?_)
  · refine j_iconst (v := (-1)) (q := 49) hO dX10_head_48 rfl (by decide) ?_
    exact j_iret hM dX10_head_49 (Nat.le_of_ble_eq_true rfl) (Nat.le_of_ble_eq_true rfl) ⟨by unfold headA kHead; rw [decide_eq_false (fun z => z.1 c6)]; rfl, by unfold headF kHead; rw [decide_eq_false (fun z => z.1 c6)]; rfl⟩
  · refine j_aload_n (q := 10) hO dX10_head_9 rfl rfl ?_
    refine j_iload_n (q := 11) hO dX10_head_10 rfl rfl ?_
    refine j_callV (x := 10) (q := 14) hO (c_10_isBelt (lx X) _ _ hm.1) M_10_isBelt mw_653 CK_10 rfl hm.1 rfl rfl rfl (by unfold roomy; rw [hM.R]; exact ⟨⟨Nat.le_of_ble_eq_true rfl, Nat.le_of_ble_eq_true rfl⟩, ⟨Nat.le_of_ble_eq_true rfl, Nat.le_of_ble_eq_true rfl⟩, Nat.le_of_ble_eq_true rfl⟩) dX10_head_11 rfl (fun v_11 S_11 hp_11 => ?_)
    obtain ⟨rfl, rfl⟩ := hp_11
    refine j_if_eq (tgt := 48) (q := 17) hO dX10_head_14 rfl (by decide) (fun c14 => ?_) (fun c14 => ?_)
    · refine j_iconst (v := (-1)) (q := 49) hO dX10_head_48 rfl (by decide) ?_
      exact j_iret hM dX10_head_49 (Nat.le_of_ble_eq_true rfl) (Nat.le_of_ble_eq_true rfl) ⟨by unfold headA kHead; rw [decide_eq_false (fun z => z.2.1 c14)]; rfl, by unfold headF kHead; rw [decide_eq_false (fun z => z.2.1 c14)]; rfl⟩
    · obtain ⟨b, hbn, rfl⟩ := iB_in hnb hb6 c14
      have enb : nn (nI b) = b := nn_nI (by omega)
      refine j_dload_n (q := 18) hO dX10_head_17 rfl rfl ?_
      refine j_dconst0 (q := 19) hO dX10_head_18 rfl ?_
      refine j_aload_n (q := 20) hO dX10_head_19 rfl rfl ?_
      refine m_getA (j := 3) (x := 21) (q := 23) hO hm dX10_head_20 rfl mw_501 (by decide) rfl rfl ?_
      refine j_iload_n (q := 24) hO dX10_head_23 rfl rfl ?_
      refine m_dald (x := 21) (a := 2) (q := 25) hO hm MK_21 dX10_head_24 rfl rfl (j := b) rfl (by omega) ?_
      refine j_callS (q := 28) hO (c_10_isIn (lx X) _ _ _ _) M_10_isIn mw_642 rfl rfl (by unfold roomy; rw [hM.R]; exact ⟨⟨Nat.le_of_ble_eq_true rfl, Nat.le_of_ble_eq_true rfl⟩, ⟨Nat.le_of_ble_eq_true rfl, Nat.le_of_ble_eq_true rfl⟩, Nat.le_of_ble_eq_true rfl⟩) dX10_head_25 rfl (fun v_25 S_25 hp_25 => ?_)
      obtain ⟨rfl, rfl⟩ := hp_25
      refine j_if_eq (tgt := 48) (q := 31) hO dX10_head_28 rfl (by decide) (fun c28 => ?_) (fun c28 => ?_)
      · refine j_iconst (v := (-1)) (q := 49) hO dX10_head_48 rfl (by decide) ?_
        exact j_iret hM dX10_head_49 (Nat.le_of_ble_eq_true rfl) (Nat.le_of_ble_eq_true rfl) ⟨by unfold headA kHead; rw [decide_eq_false (fun z => z.2.2.1 (by rw [enb]; exact c28))]; rfl, by unfold headF kHead; rw [decide_eq_false (fun z => z.2.2.1 (by rw [enb]; exact c28))]; rfl⟩
      · refine j_dload (q := 33) hO dX10_head_31 rfl rfl ?_
        refine j_dconst0 (q := 34) hO dX10_head_33 rfl ?_
        refine j_dconst1 (q := 35) hO dX10_head_34 rfl ?_
        refine j_callS (q := 38) hO (c_10_isIn (lx X) _ _ _ _) M_10_isIn mw_642 rfl rfl (by unfold roomy; rw [hM.R]; exact ⟨⟨Nat.le_of_ble_eq_true rfl, Nat.le_of_ble_eq_true rfl⟩, ⟨Nat.le_of_ble_eq_true rfl, Nat.le_of_ble_eq_true rfl⟩, Nat.le_of_ble_eq_true rfl⟩) dX10_head_35 rfl (fun v_35 S_35 hp_35 => ?_)
        obtain ⟨rfl, rfl⟩ := hp_35
        refine j_if_eq (tgt := 48) (q := 41) hO dX10_head_38 rfl (by decide) (fun c38 => ?_) (fun c38 => ?_)
        · refine j_iconst (v := (-1)) (q := 49) hO dX10_head_48 rfl (by decide) ?_
          exact j_iret hM dX10_head_49 (Nat.le_of_ble_eq_true rfl) (Nat.le_of_ble_eq_true rfl) ⟨by unfold headA kHead; rw [decide_eq_false (fun z => z.2.2.2.1 c38)]; rfl, by unfold headF kHead; rw [decide_eq_false (fun z => z.2.2.2.1 c38)]; rfl⟩
        · refine j_aload_n (q := 42) hO dX10_head_41 rfl rfl ?_
          refine j_callV (x := 10) (q := 45) hO (c_10_isOpen (lx X) _ hm.1) M_10_isOpen mw_645 CK_10 rfl hm.1 rfl rfl rfl (by unfold roomy; rw [hM.R]; exact ⟨⟨Nat.le_of_ble_eq_true rfl, Nat.le_of_ble_eq_true rfl⟩, ⟨Nat.le_of_ble_eq_true rfl, Nat.le_of_ble_eq_true rfl⟩, Nat.le_of_ble_eq_true rfl⟩) dX10_head_42 rfl (fun v_42 S_42 hp_42 => ?_)
          obtain ⟨rfl, rfl⟩ := hp_42
          refine j_if_ne (tgt := 50) (q := 48) hO dX10_head_45 rfl (by decide) (fun c45 => ?_) (fun c45 => ?_)
          · have hlt : nh < 8 := by rcases Nat.lt_or_ge nh 8 with q | q; exact q; exact absurd (by rw [hnh, show nh = 8 by omega]; rfl) c6
            obtain ⟨t, ht, ht1, ht2⟩ := hten b hbn
            refine j_aload_n (q := 51) hO dX10_head_50 rfl rfl ?_
            refine m_getA (j := 10) (x := 27) (q := 54) hO hm dX10_head_51 rfl mw_508 (by decide) rfl rfl ?_
            refine j_aload_n (q := 55) hO dX10_head_54 rfl rfl ?_
            refine m_getI (j := 9) (q := 58) hO hm dX10_head_55 rfl mw_507 (by decide) rfl ?_
            refine j_iload_n (q := 59) hO dX10_head_58 rfl rfl ?_
            refine m_iast (x := 27) (a := 8) (q := 60) hO hm MK_27 dX10_head_59 rfl rfl (j := nh) hnh (by omega) ?_
            refine j_aload_n (q := 61) hO dX10_head_60 rfl rfl ?_
            refine m_getA (j := 11) (x := 28) (q := 64) hO hm dX10_head_61 rfl mw_509 (by decide) rfl rfl ?_
            refine j_aload_n (q := 65) hO dX10_head_64 rfl rfl ?_
            refine m_getI (j := 9) (q := 68) hO hm dX10_head_65 rfl mw_507 (by decide) rfl ?_
            refine j_dload_n (q := 69) hO dX10_head_68 rfl rfl ?_
            refine j_aload_n (q := 70) hO dX10_head_69 rfl rfl ?_
            refine m_getA (j := 3) (x := 21) (q := 73) hO hm dX10_head_70 rfl mw_501 (by decide) rfl rfl ?_
            refine j_iload_n (q := 74) hO dX10_head_73 rfl rfl ?_
            refine m_dald (x := 21) (a := 2) (q := 75) hO hm MK_21 dX10_head_74 rfl rfl (j := b) rfl (by omega) ?_
            refine j_ddiv (q := 76) hO dX10_head_75 rfl (n64_of (ddiv_ok (wi_ok c28) (hlen b hbn))) ?_
            refine j_aload_n (q := 77) hO dX10_head_76 rfl rfl ?_
            refine m_getA (j := 2) (x := 20) (q := 80) hO hm dX10_head_77 rfl mw_500 (by decide) rfl rfl ?_
            refine j_iload_n (q := 81) hO dX10_head_80 rfl rfl ?_
            refine m_iald (x := 20) (a := 1) (q := 82) hO hm MK_20 dX10_head_81 rfl rfl (j := b) rfl (by omega) ?_
            refine j_i2d (q := 83) hO dX10_head_82 rfl ?_
            refine j_dmul (q := 84) hO dX10_head_83 rfl (n64_of (by show dOk (FP.dmul _ (FP.i2d (aI α 1 b))); rw [ht]; exact dmul_okz (ddiv_ok (wi_ok c28) (hlen b hbn)) (i2d_nz t (by omega) (by omega)))) ?_
            refine j_d2i (q := 85) hO dX10_head_84 rfl ?_
            refine m_iast (x := 28) (a := 9) (q := 86) hO hm MK_28 dX10_head_85 rfl rfl (j := nh) hnh (by omega) ?_
            refine j_aload_n (q := 87) hO dX10_head_86 rfl rfl ?_
            refine m_getA (j := 12) (x := 29) (q := 90) hO hm dX10_head_87 rfl mw_510 (by decide) rfl rfl ?_
            refine j_aload_n (q := 91) hO dX10_head_90 rfl rfl ?_
            refine m_getI (j := 9) (q := 94) hO hm dX10_head_91 rfl mw_507 (by decide) rfl ?_
            refine j_dload (q := 96) hO dX10_head_94 rfl rfl ?_
            refine m_dast (x := 29) (a := 10) (q := 97) hO hm MK_29 dX10_head_96 rfl rfl (j := nh) hnh (by omega) ?_
            refine j_aload_n (q := 98) hO dX10_head_97 rfl rfl ?_
            refine j_dup (q := 99) hO dX10_head_98 rfl rfl ?_
            refine m_getI (j := 9) (q := 102) hO hm dX10_head_99 rfl mw_507 (by decide) rfl ?_
            refine j_iconst (v := 1) (q := 103) hO dX10_head_102 rfl (by decide) ?_
            refine j_iadd (q := 104) hO dX10_head_103 rfl ?_
            refine m_putI (j := 9) (q := 107) hO hm dX10_head_104 rfl mw_507 (by decide) rfl rfl (by decide +kernel) ?_
            refine j_aload_n (q := 108) hO dX10_head_107 rfl rfl ?_
            refine m_getI (j := 9) (q := 111) hO hm dX10_head_108 rfl mw_507 (by decide) rfl ?_
            refine j_iconst (v := 1) (q := 112) hO dX10_head_111 rfl (by decide) ?_
            refine j_isub (q := 113) hO dX10_head_112 rfl ?_
            exact j_iret hM dX10_head_113 (Nat.le_of_ble_eq_true rfl) (Nat.le_of_ble_eq_true rfl) ⟨by unfold headA kHead; rw [enb, decide_eq_true ⟨c6, c14, c28, c38, op1 c45⟩]; show some (Value.int (aI α 0 9 + 1 - 1)) = some (Value.int (aI α 0 9)); rw [hnh, nI_m1], by unfold headF kHead; rw [enb, decide_eq_true ⟨c6, c14, c28, c38, op1 c45⟩, show nn (aI α 0 9) = nh from by rw [hnh]; exact nn_nI (by omega)]; rfl⟩
          · refine j_iconst (v := (-1)) (q := 49) hO dX10_head_48 rfl (by decide) ?_
            exact j_iret hM dX10_head_49 (Nat.le_of_ble_eq_true rfl) (Nat.le_of_ble_eq_true rfl) ⟨by unfold headA kHead; rw [decide_eq_false (fun z => op0 c45 z.2.2.2.2)]; rfl, by unfold headF kHead; rw [decide_eq_false (fun z => op0 c45 z.2.2.2.2)]; rfl⟩
set_option maxHeartbeats 4000000 in
set_option maxRecDepth 100000 in
theorem c_10_bunker (l : Launch) (S : St) (α : Al) (nu : Nat) (room : UInt64) (hm : MSh S) (hnu : aI α 0 13 = nI nu) (hn4 : nu ≤ 4) : Ct l yX10_bunker cX10_bunker 3 (some .int) (rm 1 0 0 25) [.ref (sA S 10 0), .double room] (wr S α) (fun r S' => r = some (.int (bunkA α room)) ∧ S' = wr S (bunkF α room)) := by
  refine Ct.of (by decide) (Nat.le_of_ble_eq_true rfl) (fun X hM => ?_)
  have hO := hM.1
  obtain rfl := hM.l
  show Jg X 0 0 (wr S α) 0 [(0, .ref (sA S 10 0)), (1, .double room)] []
  refine j_aload_n (q := 1) hO dX10_bunker_0 rfl rfl ?_
  refine m_getI (j := 13) (q := 4) hO hm dX10_bunker_1 rfl mw_511 (by decide) rfl ?_
  refine j_iconst (v := 4) (q := 5) hO dX10_bunker_4 rfl (by decide) ?_
  refine j_icmp_eq (tgt := 26) (q := 8) hO dX10_bunker_5 rfl (by decide) (fun c5 => ?_) (fun c5 => ?_)
  · refine j_iconst (v := (-1)) (q := 27) hO dX10_bunker_26 rfl (by decide) ?_
    exact j_iret hM dX10_bunker_27 (Nat.le_of_ble_eq_true rfl) (Nat.le_of_ble_eq_true rfl) ⟨by unfold bunkA kBunk; rw [decide_eq_false (fun z => z.1 c5)]; rfl, by unfold bunkF kBunk; rw [decide_eq_false (fun z => z.1 c5)]; rfl⟩
  · refine j_dload_n (q := 9) hO dX10_bunker_8 rfl rfl ?_
    refine j_dconst0 (q := 10) hO dX10_bunker_9 rfl ?_
    refine j_ldc2d (q := 13) hO dX10_bunker_10 rfl mw_661 ?_
    refine j_callS (q := 16) hO (c_10_isIn (lx X) _ _ _ _) M_10_isIn mw_642 rfl rfl (by unfold roomy; rw [hM.R]; exact ⟨⟨Nat.le_of_ble_eq_true rfl, Nat.le_of_ble_eq_true rfl⟩, ⟨Nat.le_of_ble_eq_true rfl, Nat.le_of_ble_eq_true rfl⟩, Nat.le_of_ble_eq_true rfl⟩) dX10_bunker_13 rfl (fun v_13 S_13 hp_13 => ?_)
    obtain ⟨rfl, rfl⟩ := hp_13
    refine j_if_eq (tgt := 26) (q := 19) hO dX10_bunker_16 rfl (by decide) (fun c16 => ?_) (fun c16 => ?_)
    · refine j_iconst (v := (-1)) (q := 27) hO dX10_bunker_26 rfl (by decide) ?_
      exact j_iret hM dX10_bunker_27 (Nat.le_of_ble_eq_true rfl) (Nat.le_of_ble_eq_true rfl) ⟨by unfold bunkA kBunk; rw [decide_eq_false (fun z => z.2.1 c16)]; rfl, by unfold bunkF kBunk; rw [decide_eq_false (fun z => z.2.1 c16)]; rfl⟩
    · refine j_aload_n (q := 20) hO dX10_bunker_19 rfl rfl ?_
      refine j_callV (x := 10) (q := 23) hO (c_10_isOpen (lx X) _ hm.1) M_10_isOpen mw_645 CK_10 rfl hm.1 rfl rfl rfl (by unfold roomy; rw [hM.R]; exact ⟨⟨Nat.le_of_ble_eq_true rfl, Nat.le_of_ble_eq_true rfl⟩, ⟨Nat.le_of_ble_eq_true rfl, Nat.le_of_ble_eq_true rfl⟩, Nat.le_of_ble_eq_true rfl⟩) dX10_bunker_20 rfl (fun v_20 S_20 hp_20 => ?_)
      obtain ⟨rfl, rfl⟩ := hp_20
      refine j_if_ne (tgt := 28) (q := 26) hO dX10_bunker_23 rfl (by decide) (fun c23 => ?_) (fun c23 => ?_)
      · have hlt : nu < 4 := by rcases Nat.lt_or_ge nu 4 with q | q; exact q; exact absurd (by rw [hnu, show nu = 4 by omega]; rfl) c5
        refine j_aload_n (q := 29) hO dX10_bunker_28 rfl rfl ?_
        refine m_getA (j := 14) (x := 30) (q := 32) hO hm dX10_bunker_29 rfl mw_512 (by decide) rfl rfl ?_
        refine j_aload_n (q := 33) hO dX10_bunker_32 rfl rfl ?_
        refine m_getI (j := 13) (q := 36) hO hm dX10_bunker_33 rfl mw_511 (by decide) rfl ?_
        refine j_dload_n (q := 37) hO dX10_bunker_36 rfl rfl ?_
        refine m_dast (x := 30) (a := 11) (q := 38) hO hm MK_30 dX10_bunker_37 rfl rfl (j := nu) hnu (by omega) ?_
        refine j_aload_n (q := 39) hO dX10_bunker_38 rfl rfl ?_
        refine j_dup (q := 40) hO dX10_bunker_39 rfl rfl ?_
        refine m_getI (j := 13) (q := 43) hO hm dX10_bunker_40 rfl mw_511 (by decide) rfl ?_
        refine j_iconst (v := 1) (q := 44) hO dX10_bunker_43 rfl (by decide) ?_
        refine j_iadd (q := 45) hO dX10_bunker_44 rfl ?_
        refine m_putI (j := 13) (q := 48) hO hm dX10_bunker_45 rfl mw_511 (by decide) rfl rfl (by decide +kernel) ?_
        refine j_aload_n (q := 49) hO dX10_bunker_48 rfl rfl ?_
        refine m_getI (j := 13) (q := 52) hO hm dX10_bunker_49 rfl mw_511 (by decide) rfl ?_
        refine j_iconst (v := 1) (q := 53) hO dX10_bunker_52 rfl (by decide) ?_
        refine j_isub (q := 54) hO dX10_bunker_53 rfl ?_
        exact j_iret hM dX10_bunker_54 (Nat.le_of_ble_eq_true rfl) (Nat.le_of_ble_eq_true rfl) ⟨by unfold bunkA kBunk; rw [decide_eq_true ⟨c5, c16, op1 c23⟩]; show some (Value.int (aI α 0 13 + 1 - 1)) = some (Value.int (aI α 0 13)); rw [hnu, nI_m1], by unfold bunkF kBunk; rw [decide_eq_true ⟨c5, c16, op1 c23⟩, show nn (aI α 0 13) = nu from by rw [hnu]; exact nn_nI (by omega)]; rfl⟩
      · refine j_iconst (v := (-1)) (q := 27) hO dX10_bunker_26 rfl (by decide) ?_
        exact j_iret hM dX10_bunker_27 (Nat.le_of_ble_eq_true rfl) (Nat.le_of_ble_eq_true rfl) ⟨by unfold bunkA kBunk; rw [decide_eq_false (fun z => op0 c23 z.2.2)]; rfl, by unfold bunkF kBunk; rw [decide_eq_false (fun z => op0 c23 z.2.2)]; rfl⟩
set_option maxHeartbeats 4000000 in
set_option maxRecDepth 100000 in
theorem c_10_rule (l : Launch) (S : St) (α : Al) (nb : Nat) (b0 : Int32) (load : UInt64) (s : Int32) (hm : MSh S) (hnb : aI α 0 1 = nI nb) (hb6 : nb ≤ 6) : Ct l yX10_rule cX10_rule 5 (some .boolean) (rm 1 0 0 25) [.ref (sA S 10 0), .int b0, .double load, .int s] (wr S α) (fun r S' => r = some (.int (boA (kRule α b0 load s))) ∧ S' = wr S (ruleF α b0 load s)) := by
  refine Ct.of (by decide) (Nat.le_of_ble_eq_true rfl) (fun X hM => ?_)
  have hO := hM.1
  obtain rfl := hM.l
  show Jg X 0 0 (wr S α) 0 [(0, .ref (sA S 10 0)), (1, .int b0), (2, .double load), (4, .int s)] []
  refine j_aload_n (q := 1) hO dX10_rule_0 rfl rfl ?_
  refine j_iload_n (q := 2) hO dX10_rule_1 rfl rfl ?_
  refine j_callV (x := 10) (q := 5) hO (c_10_isBelt (lx X) _ _ hm.1) M_10_isBelt mw_653 CK_10 rfl hm.1 rfl rfl rfl (by unfold roomy; rw [hM.R]; exact ⟨⟨Nat.le_of_ble_eq_true rfl, Nat.le_of_ble_eq_true rfl⟩, ⟨Nat.le_of_ble_eq_true rfl, Nat.le_of_ble_eq_true rfl⟩, Nat.le_of_ble_eq_true rfl⟩) dX10_rule_2 rfl (fun v_2 S_2 hp_2 => ?_)
  obtain ⟨rfl, rfl⟩ := hp_2
  refine j_if_eq (tgt := 40) (q := 8) hO dX10_rule_5 rfl (by decide) (fun c5 => ?_) (fun c5 => ?_)
  · refine j_iconst (v := 0) (q := 41) hO dX10_rule_40 rfl (by decide) ?_
    exact j_zret hM dX10_rule_41 (Nat.le_of_ble_eq_true rfl) (Nat.le_of_ble_eq_true rfl) (by decide) ⟨by unfold boA kRule; rw [decide_eq_false (fun z => z.1 c5)]; rfl, by unfold ruleF kRule; rw [decide_eq_false (fun z => z.1 c5)]; rfl⟩
  · obtain ⟨b, hbn, rfl⟩ := iB_in hnb hb6 c5
    have enb : nn (nI b) = b := nn_nI (by omega)
    refine j_dload_n (q := 9) hO dX10_rule_8 rfl rfl ?_
    refine j_dconst0 (q := 10) hO dX10_rule_9 rfl ?_
    refine j_ldc2d (q := 13) hO dX10_rule_10 rfl mw_661 ?_
    refine j_callS (q := 16) hO (c_10_isIn (lx X) _ _ _ _) M_10_isIn mw_642 rfl rfl (by unfold roomy; rw [hM.R]; exact ⟨⟨Nat.le_of_ble_eq_true rfl, Nat.le_of_ble_eq_true rfl⟩, ⟨Nat.le_of_ble_eq_true rfl, Nat.le_of_ble_eq_true rfl⟩, Nat.le_of_ble_eq_true rfl⟩) dX10_rule_13 rfl (fun v_13 S_13 hp_13 => ?_)
    obtain ⟨rfl, rfl⟩ := hp_13
    refine j_if_eq (tgt := 40) (q := 19) hO dX10_rule_16 rfl (by decide) (fun c16 => ?_) (fun c16 => ?_)
    · refine j_iconst (v := 0) (q := 41) hO dX10_rule_40 rfl (by decide) ?_
      exact j_zret hM dX10_rule_41 (Nat.le_of_ble_eq_true rfl) (Nat.le_of_ble_eq_true rfl) (by decide) ⟨by unfold boA kRule; rw [decide_eq_false (fun z => z.2.1 c16)]; rfl, by unfold ruleF kRule; rw [decide_eq_false (fun z => z.2.1 c16)]; rfl⟩
    · refine j_iload (q := 21) hO dX10_rule_19 rfl rfl ?_
      refine j_iconst (v := 1) (q := 22) hO dX10_rule_21 rfl (by decide) ?_
      refine j_icmp_lt (tgt := 40) (q := 25) hO dX10_rule_22 rfl (by decide) (fun c22 => ?_) (fun c22 => ?_)
      · refine j_iconst (v := 0) (q := 41) hO dX10_rule_40 rfl (by decide) ?_
        exact j_zret hM dX10_rule_41 (Nat.le_of_ble_eq_true rfl) (Nat.le_of_ble_eq_true rfl) (by decide) ⟨by unfold boA kRule; rw [decide_eq_false (fun z => z.2.2.1 c22)]; rfl, by unfold ruleF kRule; rw [decide_eq_false (fun z => z.2.2.1 c22)]; rfl⟩
      · refine j_iload (q := 27) hO dX10_rule_25 rfl rfl ?_
        refine j_sipush (v := 1000) (q := 30) hO dX10_rule_27 rfl (by decide) ?_
        refine j_icmp_gt (tgt := 40) (q := 33) hO dX10_rule_30 rfl (by decide) (fun c30 => ?_) (fun c30 => ?_)
        · refine j_iconst (v := 0) (q := 41) hO dX10_rule_40 rfl (by decide) ?_
          exact j_zret hM dX10_rule_41 (Nat.le_of_ble_eq_true rfl) (Nat.le_of_ble_eq_true rfl) (by decide) ⟨by unfold boA kRule; rw [decide_eq_false (fun z => z.2.2.2.1 c30)]; rfl, by unfold ruleF kRule; rw [decide_eq_false (fun z => z.2.2.2.1 c30)]; rfl⟩
        · refine j_aload_n (q := 34) hO dX10_rule_33 rfl rfl ?_
          refine j_callV (x := 10) (q := 37) hO (c_10_isOpen (lx X) _ hm.1) M_10_isOpen mw_645 CK_10 rfl hm.1 rfl rfl rfl (by unfold roomy; rw [hM.R]; exact ⟨⟨Nat.le_of_ble_eq_true rfl, Nat.le_of_ble_eq_true rfl⟩, ⟨Nat.le_of_ble_eq_true rfl, Nat.le_of_ble_eq_true rfl⟩, Nat.le_of_ble_eq_true rfl⟩) dX10_rule_34 rfl (fun v_34 S_34 hp_34 => ?_)
          obtain ⟨rfl, rfl⟩ := hp_34
          refine j_if_ne (tgt := 42) (q := 40) hO dX10_rule_37 rfl (by decide) (fun c37 => ?_) (fun c37 => ?_)
          · refine j_aload_n (q := 43) hO dX10_rule_42 rfl rfl ?_
            refine m_getA (j := 5) (x := 23) (q := 46) hO hm dX10_rule_43 rfl mw_503 (by decide) rfl rfl ?_
            refine j_iload_n (q := 47) hO dX10_rule_46 rfl rfl ?_
            refine j_iconst (v := 1) (q := 48) hO dX10_rule_47 rfl (by decide) ?_
            refine m_zast (x := 23) (a := 4) (q := 49) hO hm MK_23 dX10_rule_48 rfl rfl (by decide) (j := b) rfl (by omega) ?_
            refine j_aload_n (q := 50) hO dX10_rule_49 rfl rfl ?_
            refine m_getA (j := 6) (x := 24) (q := 53) hO hm dX10_rule_50 rfl mw_504 (by decide) rfl rfl ?_
            refine j_iload_n (q := 54) hO dX10_rule_53 rfl rfl ?_
            refine j_dload_n (q := 55) hO dX10_rule_54 rfl rfl ?_
            refine m_dast (x := 24) (a := 5) (q := 56) hO hm MK_24 dX10_rule_55 rfl rfl (j := b) rfl (by omega) ?_
            refine j_aload_n (q := 57) hO dX10_rule_56 rfl rfl ?_
            refine m_getA (j := 7) (x := 25) (q := 60) hO hm dX10_rule_57 rfl mw_505 (by decide) rfl rfl ?_
            refine j_iload_n (q := 61) hO dX10_rule_60 rfl rfl ?_
            refine j_iload (q := 63) hO dX10_rule_61 rfl rfl ?_
            refine m_iast (x := 25) (a := 6) (q := 64) hO hm MK_25 dX10_rule_63 rfl rfl (j := b) rfl (by omega) ?_
            refine j_iconst (v := 1) (q := 65) hO dX10_rule_64 rfl (by decide) ?_
            exact j_zret hM dX10_rule_65 (Nat.le_of_ble_eq_true rfl) (Nat.le_of_ble_eq_true rfl) (by decide) ⟨by unfold boA kRule; rw [decide_eq_true ⟨c5, c16, c22, c30, op1 c37⟩]; rfl, by unfold ruleF kRule; rw [decide_eq_true ⟨c5, c16, c22, c30, op1 c37⟩, enb]; rfl⟩
          · refine j_iconst (v := 0) (q := 41) hO dX10_rule_40 rfl (by decide) ?_
            exact j_zret hM dX10_rule_41 (Nat.le_of_ble_eq_true rfl) (Nat.le_of_ble_eq_true rfl) (by decide) ⟨by unfold boA kRule; rw [decide_eq_false (fun z => op0 c37 z.2.2.2.2)]; rfl, by unfold ruleF kRule; rw [decide_eq_false (fun z => op0 c37 z.2.2.2.2)]; rfl⟩
set_option maxHeartbeats 4000000 in
set_option maxRecDepth 100000 in
theorem c_10_picker (l : Launch) (S : St) (α : Al) (nb nx : Nat) (b0 : Int32) (u v : UInt64) (hm : MSh S) (hnb : aI α 0 1 = nI nb) (hb6 : nb ≤ 6) (hnx : aI α 0 20 = nI nx) (hn4 : nx ≤ 4) : Ct l yX10_picker cX10_picker 6 (some .int) (rm 1 0 0 25) [.ref (sA S 10 0), .int b0, .double u, .double v] (wr S α) (fun r S' => r = some (.int (picA α b0 u v)) ∧ S' = wr S (picF α b0 u v)) := by
  refine Ct.of (by decide) (Nat.le_of_ble_eq_true rfl) (fun X hM => ?_)
  have hO := hM.1
  obtain rfl := hM.l
  show Jg X 0 0 (wr S α) 0 [(0, .ref (sA S 10 0)), (1, .int b0), (2, .double u), (4, .double v)] []
  refine j_aload_n (q := 1) hO dX10_picker_0 rfl rfl ?_
  refine m_getI (j := 20) (q := 4) hO hm dX10_picker_1 rfl mw_518 (by decide) rfl ?_
  refine j_iconst (v := 4) (q := 5) hO dX10_picker_4 rfl (by decide) ?_
  refine j_icmp_eq (tgt := 48) (q := 8) hO dX10_picker_5 rfl (by decide) (fun c5 => ?_) (fun c5 => ?_)
  · refine j_iconst (v := (-1)) (q := 49) hO dX10_picker_48 rfl (by decide) ?_
    exact j_iret hM dX10_picker_49 (Nat.le_of_ble_eq_true rfl) (Nat.le_of_ble_eq_true rfl) ⟨by unfold picA kPick; rw [decide_eq_false (fun z => z.1 c5)]; rfl, by unfold picF kPick; rw [decide_eq_false (fun z => z.1 c5)]; rfl⟩
  · refine j_aload_n (q := 9) hO dX10_picker_8 rfl rfl ?_
    refine j_iload_n (q := 10) hO dX10_picker_9 rfl rfl ?_
    refine j_callV (x := 10) (q := 13) hO (c_10_isBelt (lx X) _ _ hm.1) M_10_isBelt mw_653 CK_10 rfl hm.1 rfl rfl rfl (by unfold roomy; rw [hM.R]; exact ⟨⟨Nat.le_of_ble_eq_true rfl, Nat.le_of_ble_eq_true rfl⟩, ⟨Nat.le_of_ble_eq_true rfl, Nat.le_of_ble_eq_true rfl⟩, Nat.le_of_ble_eq_true rfl⟩) dX10_picker_10 rfl (fun v_10 S_10 hp_10 => ?_)
    obtain ⟨rfl, rfl⟩ := hp_10
    refine j_if_eq (tgt := 48) (q := 16) hO dX10_picker_13 rfl (by decide) (fun c13 => ?_) (fun c13 => ?_)
    · refine j_iconst (v := (-1)) (q := 49) hO dX10_picker_48 rfl (by decide) ?_
      exact j_iret hM dX10_picker_49 (Nat.le_of_ble_eq_true rfl) (Nat.le_of_ble_eq_true rfl) ⟨by unfold picA kPick; rw [decide_eq_false (fun z => z.2.1 c13)]; rfl, by unfold picF kPick; rw [decide_eq_false (fun z => z.2.1 c13)]; rfl⟩
    · obtain ⟨b, hbn, rfl⟩ := iB_in hnb hb6 c13
      have enb : nn (nI b) = b := nn_nI (by omega)
      refine j_dload_n (q := 17) hO dX10_picker_16 rfl rfl ?_
      refine j_ldc2d (q := 20) hO dX10_picker_17 rfl mw_674 ?_
      refine j_ldc2d (q := 23) hO dX10_picker_20 rfl mw_675 ?_
      refine j_callS (q := 26) hO (c_10_isIn (lx X) _ _ _ _) M_10_isIn mw_642 rfl rfl (by unfold roomy; rw [hM.R]; exact ⟨⟨Nat.le_of_ble_eq_true rfl, Nat.le_of_ble_eq_true rfl⟩, ⟨Nat.le_of_ble_eq_true rfl, Nat.le_of_ble_eq_true rfl⟩, Nat.le_of_ble_eq_true rfl⟩) dX10_picker_23 rfl (fun v_23 S_23 hp_23 => ?_)
      obtain ⟨rfl, rfl⟩ := hp_23
      refine j_if_eq (tgt := 48) (q := 29) hO dX10_picker_26 rfl (by decide) (fun c26 => ?_) (fun c26 => ?_)
      · refine j_iconst (v := (-1)) (q := 49) hO dX10_picker_48 rfl (by decide) ?_
        exact j_iret hM dX10_picker_49 (Nat.le_of_ble_eq_true rfl) (Nat.le_of_ble_eq_true rfl) ⟨by unfold picA kPick; rw [decide_eq_false (fun z => z.2.2.1 c26)]; rfl, by unfold picF kPick; rw [decide_eq_false (fun z => z.2.2.1 c26)]; rfl⟩
      · refine j_dload (q := 31) hO dX10_picker_29 rfl rfl ?_
        refine j_dconst0 (q := 32) hO dX10_picker_31 rfl ?_
        refine j_ldc2d (q := 35) hO dX10_picker_32 rfl mw_676 ?_
        refine j_callS (q := 38) hO (c_10_isIn (lx X) _ _ _ _) M_10_isIn mw_642 rfl rfl (by unfold roomy; rw [hM.R]; exact ⟨⟨Nat.le_of_ble_eq_true rfl, Nat.le_of_ble_eq_true rfl⟩, ⟨Nat.le_of_ble_eq_true rfl, Nat.le_of_ble_eq_true rfl⟩, Nat.le_of_ble_eq_true rfl⟩) dX10_picker_35 rfl (fun v_35 S_35 hp_35 => ?_)
        obtain ⟨rfl, rfl⟩ := hp_35
        refine j_if_eq (tgt := 48) (q := 41) hO dX10_picker_38 rfl (by decide) (fun c38 => ?_) (fun c38 => ?_)
        · refine j_iconst (v := (-1)) (q := 49) hO dX10_picker_48 rfl (by decide) ?_
          exact j_iret hM dX10_picker_49 (Nat.le_of_ble_eq_true rfl) (Nat.le_of_ble_eq_true rfl) ⟨by unfold picA kPick; rw [decide_eq_false (fun z => z.2.2.2.1 c38)]; rfl, by unfold picF kPick; rw [decide_eq_false (fun z => z.2.2.2.1 c38)]; rfl⟩
        · refine j_aload_n (q := 42) hO dX10_picker_41 rfl rfl ?_
          refine j_callV (x := 10) (q := 45) hO (c_10_isOpen (lx X) _ hm.1) M_10_isOpen mw_645 CK_10 rfl hm.1 rfl rfl rfl (by unfold roomy; rw [hM.R]; exact ⟨⟨Nat.le_of_ble_eq_true rfl, Nat.le_of_ble_eq_true rfl⟩, ⟨Nat.le_of_ble_eq_true rfl, Nat.le_of_ble_eq_true rfl⟩, Nat.le_of_ble_eq_true rfl⟩) dX10_picker_42 rfl (fun v_42 S_42 hp_42 => ?_)
          obtain ⟨rfl, rfl⟩ := hp_42
          refine j_if_ne (tgt := 50) (q := 48) hO dX10_picker_45 rfl (by decide) (fun c45 => ?_) (fun c45 => ?_)
          · have hlt : nx < 4 := by rcases Nat.lt_or_ge nx 4 with q | q; exact q; exact absurd (by rw [hnx, show nx = 4 by omega]; rfl) c5
            refine j_aload_n (q := 51) hO dX10_picker_50 rfl rfl ?_
            refine m_getA (j := 21) (x := 35) (q := 54) hO hm dX10_picker_51 rfl mw_519 (by decide) rfl rfl ?_
            refine j_aload_n (q := 55) hO dX10_picker_54 rfl rfl ?_
            refine m_getI (j := 20) (q := 58) hO hm dX10_picker_55 rfl mw_518 (by decide) rfl ?_
            refine j_iload_n (q := 59) hO dX10_picker_58 rfl rfl ?_
            refine m_iast (x := 35) (a := 16) (q := 60) hO hm MK_35 dX10_picker_59 rfl rfl (j := nx) hnx (by omega) ?_
            refine j_aload_n (q := 61) hO dX10_picker_60 rfl rfl ?_
            refine m_getA (j := 22) (x := 36) (q := 64) hO hm dX10_picker_61 rfl mw_520 (by decide) rfl rfl ?_
            refine j_aload_n (q := 65) hO dX10_picker_64 rfl rfl ?_
            refine m_getI (j := 20) (q := 68) hO hm dX10_picker_65 rfl mw_518 (by decide) rfl ?_
            refine j_dload_n (q := 69) hO dX10_picker_68 rfl rfl ?_
            refine m_dast (x := 36) (a := 17) (q := 70) hO hm MK_36 dX10_picker_69 rfl rfl (j := nx) hnx (by omega) ?_
            refine j_aload_n (q := 71) hO dX10_picker_70 rfl rfl ?_
            refine m_getA (j := 23) (x := 37) (q := 74) hO hm dX10_picker_71 rfl mw_521 (by decide) rfl rfl ?_
            refine j_aload_n (q := 75) hO dX10_picker_74 rfl rfl ?_
            refine m_getI (j := 20) (q := 78) hO hm dX10_picker_75 rfl mw_518 (by decide) rfl ?_
            refine j_dload (q := 80) hO dX10_picker_78 rfl rfl ?_
            refine m_dast (x := 37) (a := 18) (q := 81) hO hm MK_37 dX10_picker_80 rfl rfl (j := nx) hnx (by omega) ?_
            refine j_aload_n (q := 82) hO dX10_picker_81 rfl rfl ?_
            refine j_dup (q := 83) hO dX10_picker_82 rfl rfl ?_
            refine m_getI (j := 20) (q := 86) hO hm dX10_picker_83 rfl mw_518 (by decide) rfl ?_
            refine j_iconst (v := 1) (q := 87) hO dX10_picker_86 rfl (by decide) ?_
            refine j_iadd (q := 88) hO dX10_picker_87 rfl ?_
            refine m_putI (j := 20) (q := 91) hO hm dX10_picker_88 rfl mw_518 (by decide) rfl rfl (by decide +kernel) ?_
            refine j_aload_n (q := 92) hO dX10_picker_91 rfl rfl ?_
            refine m_getI (j := 20) (q := 95) hO hm dX10_picker_92 rfl mw_518 (by decide) rfl ?_
            refine j_iconst (v := 1) (q := 96) hO dX10_picker_95 rfl (by decide) ?_
            refine j_isub (q := 97) hO dX10_picker_96 rfl ?_
            exact j_iret hM dX10_picker_97 (Nat.le_of_ble_eq_true rfl) (Nat.le_of_ble_eq_true rfl) ⟨by unfold picA kPick; rw [decide_eq_true ⟨c5, c13, c26, c38, op1 c45⟩]; show some (Value.int (aI α 0 20 + 1 - 1)) = some (Value.int (aI α 0 20)); rw [hnx, nI_m1], by unfold picF kPick; rw [decide_eq_true ⟨c5, c13, c26, c38, op1 c45⟩, show nn (aI α 0 20) = nx from by rw [hnx]; exact nn_nI (by omega)]; rfl⟩
          · refine j_iconst (v := (-1)) (q := 49) hO dX10_picker_48 rfl (by decide) ?_
            exact j_iret hM dX10_picker_49 (Nat.le_of_ble_eq_true rfl) (Nat.le_of_ble_eq_true rfl) ⟨by unfold picA kPick; rw [decide_eq_false (fun z => op0 c45 z.2.2.2.2)]; rfl, by unfold picF kPick; rw [decide_eq_false (fun z => op0 c45 z.2.2.2.2)]; rfl⟩
set_option maxHeartbeats 4000000 in
set_option maxRecDepth 100000 in
theorem c_10_robot (l : Launch) (S : St) (α : Al) (nb nx : Nat) (b0 : Int32) (u v : UInt64) (hm : MSh S) (hnb : aI α 0 1 = nI nb) (hb6 : nb ≤ 6) (hnx : aI α 0 16 = nI nx) (hn4 : nx ≤ 4) : Ct l yX10_robot cX10_robot 6 (some .int) (rm 1 0 0 25) [.ref (sA S 10 0), .int b0, .double u, .double v] (wr S α) (fun r S' => r = some (.int (robotA α b0 u v)) ∧ S' = wr S (robotF α b0 u v)) := by
  refine Ct.of (by decide) (Nat.le_of_ble_eq_true rfl) (fun X hM => ?_)
  have hO := hM.1
  obtain rfl := hM.l
  show Jg X 0 0 (wr S α) 0 [(0, .ref (sA S 10 0)), (1, .int b0), (2, .double u), (4, .double v)] []
  refine j_aload_n (q := 1) hO dX10_robot_0 rfl rfl ?_
  refine m_getI (j := 16) (q := 4) hO hm dX10_robot_1 rfl mw_514 (by decide) rfl ?_
  refine j_iconst (v := 4) (q := 5) hO dX10_robot_4 rfl (by decide) ?_
  refine j_icmp_eq (tgt := 44) (q := 8) hO dX10_robot_5 rfl (by decide) (fun c5 => ?_) (fun c5 => ?_)
  · refine j_iconst (v := (-1)) (q := 45) hO dX10_robot_44 rfl (by decide) ?_
    exact j_iret hM dX10_robot_45 (Nat.le_of_ble_eq_true rfl) (Nat.le_of_ble_eq_true rfl) ⟨by unfold robotA kRob; rw [decide_eq_false (fun z => z.1 c5)]; rfl, by unfold robotF kRob; rw [decide_eq_false (fun z => z.1 c5)]; rfl⟩
  · refine j_aload_n (q := 9) hO dX10_robot_8 rfl rfl ?_
    refine j_iload_n (q := 10) hO dX10_robot_9 rfl rfl ?_
    refine j_callV (x := 10) (q := 13) hO (c_10_isBelt (lx X) _ _ hm.1) M_10_isBelt mw_653 CK_10 rfl hm.1 rfl rfl rfl (by unfold roomy; rw [hM.R]; exact ⟨⟨Nat.le_of_ble_eq_true rfl, Nat.le_of_ble_eq_true rfl⟩, ⟨Nat.le_of_ble_eq_true rfl, Nat.le_of_ble_eq_true rfl⟩, Nat.le_of_ble_eq_true rfl⟩) dX10_robot_10 rfl (fun v_10 S_10 hp_10 => ?_)
    obtain ⟨rfl, rfl⟩ := hp_10
    refine j_if_eq (tgt := 44) (q := 16) hO dX10_robot_13 rfl (by decide) (fun c13 => ?_) (fun c13 => ?_)
    · refine j_iconst (v := (-1)) (q := 45) hO dX10_robot_44 rfl (by decide) ?_
      exact j_iret hM dX10_robot_45 (Nat.le_of_ble_eq_true rfl) (Nat.le_of_ble_eq_true rfl) ⟨by unfold robotA kRob; rw [decide_eq_false (fun z => z.2.1 c13)]; rfl, by unfold robotF kRob; rw [decide_eq_false (fun z => z.2.1 c13)]; rfl⟩
    · obtain ⟨b, hbn, rfl⟩ := iB_in hnb hb6 c13
      have enb : nn (nI b) = b := nn_nI (by omega)
      refine j_dload_n (q := 17) hO dX10_robot_16 rfl rfl ?_
      refine j_dconst0 (q := 18) hO dX10_robot_17 rfl ?_
      refine j_ldc2d (q := 21) hO dX10_robot_18 rfl mw_676 ?_
      refine j_callS (q := 24) hO (c_10_isIn (lx X) _ _ _ _) M_10_isIn mw_642 rfl rfl (by unfold roomy; rw [hM.R]; exact ⟨⟨Nat.le_of_ble_eq_true rfl, Nat.le_of_ble_eq_true rfl⟩, ⟨Nat.le_of_ble_eq_true rfl, Nat.le_of_ble_eq_true rfl⟩, Nat.le_of_ble_eq_true rfl⟩) dX10_robot_21 rfl (fun v_21 S_21 hp_21 => ?_)
      obtain ⟨rfl, rfl⟩ := hp_21
      refine j_if_eq (tgt := 44) (q := 27) hO dX10_robot_24 rfl (by decide) (fun c24 => ?_) (fun c24 => ?_)
      · refine j_iconst (v := (-1)) (q := 45) hO dX10_robot_44 rfl (by decide) ?_
        exact j_iret hM dX10_robot_45 (Nat.le_of_ble_eq_true rfl) (Nat.le_of_ble_eq_true rfl) ⟨by unfold robotA kRob; rw [decide_eq_false (fun z => z.2.2.1 c24)]; rfl, by unfold robotF kRob; rw [decide_eq_false (fun z => z.2.2.1 c24)]; rfl⟩
      · refine j_dload (q := 29) hO dX10_robot_27 rfl rfl ?_
        refine j_dconst0 (q := 30) hO dX10_robot_29 rfl ?_
        refine j_dconst1 (q := 31) hO dX10_robot_30 rfl ?_
        refine j_callS (q := 34) hO (c_10_isIn (lx X) _ _ _ _) M_10_isIn mw_642 rfl rfl (by unfold roomy; rw [hM.R]; exact ⟨⟨Nat.le_of_ble_eq_true rfl, Nat.le_of_ble_eq_true rfl⟩, ⟨Nat.le_of_ble_eq_true rfl, Nat.le_of_ble_eq_true rfl⟩, Nat.le_of_ble_eq_true rfl⟩) dX10_robot_31 rfl (fun v_31 S_31 hp_31 => ?_)
        obtain ⟨rfl, rfl⟩ := hp_31
        refine j_if_eq (tgt := 44) (q := 37) hO dX10_robot_34 rfl (by decide) (fun c34 => ?_) (fun c34 => ?_)
        · refine j_iconst (v := (-1)) (q := 45) hO dX10_robot_44 rfl (by decide) ?_
          exact j_iret hM dX10_robot_45 (Nat.le_of_ble_eq_true rfl) (Nat.le_of_ble_eq_true rfl) ⟨by unfold robotA kRob; rw [decide_eq_false (fun z => z.2.2.2.1 c34)]; rfl, by unfold robotF kRob; rw [decide_eq_false (fun z => z.2.2.2.1 c34)]; rfl⟩
        · refine j_aload_n (q := 38) hO dX10_robot_37 rfl rfl ?_
          refine j_callV (x := 10) (q := 41) hO (c_10_isOpen (lx X) _ hm.1) M_10_isOpen mw_645 CK_10 rfl hm.1 rfl rfl rfl (by unfold roomy; rw [hM.R]; exact ⟨⟨Nat.le_of_ble_eq_true rfl, Nat.le_of_ble_eq_true rfl⟩, ⟨Nat.le_of_ble_eq_true rfl, Nat.le_of_ble_eq_true rfl⟩, Nat.le_of_ble_eq_true rfl⟩) dX10_robot_38 rfl (fun v_38 S_38 hp_38 => ?_)
          obtain ⟨rfl, rfl⟩ := hp_38
          refine j_if_ne (tgt := 46) (q := 44) hO dX10_robot_41 rfl (by decide) (fun c41 => ?_) (fun c41 => ?_)
          · have hlt : nx < 4 := by rcases Nat.lt_or_ge nx 4 with q | q; exact q; exact absurd (by rw [hnx, show nx = 4 by omega]; rfl) c5
            refine j_aload_n (q := 47) hO dX10_robot_46 rfl rfl ?_
            refine m_getA (j := 17) (x := 32) (q := 50) hO hm dX10_robot_47 rfl mw_515 (by decide) rfl rfl ?_
            refine j_aload_n (q := 51) hO dX10_robot_50 rfl rfl ?_
            refine m_getI (j := 16) (q := 54) hO hm dX10_robot_51 rfl mw_514 (by decide) rfl ?_
            refine j_iload_n (q := 55) hO dX10_robot_54 rfl rfl ?_
            refine m_iast (x := 32) (a := 13) (q := 56) hO hm MK_32 dX10_robot_55 rfl rfl (j := nx) hnx (by omega) ?_
            refine j_aload_n (q := 57) hO dX10_robot_56 rfl rfl ?_
            refine m_getA (j := 18) (x := 33) (q := 60) hO hm dX10_robot_57 rfl mw_516 (by decide) rfl rfl ?_
            refine j_aload_n (q := 61) hO dX10_robot_60 rfl rfl ?_
            refine m_getI (j := 16) (q := 64) hO hm dX10_robot_61 rfl mw_514 (by decide) rfl ?_
            refine j_dload_n (q := 65) hO dX10_robot_64 rfl rfl ?_
            refine m_dast (x := 33) (a := 14) (q := 66) hO hm MK_33 dX10_robot_65 rfl rfl (j := nx) hnx (by omega) ?_
            refine j_aload_n (q := 67) hO dX10_robot_66 rfl rfl ?_
            refine m_getA (j := 19) (x := 34) (q := 70) hO hm dX10_robot_67 rfl mw_517 (by decide) rfl rfl ?_
            refine j_aload_n (q := 71) hO dX10_robot_70 rfl rfl ?_
            refine m_getI (j := 16) (q := 74) hO hm dX10_robot_71 rfl mw_514 (by decide) rfl ?_
            refine j_dload (q := 76) hO dX10_robot_74 rfl rfl ?_
            refine m_dast (x := 34) (a := 15) (q := 77) hO hm MK_34 dX10_robot_76 rfl rfl (j := nx) hnx (by omega) ?_
            refine j_aload_n (q := 78) hO dX10_robot_77 rfl rfl ?_
            refine j_dup (q := 79) hO dX10_robot_78 rfl rfl ?_
            refine m_getI (j := 16) (q := 82) hO hm dX10_robot_79 rfl mw_514 (by decide) rfl ?_
            refine j_iconst (v := 1) (q := 83) hO dX10_robot_82 rfl (by decide) ?_
            refine j_iadd (q := 84) hO dX10_robot_83 rfl ?_
            refine m_putI (j := 16) (q := 87) hO hm dX10_robot_84 rfl mw_514 (by decide) rfl rfl (by decide +kernel) ?_
            refine j_aload_n (q := 88) hO dX10_robot_87 rfl rfl ?_
            refine m_getI (j := 16) (q := 91) hO hm dX10_robot_88 rfl mw_514 (by decide) rfl ?_
            refine j_iconst (v := 1) (q := 92) hO dX10_robot_91 rfl (by decide) ?_
            refine j_isub (q := 93) hO dX10_robot_92 rfl ?_
            exact j_iret hM dX10_robot_93 (Nat.le_of_ble_eq_true rfl) (Nat.le_of_ble_eq_true rfl) ⟨by unfold robotA kRob; rw [decide_eq_true ⟨c5, c13, c24, c34, op1 c41⟩]; show some (Value.int (aI α 0 16 + 1 - 1)) = some (Value.int (aI α 0 16)); rw [hnx, nI_m1], by unfold robotF kRob; rw [decide_eq_true ⟨c5, c13, c24, c34, op1 c41⟩, show nn (aI α 0 16) = nx from by rw [hnx]; exact nn_nI (by omega)]; rfl⟩
          · refine j_iconst (v := (-1)) (q := 45) hO dX10_robot_44 rfl (by decide) ?_
            exact j_iret hM dX10_robot_45 (Nat.le_of_ble_eq_true rfl) (Nat.le_of_ble_eq_true rfl) ⟨by unfold robotA kRob; rw [decide_eq_false (fun z => op0 c41 z.2.2.2.2)]; rfl, by unfold robotF kRob; rw [decide_eq_false (fun z => op0 c41 z.2.2.2.2)]; rfl⟩
set_option maxHeartbeats 4000000 in
set_option maxRecDepth 100000 in
theorem c_10_feed (l : Launch) (S : St) (α : Al) (np : Nat) (b0 t kd : Int32) (size : UInt64) (hm : MSh S) (hnp : aI α 0 26 = nI np) (hn60 : np ≤ 60) : Ct l yX10_feed cX10_feed 6 (some .boolean) (rm 1 0 0 25) [.ref (sA S 10 0), .int b0, .int t, .int kd, .double size] (wr S α) (fun r S' => r = some (.int (boA (kFeed α b0 t kd size))) ∧ S' = wr S (feedF α b0 t kd size)) := by
  refine Ct.of (by decide) (Nat.le_of_ble_eq_true rfl) (fun X hM => ?_)
  have hO := hM.1
  obtain rfl := hM.l
  show Jg X 0 0 (wr S α) 0 [(0, .ref (sA S 10 0)), (1, .int b0), (2, .int t), (3, .int kd), (4, .double size)] []
  refine j_aload_n (q := 1) hO dX10_feed_0 rfl rfl ?_
  refine m_getI (j := 26) (q := 4) hO hm dX10_feed_1 rfl mw_524 (by decide) rfl ?_
  refine j_bipush (v := 60) (q := 6) hO dX10_feed_4 rfl (by decide) ?_
  refine j_icmp_eq (tgt := 53) (q := 9) hO dX10_feed_6 rfl (by decide) (fun c6 => ?_) (fun c6 => ?_)
  · refine j_iconst (v := 0) (q := 54) hO dX10_feed_53 rfl (by decide) ?_
    exact j_zret hM dX10_feed_54 (Nat.le_of_ble_eq_true rfl) (Nat.le_of_ble_eq_true rfl) (by decide) ⟨by unfold boA kFeed; rw [decide_eq_false (fun z => z.1 c6)]; rfl, by unfold feedF kFeed; rw [decide_eq_false (fun z => z.1 c6)]; rfl⟩
  · refine j_aload_n (q := 10) hO dX10_feed_9 rfl rfl ?_
    refine j_iload_n (q := 11) hO dX10_feed_10 rfl rfl ?_
    refine j_callV (x := 10) (q := 14) hO (c_10_isBelt (lx X) _ _ hm.1) M_10_isBelt mw_653 CK_10 rfl hm.1 rfl rfl rfl (by unfold roomy; rw [hM.R]; exact ⟨⟨Nat.le_of_ble_eq_true rfl, Nat.le_of_ble_eq_true rfl⟩, ⟨Nat.le_of_ble_eq_true rfl, Nat.le_of_ble_eq_true rfl⟩, Nat.le_of_ble_eq_true rfl⟩) dX10_feed_11 rfl (fun v_11 S_11 hp_11 => ?_)
    obtain ⟨rfl, rfl⟩ := hp_11
    refine j_if_eq (tgt := 53) (q := 17) hO dX10_feed_14 rfl (by decide) (fun c14 => ?_) (fun c14 => ?_)
    · refine j_iconst (v := 0) (q := 54) hO dX10_feed_53 rfl (by decide) ?_
      exact j_zret hM dX10_feed_54 (Nat.le_of_ble_eq_true rfl) (Nat.le_of_ble_eq_true rfl) (by decide) ⟨by unfold boA kFeed; rw [decide_eq_false (fun z => z.2.1 c14)]; rfl, by unfold feedF kFeed; rw [decide_eq_false (fun z => z.2.1 c14)]; rfl⟩
    · refine j_iload_n (q := 18) hO dX10_feed_17 rfl rfl ?_
      refine j_aload_n (q := 19) hO dX10_feed_18 rfl rfl ?_
      refine m_getI (j := 35) (q := 22) hO hm dX10_feed_19 rfl mw_533 (by decide) rfl ?_
      refine j_icmp_le (tgt := 53) (q := 25) hO dX10_feed_22 rfl (by decide) (fun c22 => ?_) (fun c22 => ?_)
      · refine j_iconst (v := 0) (q := 54) hO dX10_feed_53 rfl (by decide) ?_
        exact j_zret hM dX10_feed_54 (Nat.le_of_ble_eq_true rfl) (Nat.le_of_ble_eq_true rfl) (by decide) ⟨by unfold boA kFeed; rw [decide_eq_false (fun z => z.2.2.1 c22)]; rfl, by unfold feedF kFeed; rw [decide_eq_false (fun z => z.2.2.1 c22)]; rfl⟩
      · refine j_iload_n (q := 26) hO dX10_feed_25 rfl rfl ?_
        refine j_sipush (v := 10000) (q := 29) hO dX10_feed_26 rfl (by decide) ?_
        refine j_icmp_gt (tgt := 53) (q := 32) hO dX10_feed_29 rfl (by decide) (fun c29 => ?_) (fun c29 => ?_)
        · refine j_iconst (v := 0) (q := 54) hO dX10_feed_53 rfl (by decide) ?_
          exact j_zret hM dX10_feed_54 (Nat.le_of_ble_eq_true rfl) (Nat.le_of_ble_eq_true rfl) (by decide) ⟨by unfold boA kFeed; rw [decide_eq_false (fun z => z.2.2.2.1 c29)]; rfl, by unfold feedF kFeed; rw [decide_eq_false (fun z => z.2.2.2.1 c29)]; rfl⟩
        · refine j_iload_n (q := 33) hO dX10_feed_32 rfl rfl ?_
          refine j_if_lt (tgt := 53) (q := 36) hO dX10_feed_33 rfl (by decide) (fun c33 => ?_) (fun c33 => ?_)
          · refine j_iconst (v := 0) (q := 54) hO dX10_feed_53 rfl (by decide) ?_
            exact j_zret hM dX10_feed_54 (Nat.le_of_ble_eq_true rfl) (Nat.le_of_ble_eq_true rfl) (by decide) ⟨by unfold boA kFeed; rw [decide_eq_false (fun z => z.2.2.2.2.1 c33)]; rfl, by unfold feedF kFeed; rw [decide_eq_false (fun z => z.2.2.2.2.1 c33)]; rfl⟩
          · refine j_iload_n (q := 37) hO dX10_feed_36 rfl rfl ?_
            refine j_iconst (v := 5) (q := 38) hO dX10_feed_37 rfl (by decide) ?_
            refine j_icmp_ge (tgt := 53) (q := 41) hO dX10_feed_38 rfl (by decide) (fun c38 => ?_) (fun c38 => ?_)
            · refine j_iconst (v := 0) (q := 54) hO dX10_feed_53 rfl (by decide) ?_
              exact j_zret hM dX10_feed_54 (Nat.le_of_ble_eq_true rfl) (Nat.le_of_ble_eq_true rfl) (by decide) ⟨by unfold boA kFeed; rw [decide_eq_false (fun z => z.2.2.2.2.2.1 c38)]; rfl, by unfold feedF kFeed; rw [decide_eq_false (fun z => z.2.2.2.2.2.1 c38)]; rfl⟩
            · refine j_dload (q := 43) hO dX10_feed_41 rfl rfl ?_
              refine j_dconst0 (q := 44) hO dX10_feed_43 rfl ?_
              refine j_ldc2d (q := 47) hO dX10_feed_44 rfl mw_676 ?_
              refine j_callS (q := 50) hO (c_10_isIn (lx X) _ _ _ _) M_10_isIn mw_642 rfl rfl (by unfold roomy; rw [hM.R]; exact ⟨⟨Nat.le_of_ble_eq_true rfl, Nat.le_of_ble_eq_true rfl⟩, ⟨Nat.le_of_ble_eq_true rfl, Nat.le_of_ble_eq_true rfl⟩, Nat.le_of_ble_eq_true rfl⟩) dX10_feed_47 rfl (fun v_47 S_47 hp_47 => ?_)
              obtain ⟨rfl, rfl⟩ := hp_47
              refine j_if_ne (tgt := 55) (q := 53) hO dX10_feed_50 rfl (by decide) (fun c50 => ?_) (fun c50 => ?_)
              · have hlt : np < 60 := by rcases Nat.lt_or_ge np 60 with q | q; exact q; exact absurd (by rw [hnp, show np = 60 by omega]; rfl) c6
                refine j_aload_n (q := 56) hO dX10_feed_55 rfl rfl ?_
                refine m_getA (j := 27) (x := 40) (q := 59) hO hm dX10_feed_56 rfl mw_525 (by decide) rfl rfl ?_
                refine j_aload_n (q := 60) hO dX10_feed_59 rfl rfl ?_
                refine m_getI (j := 26) (q := 63) hO hm dX10_feed_60 rfl mw_524 (by decide) rfl ?_
                refine j_iload_n (q := 64) hO dX10_feed_63 rfl rfl ?_
                refine m_iast (x := 40) (a := 21) (q := 65) hO hm MK_40 dX10_feed_64 rfl rfl (j := np) hnp (by omega) ?_
                refine j_aload_n (q := 66) hO dX10_feed_65 rfl rfl ?_
                refine m_getA (j := 28) (x := 41) (q := 69) hO hm dX10_feed_66 rfl mw_526 (by decide) rfl rfl ?_
                refine j_aload_n (q := 70) hO dX10_feed_69 rfl rfl ?_
                refine m_getI (j := 26) (q := 73) hO hm dX10_feed_70 rfl mw_524 (by decide) rfl ?_
                refine j_dload (q := 75) hO dX10_feed_73 rfl rfl ?_
                refine m_dast (x := 41) (a := 22) (q := 76) hO hm MK_41 dX10_feed_75 rfl rfl (j := np) hnp (by omega) ?_
                refine j_aload_n (q := 77) hO dX10_feed_76 rfl rfl ?_
                refine m_getA (j := 29) (x := 42) (q := 80) hO hm dX10_feed_77 rfl mw_527 (by decide) rfl rfl ?_
                refine j_aload_n (q := 81) hO dX10_feed_80 rfl rfl ?_
                refine m_getI (j := 26) (q := 84) hO hm dX10_feed_81 rfl mw_524 (by decide) rfl ?_
                refine j_iload_n (q := 85) hO dX10_feed_84 rfl rfl ?_
                refine m_iast (x := 42) (a := 23) (q := 86) hO hm MK_42 dX10_feed_85 rfl rfl (j := np) hnp (by omega) ?_
                refine j_aload_n (q := 87) hO dX10_feed_86 rfl rfl ?_
                refine m_getA (j := 30) (x := 43) (q := 90) hO hm dX10_feed_87 rfl mw_528 (by decide) rfl rfl ?_
                refine j_aload_n (q := 91) hO dX10_feed_90 rfl rfl ?_
                refine m_getI (j := 26) (q := 94) hO hm dX10_feed_91 rfl mw_524 (by decide) rfl ?_
                refine j_iload_n (q := 95) hO dX10_feed_94 rfl rfl ?_
                refine m_iast (x := 43) (a := 24) (q := 96) hO hm MK_43 dX10_feed_95 rfl rfl (j := np) hnp (by omega) ?_
                refine j_aload_n (q := 97) hO dX10_feed_96 rfl rfl ?_
                refine m_getA (j := 31) (x := 44) (q := 100) hO hm dX10_feed_97 rfl mw_529 (by decide) rfl rfl ?_
                refine j_aload_n (q := 101) hO dX10_feed_100 rfl rfl ?_
                refine m_getI (j := 26) (q := 104) hO hm dX10_feed_101 rfl mw_524 (by decide) rfl ?_
                refine j_iconst (v := 0) (q := 105) hO dX10_feed_104 rfl (by decide) ?_
                refine m_iast (x := 44) (a := 25) (q := 106) hO hm MK_44 dX10_feed_105 rfl rfl (j := np) hnp (by omega) ?_
                refine j_aload_n (q := 107) hO dX10_feed_106 rfl rfl ?_
                refine j_dup (q := 108) hO dX10_feed_107 rfl rfl ?_
                refine m_getI (j := 26) (q := 111) hO hm dX10_feed_108 rfl mw_524 (by decide) rfl ?_
                refine j_iconst (v := 1) (q := 112) hO dX10_feed_111 rfl (by decide) ?_
                refine j_iadd (q := 113) hO dX10_feed_112 rfl ?_
                refine m_putI (j := 26) (q := 116) hO hm dX10_feed_113 rfl mw_524 (by decide) rfl rfl (by decide +kernel) ?_
                refine j_iconst (v := 1) (q := 117) hO dX10_feed_116 rfl (by decide) ?_
                exact j_zret hM dX10_feed_117 (Nat.le_of_ble_eq_true rfl) (Nat.le_of_ble_eq_true rfl) (by decide) ⟨by unfold boA kFeed; rw [decide_eq_true ⟨c6, c14, c22, c29, c33, c38, c50⟩]; rfl, by unfold feedF kFeed; rw [decide_eq_true ⟨c6, c14, c22, c29, c33, c38, c50⟩, show nn (aI α 0 26) = np from by rw [hnp]; exact nn_nI (by omega)]; rfl⟩
              · refine j_iconst (v := 0) (q := 54) hO dX10_feed_53 rfl (by decide) ?_
                exact j_zret hM dX10_feed_54 (Nat.le_of_ble_eq_true rfl) (Nat.le_of_ble_eq_true rfl) (by decide) ⟨by unfold boA kFeed; rw [decide_eq_false (fun z => z.2.2.2.2.2.2 c50)]; rfl, by unfold feedF kFeed; rw [decide_eq_false (fun z => z.2.2.2.2.2.2 c50)]; rfl⟩
