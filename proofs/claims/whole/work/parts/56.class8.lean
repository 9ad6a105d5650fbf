set_option maxHeartbeats 4000000 in
set_option maxRecDepth 100000 in
theorem c_9_belt (l : Launch) (S : St) (α : Al) (nb nh nu nr nk np t : Nat) (x : Int32) (w : UInt64) (z : CZ S α nb nh nu nr nk np t) : Ct l yX9_belt cX9_belt 5 (some .int) (rm 3 7 35 65) [.ref (sA S 9 0), .int x, .double w] S (fun r S' => r = some (.int (beltA α x w)) ∧ Xw S S' ∧ Cq S' (beltF α x w)) := by
  refine Ct.of (by decide) (Nat.le_of_ble_eq_true rfl) (fun X hM => ?_)
  have hO := hM.1
  obtain rfl := hM.l
  show Jg X 0 0 S 0 [(0, .ref (sA S 9 0)), (1, .int x), (2, .double w)] []
  have c := z.1
  have np60 := c.2.2.1.2.2.2.2.2.1.2
  have n6 := c.2.2.1.1.2
  have n8 := c.2.2.1.2.1.2
  have nu4 := c.2.2.1.2.2.1.2
  have nr4 := c.2.2.1.2.2.2.1.2
  have nk4 := c.2.2.1.2.2.2.2.1.2
  obtain ⟨⟨k0, k2, k1, k5, k7, k6, k4, k17⟩, ⟨q1, q2, q3, q4, q5, q6, q7⟩, -⟩ := id c.2.1
  obtain ⟨f1, f2, f3, f4, f5, f6, -⟩ := id c.2.2.1
  have shN := c.1.2.2.2
  refine j_aload_n (q := 1) hO dX9_belt_0 rfl rfl ?_
  refine j_callV (x := 9) (q := 4) hO (c_9_isClosed (lx X) _ c.1.c9) M_9_isClosed mw_128 CK_9 rfl c.1.c9 rfl rfl rfl (by unfold roomy; rw [hM.R]; exact ⟨⟨Nat.le_of_ble_eq_true rfl, Nat.le_of_ble_eq_true rfl⟩, ⟨Nat.le_of_ble_eq_true rfl, Nat.le_of_ble_eq_true rfl⟩, Nat.le_of_ble_eq_true rfl⟩) dX9_belt_1 rfl (fun v_1 S_1 hp_1 => ?_)
  obtain ⟨rfl, eS⟩ := hp_1
  refine Jg.same eS ?_
  clear eS
  refine j_if_ne (tgt := 16) (q := 7) hO dX9_belt_4 rfl (by decide) (fun c4 => ?_) (fun c4 => ?_)
  · refine j_iconst (v := (-1)) (q := 17) hO dX9_belt_16 rfl (by decide) ?_
    exact j_iret hM dX9_belt_17 (Nat.le_of_ble_eq_true rfl) (Nat.le_of_ble_eq_true rfl) ⟨by unfold beltA; rw [show kBelt α x w = false from decide_eq_false (fun q => z.cl (of1 c4) q.2.2.2.2)]; rfl, Xw.rf, by unfold beltF; rw [show kBelt α x w = false from decide_eq_false (fun q => z.cl (of1 c4) q.2.2.2.2)]; exact ⟨nb, nh, nu, nr, nk, np, t, z⟩⟩
  · refine j_aload_n (q := 8) hO dX9_belt_7 rfl rfl ?_
    refine j_getI (x := 9) (j := 10) (q := 11) hO CK_9 dX9_belt_8 rfl mw_82 rfl c.1.c9 rfl rfl (by decide) (Or.inl rfl) ?_
    refine j_bipush (v := 6) (q := 13) hO dX9_belt_11 rfl (by decide) ?_
    refine j_icmp_lt (tgt := 18) (q := 16) hO dX9_belt_13 rfl (by decide) (fun c13 => ?_) (fun c13 => ?_)
    · refine j_iload_n (q := 19) hO dX9_belt_18 rfl rfl ?_
      refine j_i2d (q := 20) hO dX9_belt_19 rfl ?_
      refine j_dconst1 (q := 21) hO dX9_belt_20 rfl ?_
      refine j_ldc2d (q := 24) hO dX9_belt_21 rfl mw_132 ?_
      refine j_callS (q := 27) hO (c_9_within (lx X) _ _ _ _) M_9_within mw_133 rfl rfl (by unfold roomy; rw [hM.R]; exact ⟨⟨Nat.le_of_ble_eq_true rfl, Nat.le_of_ble_eq_true rfl⟩, ⟨Nat.le_of_ble_eq_true rfl, Nat.le_of_ble_eq_true rfl⟩, Nat.le_of_ble_eq_true rfl⟩) dX9_belt_24 rfl (fun v_24 S_24 hp_24 => ?_)
      obtain ⟨rfl, eS⟩ := hp_24
      refine Jg.same eS ?_
      clear eS
      refine j_if_eq (tgt := 43) (q := 30) hO dX9_belt_27 rfl (by decide) (fun c27 => ?_) (fun c27 => ?_)
      · refine j_iconst (v := (-1)) (q := 44) hO dX9_belt_43 rfl (by decide) ?_
        exact j_iret hM dX9_belt_44 (Nat.le_of_ble_eq_true rfl) (Nat.le_of_ble_eq_true rfl) ⟨by unfold beltA; rw [show kBelt α x w = false from decide_eq_false (fun q => (wi_i0 c27).elim q.2.1 q.2.2.1)]; rfl, Xw.rf, by unfold beltF; rw [show kBelt α x w = false from decide_eq_false (fun q => (wi_i0 c27).elim q.2.1 q.2.2.1)]; exact ⟨nb, nh, nu, nr, nk, np, t, z⟩⟩
      · refine j_dload_n (q := 31) hO dX9_belt_30 rfl rfl ?_
        refine j_ldc2d (q := 34) hO dX9_belt_31 rfl mw_136 ?_
        refine j_ldc2d (q := 37) hO dX9_belt_34 rfl mw_132 ?_
        refine j_callS (q := 40) hO (c_9_within (lx X) _ _ _ _) M_9_within mw_133 rfl rfl (by unfold roomy; rw [hM.R]; exact ⟨⟨Nat.le_of_ble_eq_true rfl, Nat.le_of_ble_eq_true rfl⟩, ⟨Nat.le_of_ble_eq_true rfl, Nat.le_of_ble_eq_true rfl⟩, Nat.le_of_ble_eq_true rfl⟩) dX9_belt_37 rfl (fun v_37 S_37 hp_37 => ?_)
        obtain ⟨rfl, eS⟩ := hp_37
        refine Jg.same eS ?_
        clear eS
        refine j_if_ne (tgt := 45) (q := 43) hO dX9_belt_40 rfl (by decide) (fun c40 => ?_) (fun c40 => ?_)
        · have h26 := z.op (of0 c4)
          obtain rfl := z.np0 h26
          have hlt := lt_lim (q2.trans f1.1) (by omega) (by decide) c13
          obtain ⟨tt, htt, rfl⟩ := tt_in (wi_i1 c27).1 (wi_i1 c27).2
          have hcb : sI S 9 0 10 = nI nb := q2.trans f1.1
          have kt : kBelt α (nI tt) w = true := decide_eq_true ⟨ne_lim f1.1 (by omega) (by decide) hlt, (wi_i1 c27).1, (wi_i1 c27).2, c40, h26⟩
          have enb : nn (aI α 0 1) = nb := by rw [f1.1]; exact nn_nI (by omega)
          refine j_aload_n (q := 46) hO dX9_belt_45 rfl rfl ?_
          refine j_getI (x := 9) (j := 10) (q := 49) hO CK_9 dX9_belt_46 rfl mw_82 rfl c.1.c9 rfl rfl (by decide) (Or.inl rfl) ?_
          rw [hcb]
          refine j_istore (q := 51) hO dX9_belt_49 rfl (by rw [hM.nL]; decide) rfl ?_
          refine j_aload_n (q := 52) hO dX9_belt_51 rfl rfl ?_
          refine j_getRs (x := 9) (j := 1) (q := 55) hO CK_9 dX9_belt_52 rfl mw_73 rfl c.1.c9 rfl rfl (by decide) rfl c.1.r1 ?_
          refine j_iload (q := 57) hO dX9_belt_55 rfl rfl ?_
          refine j_newh (h := nb) (x := 0) (q := 60) hO CK_0 dX9_belt_57 rfl mw_21 mw_137 mw_5 rfl rfl dv_0 (by rw [hM.R]; exact ⟨Nat.le_of_ble_eq_true rfl, Nat.le_of_ble_eq_true rfl⟩) k0 (fun a57 => ?_)
          refine j_dup (q := 61) hO dX9_belt_60 rfl rfl ?_
          refine j_iload (q := 63) hO dX9_belt_61 rfl rfl ?_
          refine j_iload_n (q := 64) hO dX9_belt_63 rfl rfl ?_
          refine j_dload_n (q := 65) hO dX9_belt_64 rfl rfl ?_
          refine j_callI (q := 68) hO (c_0_init (lx X) _ nb _ _ _ (by rw [sC_nOs]; omega) (by rw [sC_nOo (by decide)]; exact k17) (by rw [sC_nOo (by decide)]; exact k4)) M_0_init mw_138 rfl rfl (by unfold roomy; rw [hM.R]; exact ⟨⟨Nat.le_of_ble_eq_true rfl, Nat.le_of_ble_eq_true rfl⟩, ⟨Nat.le_of_ble_eq_true rfl, Nat.le_of_ble_eq_true rfl⟩, Nat.le_of_ble_eq_true rfl⟩) dX9_belt_65 rfl (fun v_65 S_65 hp_65 => ?_)
          obtain ⟨rfl, a', a0, a1, a2, a3, a4, hT⟩ := hp_65
          have tA9 : sA S_65 9 0 = sA S 9 0 := by rw [hT]; simp (disch := omega) only [btS, beS, ou_A, ou_I, ou_C, ou_Co, ou_N, pI_A, pD_A, pR_A, nO_Ao, pI_s, pI_I, pR_s, pR_R, pD_s, pD_D, pI_C, pD_C, pR_C, pI_N, pD_N, pR_N, pD_I, pR_I, pI_J, pD_J, pR_J, pI_D, pR_D, pI_R, pD_R, nO_Io, nO_Jo, nO_Do, nO_Ro, nO_No, nO_I, nO_D, nO_R, nO_N, sC_nOs, sC_nOo, qI_s, qI_I, qI_J, qI_D, qD_s, qD_D, qD_J, qD_Ix]
          have tAa : sA S_65 11 0 = sA S (kn_r 9 1) 0 := by rw [show kn_r 9 1 = 11 from rfl, hT]; simp (disch := omega) only [btS, beS, ou_A, ou_I, ou_C, ou_Co, ou_N, pI_A, pD_A, pR_A, nO_Ao, pI_s, pI_I, pR_s, pR_R, pD_s, pD_D, pI_C, pD_C, pR_C, pI_N, pD_N, pR_N, pD_I, pR_I, pI_J, pD_J, pR_J, pI_D, pR_D, pI_R, pD_R, nO_Io, nO_Jo, nO_Do, nO_Ro, nO_No, nO_I, nO_D, nO_R, nO_N, sC_nOs, sC_nOo, qI_s, qI_I, qI_J, qI_D, qD_s, qD_D, qD_J, qD_Ix]
          have tAn : sA S_65 0 nb = sA (nO S 0 a57 0) 0 nb := by rw [hT]; simp (disch := omega) only [btS, beS, ou_A, ou_I, ou_C, ou_Co, ou_N, pI_A, pD_A, pR_A, nO_Ao, pI_s, pI_I, pR_s, pR_R, pD_s, pD_D, pI_C, pD_C, pR_C, pI_N, pD_N, pR_N, pD_I, pR_I, pI_J, pD_J, pR_J, pI_D, pR_D, pI_R, pD_R, nO_Io, nO_Jo, nO_Do, nO_Ro, nO_No, nO_I, nO_D, nO_R, nO_N, sC_nOs, sC_nOo, qI_s, qI_I, qI_J, qI_D, qD_s, qD_D, qD_J, qD_Ix]
          have tC9 : 0 < sC S_65 9 := by rw [hT]; simp (disch := omega) only [btS, beS, ou_A, ou_I, ou_C, ou_Co, ou_N, pI_A, pD_A, pR_A, nO_Ao, pI_s, pI_I, pR_s, pR_R, pD_s, pD_D, pI_C, pD_C, pR_C, pI_N, pD_N, pR_N, pD_I, pR_I, pI_J, pD_J, pR_J, pI_D, pR_D, pI_R, pD_R, nO_Io, nO_Jo, nO_Do, nO_Ro, nO_No, nO_I, nO_D, nO_R, nO_N, sC_nOs, sC_nOo, qI_s, qI_I, qI_J, qI_D, qD_s, qD_D, qD_J, qD_Ix]; exact c.1.c9
          have tCa : 0 < sC S_65 11 := by rw [hT]; simp (disch := omega) only [btS, beS, ou_A, ou_I, ou_C, ou_Co, ou_N, pI_A, pD_A, pR_A, nO_Ao, pI_s, pI_I, pR_s, pR_R, pD_s, pD_D, pI_C, pD_C, pR_C, pI_N, pD_N, pR_N, pD_I, pR_I, pI_J, pD_J, pR_J, pI_D, pR_D, pI_R, pD_R, nO_Io, nO_Jo, nO_Do, nO_Ro, nO_No, nO_I, nO_D, nO_R, nO_N, sC_nOs, sC_nOo, qI_s, qI_I, qI_J, qI_D, qD_s, qD_D, qD_J, qD_Ix]; exact c.1.c11
          have tCn : nb < sC S_65 0 := by rw [hT]; simp (disch := omega) only [btS, beS, ou_A, ou_I, ou_C, ou_Co, ou_N, pI_A, pD_A, pR_A, nO_Ao, pI_s, pI_I, pR_s, pR_R, pD_s, pD_D, pI_C, pD_C, pR_C, pI_N, pD_N, pR_N, pD_I, pR_I, pI_J, pD_J, pR_J, pI_D, pR_D, pI_R, pD_R, nO_Io, nO_Jo, nO_Do, nO_Ro, nO_No, nO_I, nO_D, nO_R, nO_N, sC_nOs, sC_nOo, qI_s, qI_I, qI_J, qI_D, qD_s, qD_D, qD_J, qD_Ix]; omega
          have tN : sN S_65 11 0 = 6 := by rw [hT]; simp (disch := omega) only [btS, beS, ou_A, ou_I, ou_C, ou_Co, ou_N, pI_A, pD_A, pR_A, nO_Ao, pI_s, pI_I, pR_s, pR_R, pD_s, pD_D, pI_C, pD_C, pR_C, pI_N, pD_N, pR_N, pD_I, pR_I, pI_J, pD_J, pR_J, pI_D, pR_D, pI_R, pD_R, nO_Io, nO_Jo, nO_Do, nO_Ro, nO_No, nO_I, nO_D, nO_R, nO_N, sC_nOs, sC_nOo, qI_s, qI_I, qI_J, qI_D, qD_s, qD_D, qD_J, qD_Ix]; first | exact shN.1 | exact shN.2.1 | exact shN.2.2.1 | exact shN.2.2.2.1 | exact shN.2.2.2.2.1 | exact shN.2.2.2.2.2.1
          have tI : sI S_65 9 0 10 = sI S 9 0 10 := by rw [hT]; simp (disch := omega) only [btS, beS, ou_A, ou_I, ou_C, ou_Co, ou_N, pI_A, pD_A, pR_A, nO_Ao, pI_s, pI_I, pR_s, pR_R, pD_s, pD_D, pI_C, pD_C, pR_C, pI_N, pD_N, pR_N, pD_I, pR_I, pI_J, pD_J, pR_J, pI_D, pR_D, pI_R, pD_R, nO_Io, nO_Jo, nO_Do, nO_Ro, nO_No, nO_I, nO_D, nO_R, nO_N, sC_nOs, sC_nOo, qI_s, qI_I, qI_J, qI_D, qD_s, qD_D, qD_J, qD_Ix]
          rw [← tA9, ← tAa, ← tAn]
          refine j_aast (x := 11) (c0 := 4) (y := 0) (rw0 := (RX0, TX0, 10)) (q := 69) hO dX9_belt_68 rfl rfl tCa rfl rfl (fun _ => rfl) rfl (fun _ => rfl) rfl rfl (r := nb) rfl tCn (j := nb) rfl (by rw [tN]; omega) (by rw [tN]; decide) ?_
          refine j_aload_n (q := 70) hO dX9_belt_69 rfl rfl ?_
          refine j_dup (q := 71) hO dX9_belt_70 rfl rfl ?_
          refine j_getI (x := 9) (j := 10) (q := 74) hO CK_9 dX9_belt_71 rfl mw_82 rfl tC9 rfl rfl (by decide) (Or.inl rfl) ?_
          refine j_iconst (v := 1) (q := 75) hO dX9_belt_74 rfl (by decide) ?_
          refine j_iadd (q := 76) hO dX9_belt_75 rfl ?_
          refine j_putI (x := 9) (j := 10) (q := 79) hO CK_9 dX9_belt_76 rfl mw_82 rfl tC9 rfl rfl (by decide) rfl (by decide +kernel) rfl ?_
          refine j_iload (q := 81) hO dX9_belt_79 rfl rfl ?_
          exact j_iret hM dX9_belt_81 (Nat.le_of_ble_eq_true rfl) (Nat.le_of_ble_eq_true rfl) ⟨by unfold beltA; rw [kt, ← f1.1]; rfl, by rw [hT]; unfold btS ouS beS; exact (Xw.I (Xw.R (Xw.R (Xw.new (Xw.R (Xw.new (Xw.R (Xw.new (Xw.R (Xw.new (Xw.R (Xw.new (Xw.D (Xw.I (Xw.I (Xw.R (Xw.new (Xw.new Xw.rf (by decide) (by decide) (by decide) rfl) (by decide) (by decide) (by decide) rfl) (by decide)) rfl) rfl) rfl) (by decide) (by decide) (by decide) rfl) (by decide)) (by decide) (by decide) (by decide) rfl) (by decide)) (by decide) (by decide) (by decide) rfl) (by decide)) (by decide) (by decide) (by decide) rfl) (by decide)) (by decide) (by decide) (by decide) rfl) (by decide)) (by decide)) rfl), by unfold beltF; rw [kt, enb, hT]; exact ⟨nb + 1, nh, nu, nr, nk, 0, t, CZ.belt z hlt htt.1 htt.2 (len_nz c40) (by rw [pR_I, ← hT, tI, q2])⟩⟩
        · refine j_iconst (v := (-1)) (q := 44) hO dX9_belt_43 rfl (by decide) ?_
          exact j_iret hM dX9_belt_44 (Nat.le_of_ble_eq_true rfl) (Nat.le_of_ble_eq_true rfl) ⟨by unfold beltA; rw [show kBelt α x w = false from decide_eq_false (fun q => q.2.2.2.1 c40)]; rfl, Xw.rf, by unfold beltF; rw [show kBelt α x w = false from decide_eq_false (fun q => q.2.2.2.1 c40)]; exact ⟨nb, nh, nu, nr, nk, np, t, z⟩⟩
    · refine j_iconst (v := (-1)) (q := 17) hO dX9_belt_16 rfl (by decide) ?_
      exact j_iret hM dX9_belt_17 (Nat.le_of_ble_eq_true rfl) (Nat.le_of_ble_eq_true rfl) ⟨by unfold beltA; rw [show kBelt α x w = false from decide_eq_false (fun q => q.1 (eq_lim f1.1 (by omega) (by decide) (by rw [← q2]; exact c13)))]; rfl, Xw.rf, by unfold beltF; rw [show kBelt α x w = false from decide_eq_false (fun q => q.1 (eq_lim f1.1 (by omega) (by decide) (by rw [← q2]; exact c13)))]; exact ⟨nb, nh, nu, nr, nk, np, t, z⟩⟩
set_option maxHeartbeats 4000000 in
set_option maxRecDepth 100000 in
theorem c_9_bunker (l : Launch) (S : St) (α : Al) (nb nh nu nr nk np t : Nat) (w : UInt64) (z : CZ S α nb nh nu nr nk np t) : Ct l yX9_bunker cX9_bunker 4 (some .int) (rm 2 1 3 43) [.ref (sA S 9 0), .double w] S (fun r S' => r = some (.int (bunkA α w)) ∧ Xw S S' ∧ Cq S' (bunkF α w)) := by
  refine Ct.of (by decide) (Nat.le_of_ble_eq_true rfl) (fun X hM => ?_)
  have hO := hM.1
  obtain rfl := hM.l
  show Jg X 0 0 S 0 [(0, .ref (sA S 9 0)), (1, .double w)] []
  have c := z.1
  have np60 := c.2.2.1.2.2.2.2.2.1.2
  have n6 := c.2.2.1.1.2
  have n8 := c.2.2.1.2.1.2
  have nu4 := c.2.2.1.2.2.1.2
  have nr4 := c.2.2.1.2.2.2.1.2
  have nk4 := c.2.2.1.2.2.2.2.1.2
  obtain ⟨⟨k0, k2, k1, k5, k7, k6, k4, k17⟩, ⟨q1, q2, q3, q4, q5, q6, q7⟩, -⟩ := id c.2.1
  obtain ⟨f1, f2, f3, f4, f5, f6, -⟩ := id c.2.2.1
  have shN := c.1.2.2.2
  refine j_aload_n (q := 1) hO dX9_bunker_0 rfl rfl ?_
  refine j_callV (x := 9) (q := 4) hO (c_9_isClosed (lx X) _ c.1.c9) M_9_isClosed mw_128 CK_9 rfl c.1.c9 rfl rfl rfl (by unfold roomy; rw [hM.R]; exact ⟨⟨Nat.le_of_ble_eq_true rfl, Nat.le_of_ble_eq_true rfl⟩, ⟨Nat.le_of_ble_eq_true rfl, Nat.le_of_ble_eq_true rfl⟩, Nat.le_of_ble_eq_true rfl⟩) dX9_bunker_1 rfl (fun v_1 S_1 hp_1 => ?_)
  obtain ⟨rfl, eS⟩ := hp_1
  refine Jg.same eS ?_
  clear eS
  refine j_if_ne (tgt := 26) (q := 7) hO dX9_bunker_4 rfl (by decide) (fun c4 => ?_) (fun c4 => ?_)
  · refine j_iconst (v := (-1)) (q := 27) hO dX9_bunker_26 rfl (by decide) ?_
    exact j_iret hM dX9_bunker_27 (Nat.le_of_ble_eq_true rfl) (Nat.le_of_ble_eq_true rfl) ⟨by unfold bunkA; rw [show kBunk α w = false from decide_eq_false (fun q => z.cl (of1 c4) q.2.2)]; rfl, Xw.rf, by unfold bunkF; rw [show kBunk α w = false from decide_eq_false (fun q => z.cl (of1 c4) q.2.2)]; exact ⟨nb, nh, nu, nr, nk, np, t, z⟩⟩
  · refine j_aload_n (q := 8) hO dX9_bunker_7 rfl rfl ?_
    refine j_getI (x := 9) (j := 12) (q := 11) hO CK_9 dX9_bunker_8 rfl mw_84 rfl c.1.c9 rfl rfl (by decide) (Or.inl rfl) ?_
    refine j_iconst (v := 4) (q := 12) hO dX9_bunker_11 rfl (by decide) ?_
    refine j_icmp_ge (tgt := 26) (q := 15) hO dX9_bunker_12 rfl (by decide) (fun c12 => ?_) (fun c12 => ?_)
    · refine j_iconst (v := (-1)) (q := 27) hO dX9_bunker_26 rfl (by decide) ?_
      exact j_iret hM dX9_bunker_27 (Nat.le_of_ble_eq_true rfl) (Nat.le_of_ble_eq_true rfl) ⟨by unfold bunkA; rw [show kBunk α w = false from decide_eq_false (fun q => q.1 (eq_lim2 f3.1 (by omega) (by decide) (by rw [← q4]; exact c12)))]; rfl, Xw.rf, by unfold bunkF; rw [show kBunk α w = false from decide_eq_false (fun q => q.1 (eq_lim2 f3.1 (by omega) (by decide) (by rw [← q4]; exact c12)))]; exact ⟨nb, nh, nu, nr, nk, np, t, z⟩⟩
    · refine j_dload_n (q := 16) hO dX9_bunker_15 rfl rfl ?_
      refine j_dconst0 (q := 17) hO dX9_bunker_16 rfl ?_
      refine j_ldc2d (q := 20) hO dX9_bunker_17 rfl mw_235 ?_
      refine j_callS (q := 23) hO (c_9_within (lx X) _ _ _ _) M_9_within mw_133 rfl rfl (by unfold roomy; rw [hM.R]; exact ⟨⟨Nat.le_of_ble_eq_true rfl, Nat.le_of_ble_eq_true rfl⟩, ⟨Nat.le_of_ble_eq_true rfl, Nat.le_of_ble_eq_true rfl⟩, Nat.le_of_ble_eq_true rfl⟩) dX9_bunker_20 rfl (fun v_20 S_20 hp_20 => ?_)
      obtain ⟨rfl, eS⟩ := hp_20
      refine Jg.same eS ?_
      clear eS
      refine j_if_ne (tgt := 28) (q := 26) hO dX9_bunker_23 rfl (by decide) (fun c23 => ?_) (fun c23 => ?_)
      · have h26 := z.op (of0 c4)
        obtain rfl := z.np0 h26
        have hlt := lt_lim2 (q4.trans f3.1) (by omega) (by decide) c12
        have hcb : sI S 9 0 12 = nI nu := q4.trans f3.1
        have kt : kBunk α w = true := decide_eq_true ⟨ne_lim f3.1 (by omega) (by decide) hlt, c23, h26⟩
        have enb : nn (aI α 0 13) = nu := by rw [f3.1]; exact nn_nI (by omega)
        refine j_aload_n (q := 29) hO dX9_bunker_28 rfl rfl ?_
        refine j_getI (x := 9) (j := 12) (q := 32) hO CK_9 dX9_bunker_29 rfl mw_84 rfl c.1.c9 rfl rfl (by decide) (Or.inl rfl) ?_
        rw [hcb]
        refine j_istore_n (q := 33) hO dX9_bunker_32 rfl (by rw [hM.nL]; decide) rfl ?_
        refine j_aload_n (q := 34) hO dX9_bunker_33 rfl rfl ?_
        refine j_getRs (x := 9) (j := 3) (q := 37) hO CK_9 dX9_bunker_34 rfl mw_75 rfl c.1.c9 rfl rfl (by decide) rfl c.1.r3 ?_
        refine j_iload_n (q := 38) hO dX9_bunker_37 rfl rfl ?_
        refine j_newh (h := nu) (x := 1) (q := 41) hO CK_1 dX9_bunker_38 rfl mw_25 mw_236 mw_8 rfl rfl dv_1 (by rw [hM.R]; exact ⟨Nat.le_of_ble_eq_true rfl, Nat.le_of_ble_eq_true rfl⟩) k1 (fun a38 => ?_)
        refine j_dup (q := 42) hO dX9_bunker_41 rfl rfl ?_
        refine j_iload_n (q := 43) hO dX9_bunker_42 rfl rfl ?_
        refine j_dload_n (q := 44) hO dX9_bunker_43 rfl rfl ?_
        refine j_callI (q := 47) hO (c_1_init (lx X) _ nu _ _ (by rw [sC_nOs]; omega)) M_1_init mw_237 rfl rfl (by unfold roomy; rw [hM.R]; exact ⟨⟨Nat.le_of_ble_eq_true rfl, Nat.le_of_ble_eq_true rfl⟩, ⟨Nat.le_of_ble_eq_true rfl, Nat.le_of_ble_eq_true rfl⟩, Nat.le_of_ble_eq_true rfl⟩) dX9_bunker_44 rfl (fun v_44 S_44 hp_44 => ?_)
        obtain ⟨rfl, hT⟩ := hp_44
        have tA9 : sA S_44 9 0 = sA S 9 0 := by rw [hT]; simp (disch := omega) only [btS, beS, ou_A, ou_I, ou_C, ou_Co, ou_N, pI_A, pD_A, pR_A, nO_Ao, pI_s, pI_I, pR_s, pR_R, pD_s, pD_D, pI_C, pD_C, pR_C, pI_N, pD_N, pR_N, pD_I, pR_I, pI_J, pD_J, pR_J, pI_D, pR_D, pI_R, pD_R, nO_Io, nO_Jo, nO_Do, nO_Ro, nO_No, nO_I, nO_D, nO_R, nO_N, sC_nOs, sC_nOo, qI_s, qI_I, qI_J, qI_D, qD_s, qD_D, qD_J, qD_Ix]
        have tAa : sA S_44 13 0 = sA S (kn_r 9 3) 0 := by rw [show kn_r 9 3 = 13 from rfl, hT]; simp (disch := omega) only [btS, beS, ou_A, ou_I, ou_C, ou_Co, ou_N, pI_A, pD_A, pR_A, nO_Ao, pI_s, pI_I, pR_s, pR_R, pD_s, pD_D, pI_C, pD_C, pR_C, pI_N, pD_N, pR_N, pD_I, pR_I, pI_J, pD_J, pR_J, pI_D, pR_D, pI_R, pD_R, nO_Io, nO_Jo, nO_Do, nO_Ro, nO_No, nO_I, nO_D, nO_R, nO_N, sC_nOs, sC_nOo, qI_s, qI_I, qI_J, qI_D, qD_s, qD_D, qD_J, qD_Ix]
        have tAn : sA S_44 1 nu = sA (nO S 1 a38 0) 1 nu := by rw [hT]; simp (disch := omega) only [btS, beS, ou_A, ou_I, ou_C, ou_Co, ou_N, pI_A, pD_A, pR_A, nO_Ao, pI_s, pI_I, pR_s, pR_R, pD_s, pD_D, pI_C, pD_C, pR_C, pI_N, pD_N, pR_N, pD_I, pR_I, pI_J, pD_J, pR_J, pI_D, pR_D, pI_R, pD_R, nO_Io, nO_Jo, nO_Do, nO_Ro, nO_No, nO_I, nO_D, nO_R, nO_N, sC_nOs, sC_nOo, qI_s, qI_I, qI_J, qI_D, qD_s, qD_D, qD_J, qD_Ix]
        have tC9 : 0 < sC S_44 9 := by rw [hT]; simp (disch := omega) only [btS, beS, ou_A, ou_I, ou_C, ou_Co, ou_N, pI_A, pD_A, pR_A, nO_Ao, pI_s, pI_I, pR_s, pR_R, pD_s, pD_D, pI_C, pD_C, pR_C, pI_N, pD_N, pR_N, pD_I, pR_I, pI_J, pD_J, pR_J, pI_D, pR_D, pI_R, pD_R, nO_Io, nO_Jo, nO_Do, nO_Ro, nO_No, nO_I, nO_D, nO_R, nO_N, sC_nOs, sC_nOo, qI_s, qI_I, qI_J, qI_D, qD_s, qD_D, qD_J, qD_Ix]; exact c.1.c9
        have tCa : 0 < sC S_44 13 := by rw [hT]; simp (disch := omega) only [btS, beS, ou_A, ou_I, ou_C, ou_Co, ou_N, pI_A, pD_A, pR_A, nO_Ao, pI_s, pI_I, pR_s, pR_R, pD_s, pD_D, pI_C, pD_C, pR_C, pI_N, pD_N, pR_N, pD_I, pR_I, pI_J, pD_J, pR_J, pI_D, pR_D, pI_R, pD_R, nO_Io, nO_Jo, nO_Do, nO_Ro, nO_No, nO_I, nO_D, nO_R, nO_N, sC_nOs, sC_nOo, qI_s, qI_I, qI_J, qI_D, qD_s, qD_D, qD_J, qD_Ix]; exact c.1.c13
        have tCn : nu < sC S_44 1 := by rw [hT]; simp (disch := omega) only [btS, beS, ou_A, ou_I, ou_C, ou_Co, ou_N, pI_A, pD_A, pR_A, nO_Ao, pI_s, pI_I, pR_s, pR_R, pD_s, pD_D, pI_C, pD_C, pR_C, pI_N, pD_N, pR_N, pD_I, pR_I, pI_J, pD_J, pR_J, pI_D, pR_D, pI_R, pD_R, nO_Io, nO_Jo, nO_Do, nO_Ro, nO_No, nO_I, nO_D, nO_R, nO_N, sC_nOs, sC_nOo, qI_s, qI_I, qI_J, qI_D, qD_s, qD_D, qD_J, qD_Ix]; omega
        have tN : sN S_44 13 0 = 4 := by rw [hT]; simp (disch := omega) only [btS, beS, ou_A, ou_I, ou_C, ou_Co, ou_N, pI_A, pD_A, pR_A, nO_Ao, pI_s, pI_I, pR_s, pR_R, pD_s, pD_D, pI_C, pD_C, pR_C, pI_N, pD_N, pR_N, pD_I, pR_I, pI_J, pD_J, pR_J, pI_D, pR_D, pI_R, pD_R, nO_Io, nO_Jo, nO_Do, nO_Ro, nO_No, nO_I, nO_D, nO_R, nO_N, sC_nOs, sC_nOo, qI_s, qI_I, qI_J, qI_D, qD_s, qD_D, qD_J, qD_Ix]; first | exact shN.1 | exact shN.2.1 | exact shN.2.2.1 | exact shN.2.2.2.1 | exact shN.2.2.2.2.1 | exact shN.2.2.2.2.2.1
        have tI : sI S_44 9 0 12 = sI S 9 0 12 := by rw [hT]; simp (disch := omega) only [btS, beS, ou_A, ou_I, ou_C, ou_Co, ou_N, pI_A, pD_A, pR_A, nO_Ao, pI_s, pI_I, pR_s, pR_R, pD_s, pD_D, pI_C, pD_C, pR_C, pI_N, pD_N, pR_N, pD_I, pR_I, pI_J, pD_J, pR_J, pI_D, pR_D, pI_R, pD_R, nO_Io, nO_Jo, nO_Do, nO_Ro, nO_No, nO_I, nO_D, nO_R, nO_N, sC_nOs, sC_nOo, qI_s, qI_I, qI_J, qI_D, qD_s, qD_D, qD_J, qD_Ix]
        rw [← tA9, ← tAa, ← tAn]
        refine j_aast (x := 13) (c0 := 6) (y := 1) (rw0 := (RX1, TX1, 3)) (q := 48) hO dX9_bunker_47 rfl rfl tCa rfl rfl (fun _ => rfl) rfl (fun _ => rfl) rfl rfl (r := nu) rfl tCn (j := nu) rfl (by rw [tN]; omega) (by rw [tN]; decide) ?_
        refine j_aload_n (q := 49) hO dX9_bunker_48 rfl rfl ?_
        refine j_dup (q := 50) hO dX9_bunker_49 rfl rfl ?_
        refine j_getI (x := 9) (j := 12) (q := 53) hO CK_9 dX9_bunker_50 rfl mw_84 rfl tC9 rfl rfl (by decide) (Or.inl rfl) ?_
        refine j_iconst (v := 1) (q := 54) hO dX9_bunker_53 rfl (by decide) ?_
        refine j_iadd (q := 55) hO dX9_bunker_54 rfl ?_
        refine j_putI (x := 9) (j := 12) (q := 58) hO CK_9 dX9_bunker_55 rfl mw_84 rfl tC9 rfl rfl (by decide) rfl (by decide +kernel) rfl ?_
        refine j_iload_n (q := 59) hO dX9_bunker_58 rfl rfl ?_
        exact j_iret hM dX9_bunker_59 (Nat.le_of_ble_eq_true rfl) (Nat.le_of_ble_eq_true rfl) ⟨by unfold bunkA; rw [kt, ← f3.1]; rfl, by rw [hT]; exact (Xw.I (Xw.R (Xw.D (Xw.I (Xw.new Xw.rf (by decide) (by decide) (by decide) rfl) rfl) rfl) (by decide)) rfl), by unfold bunkF; rw [kt, enb, hT]; exact ⟨nb, nh, nu + 1, nr, nk, 0, t, CZ.bunk z hlt (by rw [pR_I, ← hT, tI, q4])⟩⟩
      · refine j_iconst (v := (-1)) (q := 27) hO dX9_bunker_26 rfl (by decide) ?_
        exact j_iret hM dX9_bunker_27 (Nat.le_of_ble_eq_true rfl) (Nat.le_of_ble_eq_true rfl) ⟨by unfold bunkA; rw [show kBunk α w = false from decide_eq_false (fun q => q.2.1 c23)]; rfl, Xw.rf, by unfold bunkF; rw [show kBunk α w = false from decide_eq_false (fun q => q.2.1 c23)]; exact ⟨nb, nh, nu, nr, nk, np, t, z⟩⟩
set_option maxHeartbeats 4000000 in
set_option maxRecDepth 100000 in
theorem c_9_picker (l : Launch) (S : St) (α : Al) (nb nh nu nr nk np t : Nat) (x : Int32) (v w : UInt64) (z : CZ S α nb nh nu nr nk np t) : Ct l yX9_picker cX9_picker 8 (some .int) (rm 2 1 5 45) [.ref (sA S 9 0), .int x, .double v, .double w] S (fun r S' => r = some (.int (picA α x v w)) ∧ Xw S S' ∧ Cq S' (picF α x v w)) := by
  refine Ct.of (by decide) (Nat.le_of_ble_eq_true rfl) (fun X hM => ?_)
  have hO := hM.1
  obtain rfl := hM.l
  show Jg X 0 0 S 0 [(0, .ref (sA S 9 0)), (1, .int x), (2, .double v), (4, .double w)] []
  have c := z.1
  have np60 := c.2.2.1.2.2.2.2.2.1.2
  have n6 := c.2.2.1.1.2
  have n8 := c.2.2.1.2.1.2
  have nu4 := c.2.2.1.2.2.1.2
  have nr4 := c.2.2.1.2.2.2.1.2
  have nk4 := c.2.2.1.2.2.2.2.1.2
  obtain ⟨⟨k0, k2, k1, k5, k7, k6, k4, k17⟩, ⟨q1, q2, q3, q4, q5, q6, q7⟩, -⟩ := id c.2.1
  obtain ⟨f1, f2, f3, f4, f5, f6, -⟩ := id c.2.2.1
  have shN := c.1.2.2.2
  refine j_aload_n (q := 1) hO dX9_picker_0 rfl rfl ?_
  refine j_iload_n (q := 2) hO dX9_picker_1 rfl rfl ?_
  refine j_callV (x := 9) (q := 5) hO (c_9_beltNumbered (lx X) _ α nb nh nu nr nk np t _ c) M_9_beltNumbered mw_205 CK_9 rfl c.1.c9 rfl rfl rfl (by unfold roomy; rw [hM.R]; exact ⟨⟨Nat.le_of_ble_eq_true rfl, Nat.le_of_ble_eq_true rfl⟩, ⟨Nat.le_of_ble_eq_true rfl, Nat.le_of_ble_eq_true rfl⟩, Nat.le_of_ble_eq_true rfl⟩) dX9_picker_2 rfl (fun v_2 S_2 hp_2 => ?_)
  obtain ⟨eS, hor⟩ := hp_2
  refine Jg.same eS ?_
  clear eS
  rcases hor with ⟨ci, rfl⟩ | ⟨b, hb, rfl, rfl⟩
  · refine j_astoreN (q := 7) hO dX9_picker_5 rfl (by rw [hM.nL]; decide) rfl ?_
    refine j_aload_n (q := 8) hO dX9_picker_7 rfl rfl ?_
    refine j_callV (x := 9) (q := 11) hO (c_9_isClosed (lx X) _ c.1.c9) M_9_isClosed mw_128 CK_9 rfl c.1.c9 rfl rfl rfl (by unfold roomy; rw [hM.R]; exact ⟨⟨Nat.le_of_ble_eq_true rfl, Nat.le_of_ble_eq_true rfl⟩, ⟨Nat.le_of_ble_eq_true rfl, Nat.le_of_ble_eq_true rfl⟩, Nat.le_of_ble_eq_true rfl⟩) dX9_picker_8 rfl (fun v_8 S_8 hp_8 => ?_)
    obtain ⟨rfl, eS⟩ := hp_8
    refine Jg.same eS ?_
    clear eS
    refine j_if_ne (tgt := 27) (q := 14) hO dX9_picker_11 rfl (by decide) (fun c11 => ?_) (fun c11 => ?_)
    · refine j_iconst (v := (-1)) (q := 28) hO dX9_picker_27 rfl (by decide) ?_
      exact j_iret hM dX9_picker_28 (Nat.le_of_ble_eq_true rfl) (Nat.le_of_ble_eq_true rfl) ⟨by unfold picA; rw [show kPick α x v w = false from decide_eq_false (fun q => z.cl (of1 c11) q.2.2.2.2)]; rfl, Xw.rf, by unfold picF; rw [show kPick α x v w = false from decide_eq_false (fun q => z.cl (of1 c11) q.2.2.2.2)]; exact ⟨nb, nh, nu, nr, nk, np, t, z⟩⟩
    · refine j_aload_n (q := 15) hO dX9_picker_14 rfl rfl ?_
      refine j_getI (x := 9) (j := 13) (q := 18) hO CK_9 dX9_picker_15 rfl mw_85 rfl c.1.c9 rfl rfl (by decide) (Or.inl rfl) ?_
      refine j_iconst (v := 4) (q := 19) hO dX9_picker_18 rfl (by decide) ?_
      refine j_icmp_ge (tgt := 27) (q := 22) hO dX9_picker_19 rfl (by decide) (fun c19 => ?_) (fun c19 => ?_)
      · refine j_iconst (v := (-1)) (q := 28) hO dX9_picker_27 rfl (by decide) ?_
        exact j_iret hM dX9_picker_28 (Nat.le_of_ble_eq_true rfl) (Nat.le_of_ble_eq_true rfl) ⟨by unfold picA; rw [show kPick α x v w = false from decide_eq_false (fun q => q.1 (eq_lim2 f5.1 (by omega) (by decide) (by rw [← q5]; exact c19)))]; rfl, Xw.rf, by unfold picF; rw [show kPick α x v w = false from decide_eq_false (fun q => q.1 (eq_lim2 f5.1 (by omega) (by decide) (by rw [← q5]; exact c19)))]; exact ⟨nb, nh, nu, nr, nk, np, t, z⟩⟩
      · refine j_aloadN (q := 24) hO dX9_picker_22 rfl rfl ?_
        refine j_ifnonnullN (q := 27) hO dX9_picker_24 rfl ?_
        refine j_iconst (v := (-1)) (q := 28) hO dX9_picker_27 rfl (by decide) ?_
        exact j_iret hM dX9_picker_28 (Nat.le_of_ble_eq_true rfl) (Nat.le_of_ble_eq_true rfl) ⟨by unfold picA; rw [show kPick α x v w = false from decide_eq_false (fun q => q.2.1 ci)]; rfl, Xw.rf, by unfold picF; rw [show kPick α x v w = false from decide_eq_false (fun q => q.2.1 ci)]; exact ⟨nb, nh, nu, nr, nk, np, t, z⟩⟩
  · refine j_astore (q := 7) hO dX9_picker_5 rfl (by rw [hM.nL]; decide) rfl ?_
    refine j_aload_n (q := 8) hO dX9_picker_7 rfl rfl ?_
    refine j_callV (x := 9) (q := 11) hO (c_9_isClosed (lx X) _ c.1.c9) M_9_isClosed mw_128 CK_9 rfl c.1.c9 rfl rfl rfl (by unfold roomy; rw [hM.R]; exact ⟨⟨Nat.le_of_ble_eq_true rfl, Nat.le_of_ble_eq_true rfl⟩, ⟨Nat.le_of_ble_eq_true rfl, Nat.le_of_ble_eq_true rfl⟩, Nat.le_of_ble_eq_true rfl⟩) dX9_picker_8 rfl (fun v_8 S_8 hp_8 => ?_)
    obtain ⟨rfl, eS⟩ := hp_8
    refine Jg.same eS ?_
    clear eS
    refine j_if_ne (tgt := 27) (q := 14) hO dX9_picker_11 rfl (by decide) (fun c11 => ?_) (fun c11 => ?_)
    · refine j_iconst (v := (-1)) (q := 28) hO dX9_picker_27 rfl (by decide) ?_
      exact j_iret hM dX9_picker_28 (Nat.le_of_ble_eq_true rfl) (Nat.le_of_ble_eq_true rfl) ⟨by unfold picA; rw [show kPick α (nI b) v w = false from decide_eq_false (fun q => z.cl (of1 c11) q.2.2.2.2)]; rfl, Xw.rf, by unfold picF; rw [show kPick α (nI b) v w = false from decide_eq_false (fun q => z.cl (of1 c11) q.2.2.2.2)]; exact ⟨nb, nh, nu, nr, nk, np, t, z⟩⟩
    · refine j_aload_n (q := 15) hO dX9_picker_14 rfl rfl ?_
      refine j_getI (x := 9) (j := 13) (q := 18) hO CK_9 dX9_picker_15 rfl mw_85 rfl c.1.c9 rfl rfl (by decide) (Or.inl rfl) ?_
      refine j_iconst (v := 4) (q := 19) hO dX9_picker_18 rfl (by decide) ?_
      refine j_icmp_ge (tgt := 27) (q := 22) hO dX9_picker_19 rfl (by decide) (fun c19 => ?_) (fun c19 => ?_)
      · refine j_iconst (v := (-1)) (q := 28) hO dX9_picker_27 rfl (by decide) ?_
        exact j_iret hM dX9_picker_28 (Nat.le_of_ble_eq_true rfl) (Nat.le_of_ble_eq_true rfl) ⟨by unfold picA; rw [show kPick α (nI b) v w = false from decide_eq_false (fun q => q.1 (eq_lim2 f5.1 (by omega) (by decide) (by rw [← q5]; exact c19)))]; rfl, Xw.rf, by unfold picF; rw [show kPick α (nI b) v w = false from decide_eq_false (fun q => q.1 (eq_lim2 f5.1 (by omega) (by decide) (by rw [← q5]; exact c19)))]; exact ⟨nb, nh, nu, nr, nk, np, t, z⟩⟩
      · refine j_aload (q := 24) hO dX9_picker_22 rfl rfl ?_
        refine j_ifnonnull (tgt := 29) hO dX9_picker_24 (by decide) ?_
        refine j_dload_n (q := 30) hO dX9_picker_29 rfl rfl ?_
        refine j_ldc2d (q := 33) hO dX9_picker_30 rfl mw_269 ?_
        refine j_ldc2d (q := 36) hO dX9_picker_33 rfl mw_270 ?_
        refine j_callS (q := 39) hO (c_9_within (lx X) _ _ _ _) M_9_within mw_133 rfl rfl (by unfold roomy; rw [hM.R]; exact ⟨⟨Nat.le_of_ble_eq_true rfl, Nat.le_of_ble_eq_true rfl⟩, ⟨Nat.le_of_ble_eq_true rfl, Nat.le_of_ble_eq_true rfl⟩, Nat.le_of_ble_eq_true rfl⟩) dX9_picker_36 rfl (fun v_36 S_36 hp_36 => ?_)
        obtain ⟨rfl, eS⟩ := hp_36
        refine Jg.same eS ?_
        clear eS
        refine j_if_eq (tgt := 54) (q := 42) hO dX9_picker_39 rfl (by decide) (fun c1_ => ?_) (fun c1_ => ?_)
        · refine j_iconst (v := (-1)) (q := 55) hO dX9_picker_54 rfl (by decide) ?_
          exact j_iret hM dX9_picker_55 (Nat.le_of_ble_eq_true rfl) (Nat.le_of_ble_eq_true rfl) ⟨by unfold picA; rw [show kPick α (nI b) v w = false from decide_eq_false (fun q => q.2.2.1 c1_)]; rfl, Xw.rf, by unfold picF; rw [show kPick α (nI b) v w = false from decide_eq_false (fun q => q.2.2.1 c1_)]; exact ⟨nb, nh, nu, nr, nk, np, t, z⟩⟩
        · refine j_dload (q := 44) hO dX9_picker_42 rfl rfl ?_
          refine j_dconst0 (q := 45) hO dX9_picker_44 rfl ?_
          refine j_ldc2d (q := 48) hO dX9_picker_45 rfl mw_271 ?_
          refine j_callS (q := 51) hO (c_9_within (lx X) _ _ _ _) M_9_within mw_133 rfl rfl (by unfold roomy; rw [hM.R]; exact ⟨⟨Nat.le_of_ble_eq_true rfl, Nat.le_of_ble_eq_true rfl⟩, ⟨Nat.le_of_ble_eq_true rfl, Nat.le_of_ble_eq_true rfl⟩, Nat.le_of_ble_eq_true rfl⟩) dX9_picker_48 rfl (fun v_48 S_48 hp_48 => ?_)
          obtain ⟨rfl, eS⟩ := hp_48
          refine Jg.same eS ?_
          clear eS
          refine j_if_ne (tgt := 56) (q := 54) hO dX9_picker_51 rfl (by decide) (fun c2_ => ?_) (fun c2_ => ?_)
          · have h26 := z.op (of0 c11)
            obtain rfl := z.np0 h26
            have hlt := lt_lim2 (q5.trans f5.1) (by omega) (by decide) c19
            have hcb : sI S 9 0 13 = nI nk := q5.trans f5.1
            have hbc : b < sC S 0 := by omega
            have kt : kPick α (nI b) v w = true := decide_eq_true ⟨ne_lim f5.1 (by omega) (by decide) hlt, iB_of f1.1 n6 hb, c1_, c2_, h26⟩
            have enb : nn (aI α 0 20) = nk := by rw [f5.1]; exact nn_nI (by omega)
            refine j_aload_n (q := 57) hO dX9_picker_56 rfl rfl ?_
            refine j_getI (x := 9) (j := 13) (q := 60) hO CK_9 dX9_picker_57 rfl mw_85 rfl c.1.c9 rfl rfl (by decide) (Or.inl rfl) ?_
            rw [hcb]
            refine j_istore (q := 62) hO dX9_picker_60 rfl (by rw [hM.nL]; decide) rfl ?_
            refine j_aload_n (q := 63) hO dX9_picker_62 rfl rfl ?_
            refine j_getRs (x := 9) (j := 4) (q := 66) hO CK_9 dX9_picker_63 rfl mw_76 rfl c.1.c9 rfl rfl (by decide) rfl c.1.r4 ?_
            refine j_iload (q := 68) hO dX9_picker_66 rfl rfl ?_
            refine j_newh (h := nk) (x := 5) (q := 71) hO CK_5 dX9_picker_68 rfl mw_27 mw_272 mw_9 rfl rfl dv_5 (by rw [hM.R]; exact ⟨Nat.le_of_ble_eq_true rfl, Nat.le_of_ble_eq_true rfl⟩) k5 (fun a68 => ?_)
            refine j_dup (q := 72) hO dX9_picker_71 rfl rfl ?_
            refine j_aload (q := 74) hO dX9_picker_72 rfl rfl ?_
            refine j_dload_n (q := 75) hO dX9_picker_74 rfl rfl ?_
            refine j_dload (q := 77) hO dX9_picker_75 rfl rfl ?_
            refine j_callI (q := 80) hO (c_5_init (lx X) _ nk b _ _ (by rw [sC_nOs]; omega) (by rw [sC_nOo (by decide)]; exact hbc)) M_5_init mw_273 rfl rfl (by unfold roomy; rw [hM.R]; exact ⟨⟨Nat.le_of_ble_eq_true rfl, Nat.le_of_ble_eq_true rfl⟩, ⟨Nat.le_of_ble_eq_true rfl, Nat.le_of_ble_eq_true rfl⟩, Nat.le_of_ble_eq_true rfl⟩) dX9_picker_77 rfl (fun v_77 S_77 hp_77 => ?_)
            obtain ⟨rfl, hT⟩ := hp_77
            have tA9 : sA S_77 9 0 = sA S 9 0 := by rw [hT]; simp (disch := omega) only [btS, beS, ou_A, ou_I, ou_C, ou_Co, ou_N, pI_A, pD_A, pR_A, nO_Ao, pI_s, pI_I, pR_s, pR_R, pD_s, pD_D, pI_C, pD_C, pR_C, pI_N, pD_N, pR_N, pD_I, pR_I, pI_J, pD_J, pR_J, pI_D, pR_D, pI_R, pD_R, nO_Io, nO_Jo, nO_Do, nO_Ro, nO_No, nO_I, nO_D, nO_R, nO_N, sC_nOs, sC_nOo, qI_s, qI_I, qI_J, qI_D, qD_s, qD_D, qD_J, qD_Ix]
            have tAa : sA S_77 14 0 = sA S (kn_r 9 4) 0 := by rw [show kn_r 9 4 = 14 from rfl, hT]; simp (disch := omega) only [btS, beS, ou_A, ou_I, ou_C, ou_Co, ou_N, pI_A, pD_A, pR_A, nO_Ao, pI_s, pI_I, pR_s, pR_R, pD_s, pD_D, pI_C, pD_C, pR_C, pI_N, pD_N, pR_N, pD_I, pR_I, pI_J, pD_J, pR_J, pI_D, pR_D, pI_R, pD_R, nO_Io, nO_Jo, nO_Do, nO_Ro, nO_No, nO_I, nO_D, nO_R, nO_N, sC_nOs, sC_nOo, qI_s, qI_I, qI_J, qI_D, qD_s, qD_D, qD_J, qD_Ix]
            have tAn : sA S_77 5 nk = sA (nO S 5 a68 0) 5 nk := by rw [hT]; simp (disch := omega) only [btS, beS, ou_A, ou_I, ou_C, ou_Co, ou_N, pI_A, pD_A, pR_A, nO_Ao, pI_s, pI_I, pR_s, pR_R, pD_s, pD_D, pI_C, pD_C, pR_C, pI_N, pD_N, pR_N, pD_I, pR_I, pI_J, pD_J, pR_J, pI_D, pR_D, pI_R, pD_R, nO_Io, nO_Jo, nO_Do, nO_Ro, nO_No, nO_I, nO_D, nO_R, nO_N, sC_nOs, sC_nOo, qI_s, qI_I, qI_J, qI_D, qD_s, qD_D, qD_J, qD_Ix]
            have tC9 : 0 < sC S_77 9 := by rw [hT]; simp (disch := omega) only [btS, beS, ou_A, ou_I, ou_C, ou_Co, ou_N, pI_A, pD_A, pR_A, nO_Ao, pI_s, pI_I, pR_s, pR_R, pD_s, pD_D, pI_C, pD_C, pR_C, pI_N, pD_N, pR_N, pD_I, pR_I, pI_J, pD_J, pR_J, pI_D, pR_D, pI_R, pD_R, nO_Io, nO_Jo, nO_Do, nO_Ro, nO_No, nO_I, nO_D, nO_R, nO_N, sC_nOs, sC_nOo, qI_s, qI_I, qI_J, qI_D, qD_s, qD_D, qD_J, qD_Ix]; exact c.1.c9
            have tCa : 0 < sC S_77 14 := by rw [hT]; simp (disch := omega) only [btS, beS, ou_A, ou_I, ou_C, ou_Co, ou_N, pI_A, pD_A, pR_A, nO_Ao, pI_s, pI_I, pR_s, pR_R, pD_s, pD_D, pI_C, pD_C, pR_C, pI_N, pD_N, pR_N, pD_I, pR_I, pI_J, pD_J, pR_J, pI_D, pR_D, pI_R, pD_R, nO_Io, nO_Jo, nO_Do, nO_Ro, nO_No, nO_I, nO_D, nO_R, nO_N, sC_nOs, sC_nOo, qI_s, qI_I, qI_J, qI_D, qD_s, qD_D, qD_J, qD_Ix]; exact c.1.c14
            have tCn : nk < sC S_77 5 := by rw [hT]; simp (disch := omega) only [btS, beS, ou_A, ou_I, ou_C, ou_Co, ou_N, pI_A, pD_A, pR_A, nO_Ao, pI_s, pI_I, pR_s, pR_R, pD_s, pD_D, pI_C, pD_C, pR_C, pI_N, pD_N, pR_N, pD_I, pR_I, pI_J, pD_J, pR_J, pI_D, pR_D, pI_R, pD_R, nO_Io, nO_Jo, nO_Do, nO_Ro, nO_No, nO_I, nO_D, nO_R, nO_N, sC_nOs, sC_nOo, qI_s, qI_I, qI_J, qI_D, qD_s, qD_D, qD_J, qD_Ix]; omega
            have tN : sN S_77 14 0 = 4 := by rw [hT]; simp (disch := omega) only [btS, beS, ou_A, ou_I, ou_C, ou_Co, ou_N, pI_A, pD_A, pR_A, nO_Ao, pI_s, pI_I, pR_s, pR_R, pD_s, pD_D, pI_C, pD_C, pR_C, pI_N, pD_N, pR_N, pD_I, pR_I, pI_J, pD_J, pR_J, pI_D, pR_D, pI_R, pD_R, nO_Io, nO_Jo, nO_Do, nO_Ro, nO_No, nO_I, nO_D, nO_R, nO_N, sC_nOs, sC_nOo, qI_s, qI_I, qI_J, qI_D, qD_s, qD_D, qD_J, qD_Ix]; first | exact shN.1 | exact shN.2.1 | exact shN.2.2.1 | exact shN.2.2.2.1 | exact shN.2.2.2.2.1 | exact shN.2.2.2.2.2.1
            have tI : sI S_77 9 0 13 = sI S 9 0 13 := by rw [hT]; simp (disch := omega) only [btS, beS, ou_A, ou_I, ou_C, ou_Co, ou_N, pI_A, pD_A, pR_A, nO_Ao, pI_s, pI_I, pR_s, pR_R, pD_s, pD_D, pI_C, pD_C, pR_C, pI_N, pD_N, pR_N, pD_I, pR_I, pI_J, pD_J, pR_J, pI_D, pR_D, pI_R, pD_R, nO_Io, nO_Jo, nO_Do, nO_Ro, nO_No, nO_I, nO_D, nO_R, nO_N, sC_nOs, sC_nOo, qI_s, qI_I, qI_J, qI_D, qD_s, qD_D, qD_J, qD_Ix]
            rw [← tA9, ← tAa, ← tAn]
            refine j_aast (x := 14) (c0 := 7) (y := 5) (rw0 := (RX5, TX5, 5)) (q := 81) hO dX9_picker_80 rfl rfl tCa rfl rfl (fun _ => rfl) rfl (fun _ => rfl) rfl rfl (r := nk) rfl tCn (j := nk) rfl (by rw [tN]; omega) (by rw [tN]; decide) ?_
            refine j_aload_n (q := 82) hO dX9_picker_81 rfl rfl ?_
            refine j_dup (q := 83) hO dX9_picker_82 rfl rfl ?_
            refine j_getI (x := 9) (j := 13) (q := 86) hO CK_9 dX9_picker_83 rfl mw_85 rfl tC9 rfl rfl (by decide) (Or.inl rfl) ?_
            refine j_iconst (v := 1) (q := 87) hO dX9_picker_86 rfl (by decide) ?_
            refine j_iadd (q := 88) hO dX9_picker_87 rfl ?_
            refine j_putI (x := 9) (j := 13) (q := 91) hO CK_9 dX9_picker_88 rfl mw_85 rfl tC9 rfl rfl (by decide) rfl (by decide +kernel) rfl ?_
            refine j_iload (q := 93) hO dX9_picker_91 rfl rfl ?_
            exact j_iret hM dX9_picker_93 (Nat.le_of_ble_eq_true rfl) (Nat.le_of_ble_eq_true rfl) ⟨by unfold picA; rw [kt, ← f5.1]; rfl, by rw [hT]; exact (Xw.I (Xw.R (Xw.D (Xw.D (Xw.R (Xw.new Xw.rf (by decide) (by decide) (by decide) rfl) (by decide)) rfl) rfl) (by decide)) rfl), by unfold picF; rw [kt, enb, hT]; exact ⟨nb, nh, nu, nr, nk + 1, 0, t, CZ.pick z hlt hb (fun w' _ => pk_ok c1_ c2_ w') (by rw [pR_I, ← hT, tI, q5])⟩⟩
          · refine j_iconst (v := (-1)) (q := 55) hO dX9_picker_54 rfl (by decide) ?_
            exact j_iret hM dX9_picker_55 (Nat.le_of_ble_eq_true rfl) (Nat.le_of_ble_eq_true rfl) ⟨by unfold picA; rw [show kPick α (nI b) v w = false from decide_eq_false (fun q => q.2.2.2.1 c2_)]; rfl, Xw.rf, by unfold picF; rw [show kPick α (nI b) v w = false from decide_eq_false (fun q => q.2.2.2.1 c2_)]; exact ⟨nb, nh, nu, nr, nk, np, t, z⟩⟩
set_option maxHeartbeats 4000000 in
set_option maxRecDepth 100000 in
theorem c_9_robot (l : Launch) (S : St) (α : Al) (nb nh nu nr nk np t : Nat) (x : Int32) (v w : UInt64) (z : CZ S α nb nh nu nr nk np t) : Ct l yX9_robot cX9_robot 8 (some .int) (rm 2 1 3 45) [.ref (sA S 9 0), .int x, .double v, .double w] S (fun r S' => r = some (.int (robotA α x v w)) ∧ Xw S S' ∧ Cq S' (robotF α x v w)) := by
  refine Ct.of (by decide) (Nat.le_of_ble_eq_true rfl) (fun X hM => ?_)
  have hO := hM.1
  obtain rfl := hM.l
  show Jg X 0 0 S 0 [(0, .ref (sA S 9 0)), (1, .int x), (2, .double v), (4, .double w)] []
  have c := z.1
  have np60 := c.2.2.1.2.2.2.2.2.1.2
  have n6 := c.2.2.1.1.2
  have n8 := c.2.2.1.2.1.2
  have nu4 := c.2.2.1.2.2.1.2
  have nr4 := c.2.2.1.2.2.2.1.2
  have nk4 := c.2.2.1.2.2.2.2.1.2
  obtain ⟨⟨k0, k2, k1, k5, k7, k6, k4, k17⟩, ⟨q1, q2, q3, q4, q5, q6, q7⟩, -⟩ := id c.2.1
  obtain ⟨f1, f2, f3, f4, f5, f6, -⟩ := id c.2.2.1
  have shN := c.1.2.2.2
  refine j_aload_n (q := 1) hO dX9_robot_0 rfl rfl ?_
  refine j_iload_n (q := 2) hO dX9_robot_1 rfl rfl ?_
  refine j_callV (x := 9) (q := 5) hO (c_9_beltNumbered (lx X) _ α nb nh nu nr nk np t _ c) M_9_beltNumbered mw_205 CK_9 rfl c.1.c9 rfl rfl rfl (by unfold roomy; rw [hM.R]; exact ⟨⟨Nat.le_of_ble_eq_true rfl, Nat.le_of_ble_eq_true rfl⟩, ⟨Nat.le_of_ble_eq_true rfl, Nat.le_of_ble_eq_true rfl⟩, Nat.le_of_ble_eq_true rfl⟩) dX9_robot_2 rfl (fun v_2 S_2 hp_2 => ?_)
  obtain ⟨eS, hor⟩ := hp_2
  refine Jg.same eS ?_
  clear eS
  rcases hor with ⟨ci, rfl⟩ | ⟨b, hb, rfl, rfl⟩
  · refine j_astoreN (q := 7) hO dX9_robot_5 rfl (by rw [hM.nL]; decide) rfl ?_
    refine j_aload_n (q := 8) hO dX9_robot_7 rfl rfl ?_
    refine j_callV (x := 9) (q := 11) hO (c_9_isClosed (lx X) _ c.1.c9) M_9_isClosed mw_128 CK_9 rfl c.1.c9 rfl rfl rfl (by unfold roomy; rw [hM.R]; exact ⟨⟨Nat.le_of_ble_eq_true rfl, Nat.le_of_ble_eq_true rfl⟩, ⟨Nat.le_of_ble_eq_true rfl, Nat.le_of_ble_eq_true rfl⟩, Nat.le_of_ble_eq_true rfl⟩) dX9_robot_8 rfl (fun v_8 S_8 hp_8 => ?_)
    obtain ⟨rfl, eS⟩ := hp_8
    refine Jg.same eS ?_
    clear eS
    refine j_if_ne (tgt := 27) (q := 14) hO dX9_robot_11 rfl (by decide) (fun c11 => ?_) (fun c11 => ?_)
    · refine j_iconst (v := (-1)) (q := 28) hO dX9_robot_27 rfl (by decide) ?_
      exact j_iret hM dX9_robot_28 (Nat.le_of_ble_eq_true rfl) (Nat.le_of_ble_eq_true rfl) ⟨by unfold robotA; rw [show kRob α x v w = false from decide_eq_false (fun q => z.cl (of1 c11) q.2.2.2.2)]; rfl, Xw.rf, by unfold robotF; rw [show kRob α x v w = false from decide_eq_false (fun q => z.cl (of1 c11) q.2.2.2.2)]; exact ⟨nb, nh, nu, nr, nk, np, t, z⟩⟩
    · refine j_aload_n (q := 15) hO dX9_robot_14 rfl rfl ?_
      refine j_getI (x := 9) (j := 14) (q := 18) hO CK_9 dX9_robot_15 rfl mw_86 rfl c.1.c9 rfl rfl (by decide) (Or.inl rfl) ?_
      refine j_iconst (v := 4) (q := 19) hO dX9_robot_18 rfl (by decide) ?_
      refine j_icmp_ge (tgt := 27) (q := 22) hO dX9_robot_19 rfl (by decide) (fun c19 => ?_) (fun c19 => ?_)
      · refine j_iconst (v := (-1)) (q := 28) hO dX9_robot_27 rfl (by decide) ?_
        exact j_iret hM dX9_robot_28 (Nat.le_of_ble_eq_true rfl) (Nat.le_of_ble_eq_true rfl) ⟨by unfold robotA; rw [show kRob α x v w = false from decide_eq_false (fun q => q.1 (eq_lim2 f4.1 (by omega) (by decide) (by rw [← q6]; exact c19)))]; rfl, Xw.rf, by unfold robotF; rw [show kRob α x v w = false from decide_eq_false (fun q => q.1 (eq_lim2 f4.1 (by omega) (by decide) (by rw [← q6]; exact c19)))]; exact ⟨nb, nh, nu, nr, nk, np, t, z⟩⟩
      · refine j_aloadN (q := 24) hO dX9_robot_22 rfl rfl ?_
        refine j_ifnonnullN (q := 27) hO dX9_robot_24 rfl ?_
        refine j_iconst (v := (-1)) (q := 28) hO dX9_robot_27 rfl (by decide) ?_
        exact j_iret hM dX9_robot_28 (Nat.le_of_ble_eq_true rfl) (Nat.le_of_ble_eq_true rfl) ⟨by unfold robotA; rw [show kRob α x v w = false from decide_eq_false (fun q => q.2.1 ci)]; rfl, Xw.rf, by unfold robotF; rw [show kRob α x v w = false from decide_eq_false (fun q => q.2.1 ci)]; exact ⟨nb, nh, nu, nr, nk, np, t, z⟩⟩
  · refine j_astore (q := 7) hO dX9_robot_5 rfl (by rw [hM.nL]; decide) rfl ?_
    refine j_aload_n (q := 8) hO dX9_robot_7 rfl rfl ?_
    refine j_callV (x := 9) (q := 11) hO (c_9_isClosed (lx X) _ c.1.c9) M_9_isClosed mw_128 CK_9 rfl c.1.c9 rfl rfl rfl (by unfold roomy; rw [hM.R]; exact ⟨⟨Nat.le_of_ble_eq_true rfl, Nat.le_of_ble_eq_true rfl⟩, ⟨Nat.le_of_ble_eq_true rfl, Nat.le_of_ble_eq_true rfl⟩, Nat.le_of_ble_eq_true rfl⟩) dX9_robot_8 rfl (fun v_8 S_8 hp_8 => ?_)
    obtain ⟨rfl, eS⟩ := hp_8
    refine Jg.same eS ?_
    clear eS
    refine j_if_ne (tgt := 27) (q := 14) hO dX9_robot_11 rfl (by decide) (fun c11 => ?_) (fun c11 => ?_)
    · refine j_iconst (v := (-1)) (q := 28) hO dX9_robot_27 rfl (by decide) ?_
      exact j_iret hM dX9_robot_28 (Nat.le_of_ble_eq_true rfl) (Nat.le_of_ble_eq_true rfl) ⟨by unfold robotA; rw [show kRob α (nI b) v w = false from decide_eq_false (fun q => z.cl (of1 c11) q.2.2.2.2)]; rfl, Xw.rf, by unfold robotF; rw [show kRob α (nI b) v w = false from decide_eq_false (fun q => z.cl (of1 c11) q.2.2.2.2)]; exact ⟨nb, nh, nu, nr, nk, np, t, z⟩⟩
    · refine j_aload_n (q := 15) hO dX9_robot_14 rfl rfl ?_
      refine j_getI (x := 9) (j := 14) (q := 18) hO CK_9 dX9_robot_15 rfl mw_86 rfl c.1.c9 rfl rfl (by decide) (Or.inl rfl) ?_
      refine j_iconst (v := 4) (q := 19) hO dX9_robot_18 rfl (by decide) ?_
      refine j_icmp_ge (tgt := 27) (q := 22) hO dX9_robot_19 rfl (by decide) (fun c19 => ?_) (fun c19 => ?_)
      · refine j_iconst (v := (-1)) (q := 28) hO dX9_robot_27 rfl (by decide) ?_
        exact j_iret hM dX9_robot_28 (Nat.le_of_ble_eq_true rfl) (Nat.le_of_ble_eq_true rfl) ⟨by unfold robotA; rw [show kRob α (nI b) v w = false from decide_eq_false (fun q => q.1 (eq_lim2 f4.1 (by omega) (by decide) (by rw [← q6]; exact c19)))]; rfl, Xw.rf, by unfold robotF; rw [show kRob α (nI b) v w = false from decide_eq_false (fun q => q.1 (eq_lim2 f4.1 (by omega) (by decide) (by rw [← q6]; exact c19)))]; exact ⟨nb, nh, nu, nr, nk, np, t, z⟩⟩
      · refine j_aload (q := 24) hO dX9_robot_22 rfl rfl ?_
        refine j_ifnonnull (tgt := 29) hO dX9_robot_24 (by decide) ?_
        refine j_dload_n (q := 30) hO dX9_robot_29 rfl rfl ?_
        refine j_dconst0 (q := 31) hO dX9_robot_30 rfl ?_
        refine j_ldc2d (q := 34) hO dX9_robot_31 rfl mw_271 ?_
        refine j_callS (q := 37) hO (c_9_within (lx X) _ _ _ _) M_9_within mw_133 rfl rfl (by unfold roomy; rw [hM.R]; exact ⟨⟨Nat.le_of_ble_eq_true rfl, Nat.le_of_ble_eq_true rfl⟩, ⟨Nat.le_of_ble_eq_true rfl, Nat.le_of_ble_eq_true rfl⟩, Nat.le_of_ble_eq_true rfl⟩) dX9_robot_34 rfl (fun v_34 S_34 hp_34 => ?_)
        obtain ⟨rfl, eS⟩ := hp_34
        refine Jg.same eS ?_
        clear eS
        refine j_if_eq (tgt := 50) (q := 40) hO dX9_robot_37 rfl (by decide) (fun c1_ => ?_) (fun c1_ => ?_)
        · refine j_iconst (v := (-1)) (q := 51) hO dX9_robot_50 rfl (by decide) ?_
          exact j_iret hM dX9_robot_51 (Nat.le_of_ble_eq_true rfl) (Nat.le_of_ble_eq_true rfl) ⟨by unfold robotA; rw [show kRob α (nI b) v w = false from decide_eq_false (fun q => q.2.2.1 c1_)]; rfl, Xw.rf, by unfold robotF; rw [show kRob α (nI b) v w = false from decide_eq_false (fun q => q.2.2.1 c1_)]; exact ⟨nb, nh, nu, nr, nk, np, t, z⟩⟩
        · refine j_dload (q := 42) hO dX9_robot_40 rfl rfl ?_
          refine j_dconst0 (q := 43) hO dX9_robot_42 rfl ?_
          refine j_dconst1 (q := 44) hO dX9_robot_43 rfl ?_
          refine j_callS (q := 47) hO (c_9_within (lx X) _ _ _ _) M_9_within mw_133 rfl rfl (by unfold roomy; rw [hM.R]; exact ⟨⟨Nat.le_of_ble_eq_true rfl, Nat.le_of_ble_eq_true rfl⟩, ⟨Nat.le_of_ble_eq_true rfl, Nat.le_of_ble_eq_true rfl⟩, Nat.le_of_ble_eq_true rfl⟩) dX9_robot_44 rfl (fun v_44 S_44 hp_44 => ?_)
          obtain ⟨rfl, eS⟩ := hp_44
          refine Jg.same eS ?_
          clear eS
          refine j_if_ne (tgt := 52) (q := 50) hO dX9_robot_47 rfl (by decide) (fun c2_ => ?_) (fun c2_ => ?_)
          · have h26 := z.op (of0 c11)
            obtain rfl := z.np0 h26
            have hlt := lt_lim2 (q6.trans f4.1) (by omega) (by decide) c19
            have hcb : sI S 9 0 14 = nI nr := q6.trans f4.1
            have hbc : b < sC S 0 := by omega
            have kt : kRob α (nI b) v w = true := decide_eq_true ⟨ne_lim f4.1 (by omega) (by decide) hlt, iB_of f1.1 n6 hb, c1_, c2_, h26⟩
            have enb : nn (aI α 0 16) = nr := by rw [f4.1]; exact nn_nI (by omega)
            refine j_aload_n (q := 53) hO dX9_robot_52 rfl rfl ?_
            refine j_getI (x := 9) (j := 14) (q := 56) hO CK_9 dX9_robot_53 rfl mw_86 rfl c.1.c9 rfl rfl (by decide) (Or.inl rfl) ?_
            rw [hcb]
            refine j_istore (q := 58) hO dX9_robot_56 rfl (by rw [hM.nL]; decide) rfl ?_
            refine j_aload_n (q := 59) hO dX9_robot_58 rfl rfl ?_
            refine j_getRs (x := 9) (j := 5) (q := 62) hO CK_9 dX9_robot_59 rfl mw_77 rfl c.1.c9 rfl rfl (by decide) rfl c.1.r5 ?_
            refine j_iload (q := 64) hO dX9_robot_62 rfl rfl ?_
            refine j_newh (h := nr) (x := 7) (q := 67) hO CK_7 dX9_robot_64 rfl mw_29 mw_299 mw_10 rfl rfl dv_7 (by rw [hM.R]; exact ⟨Nat.le_of_ble_eq_true rfl, Nat.le_of_ble_eq_true rfl⟩) k7 (fun a64 => ?_)
            refine j_dup (q := 68) hO dX9_robot_67 rfl rfl ?_
            refine j_aload (q := 70) hO dX9_robot_68 rfl rfl ?_
            refine j_dload_n (q := 71) hO dX9_robot_70 rfl rfl ?_
            refine j_dload (q := 73) hO dX9_robot_71 rfl rfl ?_
            refine j_callI (q := 76) hO (c_7_init (lx X) _ nr b _ _ (by rw [sC_nOs]; omega) (by rw [sC_nOo (by decide)]; exact hbc)) M_7_init mw_300 rfl rfl (by unfold roomy; rw [hM.R]; exact ⟨⟨Nat.le_of_ble_eq_true rfl, Nat.le_of_ble_eq_true rfl⟩, ⟨Nat.le_of_ble_eq_true rfl, Nat.le_of_ble_eq_true rfl⟩, Nat.le_of_ble_eq_true rfl⟩) dX9_robot_73 rfl (fun v_73 S_73 hp_73 => ?_)
            obtain ⟨rfl, hT⟩ := hp_73
            have tA9 : sA S_73 9 0 = sA S 9 0 := by rw [hT]; simp (disch := omega) only [btS, beS, ou_A, ou_I, ou_C, ou_Co, ou_N, pI_A, pD_A, pR_A, nO_Ao, pI_s, pI_I, pR_s, pR_R, pD_s, pD_D, pI_C, pD_C, pR_C, pI_N, pD_N, pR_N, pD_I, pR_I, pI_J, pD_J, pR_J, pI_D, pR_D, pI_R, pD_R, nO_Io, nO_Jo, nO_Do, nO_Ro, nO_No, nO_I, nO_D, nO_R, nO_N, sC_nOs, sC_nOo, qI_s, qI_I, qI_J, qI_D, qD_s, qD_D, qD_J, qD_Ix]
            have tAa : sA S_73 15 0 = sA S (kn_r 9 5) 0 := by rw [show kn_r 9 5 = 15 from rfl, hT]; simp (disch := omega) only [btS, beS, ou_A, ou_I, ou_C, ou_Co, ou_N, pI_A, pD_A, pR_A, nO_Ao, pI_s, pI_I, pR_s, pR_R, pD_s, pD_D, pI_C, pD_C, pR_C, pI_N, pD_N, pR_N, pD_I, pR_I, pI_J, pD_J, pR_J, pI_D, pR_D, pI_R, pD_R, nO_Io, nO_Jo, nO_Do, nO_Ro, nO_No, nO_I, nO_D, nO_R, nO_N, sC_nOs, sC_nOo, qI_s, qI_I, qI_J, qI_D, qD_s, qD_D, qD_J, qD_Ix]
            have tAn : sA S_73 7 nr = sA (nO S 7 a64 0) 7 nr := by rw [hT]; simp (disch := omega) only [btS, beS, ou_A, ou_I, ou_C, ou_Co, ou_N, pI_A, pD_A, pR_A, nO_Ao, pI_s, pI_I, pR_s, pR_R, pD_s, pD_D, pI_C, pD_C, pR_C, pI_N, pD_N, pR_N, pD_I, pR_I, pI_J, pD_J, pR_J, pI_D, pR_D, pI_R, pD_R, nO_Io, nO_Jo, nO_Do, nO_Ro, nO_No, nO_I, nO_D, nO_R, nO_N, sC_nOs, sC_nOo, qI_s, qI_I, qI_J, qI_D, qD_s, qD_D, qD_J, qD_Ix]
            have tC9 : 0 < sC S_73 9 := by rw [hT]; simp (disch := omega) only [btS, beS, ou_A, ou_I, ou_C, ou_Co, ou_N, pI_A, pD_A, pR_A, nO_Ao, pI_s, pI_I, pR_s, pR_R, pD_s, pD_D, pI_C, pD_C, pR_C, pI_N, pD_N, pR_N, pD_I, pR_I, pI_J, pD_J, pR_J, pI_D, pR_D, pI_R, pD_R, nO_Io, nO_Jo, nO_Do, nO_Ro, nO_No, nO_I, nO_D, nO_R, nO_N, sC_nOs, sC_nOo, qI_s, qI_I, qI_J, qI_D, qD_s, qD_D, qD_J, qD_Ix]; exact c.1.c9
            have tCa : 0 < sC S_73 15 := by rw [hT]; simp (disch := omega) only [btS, beS, ou_A, ou_I, ou_C, ou_Co, ou_N, pI_A, pD_A, pR_A, nO_Ao, pI_s, pI_I, pR_s, pR_R, pD_s, pD_D, pI_C, pD_C, pR_C, pI_N, pD_N, pR_N, pD_I, pR_I, pI_J, pD_J, pR_J, pI_D, pR_D, pI_R, pD_R, nO_Io, nO_Jo, nO_Do, nO_Ro, nO_No, nO_I, nO_D, nO_R, nO_N, sC_nOs, sC_nOo, qI_s, qI_I, qI_J, qI_D, qD_s, qD_D, qD_J, qD_Ix]; exact c.1.c15
            have tCn : nr < sC S_73 7 := by rw [hT]; simp (disch := omega) only [btS, beS, ou_A, ou_I, ou_C, ou_Co, ou_N, pI_A, pD_A, pR_A, nO_Ao, pI_s, pI_I, pR_s, pR_R, pD_s, pD_D, pI_C, pD_C, pR_C, pI_N, pD_N, pR_N, pD_I, pR_I, pI_J, pD_J, pR_J, pI_D, pR_D, pI_R, pD_R, nO_Io, nO_Jo, nO_Do, nO_Ro, nO_No, nO_I, nO_D, nO_R, nO_N, sC_nOs, sC_nOo, qI_s, qI_I, qI_J, qI_D, qD_s, qD_D, qD_J, qD_Ix]; omega
            have tN : sN S_73 15 0 = 4 := by rw [hT]; simp (disch := omega) only [btS, beS, ou_A, ou_I, ou_C, ou_Co, ou_N, pI_A, pD_A, pR_A, nO_Ao, pI_s, pI_I, pR_s, pR_R, pD_s, pD_D, pI_C, pD_C, pR_C, pI_N, pD_N, pR_N, pD_I, pR_I, pI_J, pD_J, pR_J, pI_D, pR_D, pI_R, pD_R, nO_Io, nO_Jo, nO_Do, nO_Ro, nO_No, nO_I, nO_D, nO_R, nO_N, sC_nOs, sC_nOo, qI_s, qI_I, qI_J, qI_D, qD_s, qD_D, qD_J, qD_Ix]; first | exact shN.1 | exact shN.2.1 | exact shN.2.2.1 | exact shN.2.2.2.1 | exact shN.2.2.2.2.1 | exact shN.2.2.2.2.2.1
            have tI : sI S_73 9 0 14 = sI S 9 0 14 := by rw [hT]; simp (disch := omega) only [btS, beS, ou_A, ou_I, ou_C, ou_Co, ou_N, pI_A, pD_A, pR_A, nO_Ao, pI_s, pI_I, pR_s, pR_R, pD_s, pD_D, pI_C, pD_C, pR_C, pI_N, pD_N, pR_N, pD_I, pR_I, pI_J, pD_J, pR_J, pI_D, pR_D, pI_R, pD_R, nO_Io, nO_Jo, nO_Do, nO_Ro, nO_No, nO_I, nO_D, nO_R, nO_N, sC_nOs, sC_nOo, qI_s, qI_I, qI_J, qI_D, qD_s, qD_D, qD_J, qD_Ix]
            rw [← tA9, ← tAa, ← tAn]
            refine j_aast (x := 15) (c0 := 8) (y := 7) (rw0 := (RX7, TX7, 3)) (q := 77) hO dX9_robot_76 rfl rfl tCa rfl rfl (fun _ => rfl) rfl (fun _ => rfl) rfl rfl (r := nr) rfl tCn (j := nr) rfl (by rw [tN]; omega) (by rw [tN]; decide) ?_
            refine j_aload_n (q := 78) hO dX9_robot_77 rfl rfl ?_
            refine j_dup (q := 79) hO dX9_robot_78 rfl rfl ?_
            refine j_getI (x := 9) (j := 14) (q := 82) hO CK_9 dX9_robot_79 rfl mw_86 rfl tC9 rfl rfl (by decide) (Or.inl rfl) ?_
            refine j_iconst (v := 1) (q := 83) hO dX9_robot_82 rfl (by decide) ?_
            refine j_iadd (q := 84) hO dX9_robot_83 rfl ?_
            refine j_putI (x := 9) (j := 14) (q := 87) hO CK_9 dX9_robot_84 rfl mw_86 rfl tC9 rfl rfl (by decide) rfl (by decide +kernel) rfl ?_
            refine j_iload (q := 89) hO dX9_robot_87 rfl rfl ?_
            exact j_iret hM dX9_robot_89 (Nat.le_of_ble_eq_true rfl) (Nat.le_of_ble_eq_true rfl) ⟨by unfold robotA; rw [kt, ← f4.1]; rfl, by rw [hT]; exact (Xw.I (Xw.R (Xw.D (Xw.D (Xw.R (Xw.new Xw.rf (by decide) (by decide) (by decide) rfl) (by decide)) rfl) rfl) (by decide)) rfl), by unfold robotF; rw [kt, enb, hT]; exact ⟨nb, nh, nu, nr + 1, nk, 0, t, CZ.robo z hlt hb (by rw [pR_I, ← hT, tI, q6])⟩⟩
          · refine j_iconst (v := (-1)) (q := 51) hO dX9_robot_50 rfl (by decide) ?_
            exact j_iret hM dX9_robot_51 (Nat.le_of_ble_eq_true rfl) (Nat.le_of_ble_eq_true rfl) ⟨by unfold robotA; rw [show kRob α (nI b) v w = false from decide_eq_false (fun q => q.2.2.2.1 c2_)]; rfl, Xw.rf, by unfold robotF; rw [show kRob α (nI b) v w = false from decide_eq_false (fun q => q.2.2.2.1 c2_)]; exact ⟨nb, nh, nu, nr, nk, np, t, z⟩⟩
set_option maxHeartbeats 4000000 in
set_option maxRecDepth 100000 in
theorem c_9_head (l : Launch) (S : St) (α : Al) (nb nh nu nr nk np t : Nat) (x : Int32) (v w : UInt64) (z : CZ S α nb nh nu nr nk np t) : Ct l yX9_head cX9_head 8 (some .int) (rm 2 1 3 44) [.ref (sA S 9 0), .int x, .double v, .double w] S (fun r S' => r = some (.int (headA α x v w)) ∧ Xw S S' ∧ Cq S' (headF α x v w)) := by
  refine Ct.of (by decide) (Nat.le_of_ble_eq_true rfl) (fun X hM => ?_)
  have hO := hM.1
  obtain rfl := hM.l
  show Jg X 0 0 S 0 [(0, .ref (sA S 9 0)), (1, .int x), (2, .double v), (4, .double w)] []
  have c := z.1
  have np60 := c.2.2.1.2.2.2.2.2.1.2
  have n6 := c.2.2.1.1.2
  have n8 := c.2.2.1.2.1.2
  have nu4 := c.2.2.1.2.2.1.2
  have nr4 := c.2.2.1.2.2.2.1.2
  have nk4 := c.2.2.1.2.2.2.2.1.2
  obtain ⟨⟨k0, k2, k1, k5, k7, k6, k4, k17⟩, ⟨q1, q2, q3, q4, q5, q6, q7⟩, -⟩ := id c.2.1
  obtain ⟨f1, f2, f3, f4, f5, f6, -⟩ := id c.2.2.1
  have shN := c.1.2.2.2
  refine j_aload_n (q := 1) hO dX9_head_0 rfl rfl ?_
  refine j_iload_n (q := 2) hO dX9_head_1 rfl rfl ?_
  refine j_callV (x := 9) (q := 5) hO (c_9_beltNumbered (lx X) _ α nb nh nu nr nk np t _ c) M_9_beltNumbered mw_205 CK_9 rfl c.1.c9 rfl rfl rfl (by unfold roomy; rw [hM.R]; exact ⟨⟨Nat.le_of_ble_eq_true rfl, Nat.le_of_ble_eq_true rfl⟩, ⟨Nat.le_of_ble_eq_true rfl, Nat.le_of_ble_eq_true rfl⟩, Nat.le_of_ble_eq_true rfl⟩) dX9_head_2 rfl (fun v_2 S_2 hp_2 => ?_)
  obtain ⟨eS, hor⟩ := hp_2
  refine Jg.same eS ?_
  clear eS
  rcases hor with ⟨ci, rfl⟩ | ⟨b, hb, rfl, rfl⟩
  · refine j_astoreN (q := 7) hO dX9_head_5 rfl (by rw [hM.nL]; decide) rfl ?_
    refine j_aload_n (q := 8) hO dX9_head_7 rfl rfl ?_
    refine j_callV (x := 9) (q := 11) hO (c_9_isClosed (lx X) _ c.1.c9) M_9_isClosed mw_128 CK_9 rfl c.1.c9 rfl rfl rfl (by unfold roomy; rw [hM.R]; exact ⟨⟨Nat.le_of_ble_eq_true rfl, Nat.le_of_ble_eq_true rfl⟩, ⟨Nat.le_of_ble_eq_true rfl, Nat.le_of_ble_eq_true rfl⟩, Nat.le_of_ble_eq_true rfl⟩) dX9_head_8 rfl (fun v_8 S_8 hp_8 => ?_)
    obtain ⟨rfl, eS⟩ := hp_8
    refine Jg.same eS ?_
    clear eS
    refine j_if_ne (tgt := 28) (q := 14) hO dX9_head_11 rfl (by decide) (fun c11 => ?_) (fun c11 => ?_)
    · refine j_iconst (v := (-1)) (q := 29) hO dX9_head_28 rfl (by decide) ?_
      exact j_iret hM dX9_head_29 (Nat.le_of_ble_eq_true rfl) (Nat.le_of_ble_eq_true rfl) ⟨by unfold headA; rw [show kHead α x v w = false from decide_eq_false (fun q => z.cl (of1 c11) q.2.2.2.2)]; rfl, Xw.rf, by unfold headF; rw [show kHead α x v w = false from decide_eq_false (fun q => z.cl (of1 c11) q.2.2.2.2)]; exact ⟨nb, nh, nu, nr, nk, np, t, z⟩⟩
    · refine j_aload_n (q := 15) hO dX9_head_14 rfl rfl ?_
      refine j_getI (x := 9) (j := 11) (q := 18) hO CK_9 dX9_head_15 rfl mw_83 rfl c.1.c9 rfl rfl (by decide) (Or.inl rfl) ?_
      refine j_bipush (v := 8) (q := 20) hO dX9_head_18 rfl (by decide) ?_
      refine j_icmp_ge (tgt := 28) (q := 23) hO dX9_head_20 rfl (by decide) (fun c20 => ?_) (fun c20 => ?_)
      · refine j_iconst (v := (-1)) (q := 29) hO dX9_head_28 rfl (by decide) ?_
        exact j_iret hM dX9_head_29 (Nat.le_of_ble_eq_true rfl) (Nat.le_of_ble_eq_true rfl) ⟨by unfold headA; rw [show kHead α x v w = false from decide_eq_false (fun q => q.1 (eq_lim2 f2.1 (by omega) (by decide) (by rw [← q3]; exact c20)))]; rfl, Xw.rf, by unfold headF; rw [show kHead α x v w = false from decide_eq_false (fun q => q.1 (eq_lim2 f2.1 (by omega) (by decide) (by rw [← q3]; exact c20)))]; exact ⟨nb, nh, nu, nr, nk, np, t, z⟩⟩
      · refine j_aloadN (q := 25) hO dX9_head_23 rfl rfl ?_
        refine j_ifnonnullN (q := 28) hO dX9_head_25 rfl ?_
        refine j_iconst (v := (-1)) (q := 29) hO dX9_head_28 rfl (by decide) ?_
        exact j_iret hM dX9_head_29 (Nat.le_of_ble_eq_true rfl) (Nat.le_of_ble_eq_true rfl) ⟨by unfold headA; rw [show kHead α x v w = false from decide_eq_false (fun q => q.2.1 ci)]; rfl, Xw.rf, by unfold headF; rw [show kHead α x v w = false from decide_eq_false (fun q => q.2.1 ci)]; exact ⟨nb, nh, nu, nr, nk, np, t, z⟩⟩
  · refine j_astore (q := 7) hO dX9_head_5 rfl (by rw [hM.nL]; decide) rfl ?_
    refine j_aload_n (q := 8) hO dX9_head_7 rfl rfl ?_
    refine j_callV (x := 9) (q := 11) hO (c_9_isClosed (lx X) _ c.1.c9) M_9_isClosed mw_128 CK_9 rfl c.1.c9 rfl rfl rfl (by unfold roomy; rw [hM.R]; exact ⟨⟨Nat.le_of_ble_eq_true rfl, Nat.le_of_ble_eq_true rfl⟩, ⟨Nat.le_of_ble_eq_true rfl, Nat.le_of_ble_eq_true rfl⟩, Nat.le_of_ble_eq_true rfl⟩) dX9_head_8 rfl (fun v_8 S_8 hp_8 => ?_)
    obtain ⟨rfl, eS⟩ := hp_8
    refine Jg.same eS ?_
    clear eS
    refine j_if_ne (tgt := 28) (q := 14) hO dX9_head_11 rfl (by decide) (fun c11 => ?_) (fun c11 => ?_)
    · refine j_iconst (v := (-1)) (q := 29) hO dX9_head_28 rfl (by decide) ?_
      exact j_iret hM dX9_head_29 (Nat.le_of_ble_eq_true rfl) (Nat.le_of_ble_eq_true rfl) ⟨by unfold headA; rw [show kHead α (nI b) v w = false from decide_eq_false (fun q => z.cl (of1 c11) q.2.2.2.2)]; rfl, Xw.rf, by unfold headF; rw [show kHead α (nI b) v w = false from decide_eq_false (fun q => z.cl (of1 c11) q.2.2.2.2)]; exact ⟨nb, nh, nu, nr, nk, np, t, z⟩⟩
    · refine j_aload_n (q := 15) hO dX9_head_14 rfl rfl ?_
      refine j_getI (x := 9) (j := 11) (q := 18) hO CK_9 dX9_head_15 rfl mw_83 rfl c.1.c9 rfl rfl (by decide) (Or.inl rfl) ?_
      refine j_bipush (v := 8) (q := 20) hO dX9_head_18 rfl (by decide) ?_
      refine j_icmp_ge (tgt := 28) (q := 23) hO dX9_head_20 rfl (by decide) (fun c20 => ?_) (fun c20 => ?_)
      · refine j_iconst (v := (-1)) (q := 29) hO dX9_head_28 rfl (by decide) ?_
        exact j_iret hM dX9_head_29 (Nat.le_of_ble_eq_true rfl) (Nat.le_of_ble_eq_true rfl) ⟨by unfold headA; rw [show kHead α (nI b) v w = false from decide_eq_false (fun q => q.1 (eq_lim2 f2.1 (by omega) (by decide) (by rw [← q3]; exact c20)))]; rfl, Xw.rf, by unfold headF; rw [show kHead α (nI b) v w = false from decide_eq_false (fun q => q.1 (eq_lim2 f2.1 (by omega) (by decide) (by rw [← q3]; exact c20)))]; exact ⟨nb, nh, nu, nr, nk, np, t, z⟩⟩
      · refine j_aload (q := 25) hO dX9_head_23 rfl rfl ?_
        refine j_ifnonnull (tgt := 30) hO dX9_head_25 (by decide) ?_
        obtain ⟨⟨-, -, eb1, eb2, -⟩, -⟩ := c.2.1.2.2.1 b hb
        obtain ⟨⟨tt, ett, tt1, tt2⟩, lnz, -⟩ := c.2.2.1.2.2.2.2.2.2.1 b hb
        have hbc : b < sC S 0 := by omega
        refine j_dload_n (q := 31) hO dX9_head_30 rfl rfl ?_
        refine j_dconst0 (q := 32) hO dX9_head_31 rfl ?_
        refine j_aload (q := 34) hO dX9_head_32 rfl rfl ?_
        refine j_getD (x := 0) (j := 2) (q := 37) hO CK_0 dX9_head_34 rfl mw_170 rfl hbc rfl rfl (by decide) rfl ?_
        refine j_callS (q := 40) hO (c_9_within (lx X) _ _ _ _) M_9_within mw_133 rfl rfl (by unfold roomy; rw [hM.R]; exact ⟨⟨Nat.le_of_ble_eq_true rfl, Nat.le_of_ble_eq_true rfl⟩, ⟨Nat.le_of_ble_eq_true rfl, Nat.le_of_ble_eq_true rfl⟩, Nat.le_of_ble_eq_true rfl⟩) dX9_head_37 rfl (fun v_37 S_37 hp_37 => ?_)
        obtain ⟨rfl, eS⟩ := hp_37
        refine Jg.same eS ?_
        clear eS
        refine j_if_eq (tgt := 53) (q := 43) hO dX9_head_40 rfl (by decide) (fun c40 => ?_) (fun c40 => ?_)
        · refine j_iconst (v := (-1)) (q := 54) hO dX9_head_53 rfl (by decide) ?_
          exact j_iret hM dX9_head_54 (Nat.le_of_ble_eq_true rfl) (Nat.le_of_ble_eq_true rfl) ⟨by unfold headA; rw [show kHead α (nI b) v w = false from decide_eq_false (fun q => q.2.2.1 (by rw [nn_nI (by omega), ← eb2]; exact c40))]; rfl, Xw.rf, by unfold headF; rw [show kHead α (nI b) v w = false from decide_eq_false (fun q => q.2.2.1 (by rw [nn_nI (by omega), ← eb2]; exact c40))]; exact ⟨nb, nh, nu, nr, nk, np, t, z⟩⟩
        · refine j_dload (q := 45) hO dX9_head_43 rfl rfl ?_
          refine j_dconst0 (q := 46) hO dX9_head_45 rfl ?_
          refine j_dconst1 (q := 47) hO dX9_head_46 rfl ?_
          refine j_callS (q := 50) hO (c_9_within (lx X) _ _ _ _) M_9_within mw_133 rfl rfl (by unfold roomy; rw [hM.R]; exact ⟨⟨Nat.le_of_ble_eq_true rfl, Nat.le_of_ble_eq_true rfl⟩, ⟨Nat.le_of_ble_eq_true rfl, Nat.le_of_ble_eq_true rfl⟩, Nat.le_of_ble_eq_true rfl⟩) dX9_head_47 rfl (fun v_47 S_47 hp_47 => ?_)
          obtain ⟨rfl, eS⟩ := hp_47
          refine Jg.same eS ?_
          clear eS
          refine j_if_ne (tgt := 55) (q := 53) hO dX9_head_50 rfl (by decide) (fun c50 => ?_) (fun c50 => ?_)
          · have h26 := z.op (of0 c11)
            obtain rfl := z.np0 h26
            have hlt := lt_lim2 (q3.trans f2.1) (by omega) (by decide) c20
            have hcb : sI S 9 0 11 = nI nh := q3.trans f2.1
            have nbb : nn (nI b) = b := nn_nI (by omega)
            have kt : kHead α (nI b) v w = true := decide_eq_true ⟨ne_lim f2.1 (by omega) (by decide) hlt, iB_of f1.1 n6 hb, by rw [nbb, ← eb2]; exact c40, c50, h26⟩
            have enb : nn (aI α 0 9) = nh := by rw [f2.1]; exact nn_nI (by omega)
            refine j_aload_n (q := 56) hO dX9_head_55 rfl rfl ?_
            refine j_getI (x := 9) (j := 11) (q := 59) hO CK_9 dX9_head_56 rfl mw_83 rfl c.1.c9 rfl rfl (by decide) (Or.inl rfl) ?_
            rw [hcb]
            refine j_istore (q := 61) hO dX9_head_59 rfl (by rw [hM.nL]; decide) rfl ?_
            refine j_aload_n (q := 62) hO dX9_head_61 rfl rfl ?_
            refine j_getRs (x := 9) (j := 2) (q := 65) hO CK_9 dX9_head_62 rfl mw_74 rfl c.1.c9 rfl rfl (by decide) rfl c.1.r2 ?_
            refine j_iload (q := 67) hO dX9_head_65 rfl rfl ?_
            refine j_newh (h := nh) (x := 2) (q := 70) hO CK_2 dX9_head_67 rfl mw_23 mw_209 mw_7 rfl rfl dv_2 (by rw [hM.R]; exact ⟨Nat.le_of_ble_eq_true rfl, Nat.le_of_ble_eq_true rfl⟩) k2 (fun a67 => ?_)
            refine j_dup (q := 71) hO dX9_head_70 rfl rfl ?_
            refine j_aload (q := 73) hO dX9_head_71 rfl rfl ?_
            refine j_aload (q := 75) hO dX9_head_73 rfl rfl ?_
            refine j_dload_n (q := 76) hO dX9_head_75 rfl rfl ?_
            refine j_callV (x := 0) (q := 79) hO (c_0_placeOf (lx X) _ b _ (by rw [sC_nOo (by decide)]; exact hbc) (by rw [(show sD (nO S 2 a67 0) 0 b 2 = aD α 2 b from (nO_Do (by decide)).trans eb2)]; exact n64_of (ddiv_ok (wi_ok c40) lnz)) (by rw [(show sD (nO S 2 a67 0) 0 b 2 = aD α 2 b from (nO_Do (by decide)).trans eb2), (show sI (nO S 2 a67 0) 0 b 1 = aI α 1 b from (nO_Io (by decide)).trans eb1), ett]; exact n64_of (dmul_okz (ddiv_ok (wi_ok c40) lnz) (i2d_nz tt (by omega) (by omega))))) M_0_placeOf mw_210 CK_0 rfl (by rw [sC_nOo (by decide)]; exact hbc) rfl rfl rfl (by unfold roomy; rw [hM.R]; exact ⟨⟨Nat.le_of_ble_eq_true rfl, Nat.le_of_ble_eq_true rfl⟩, ⟨Nat.le_of_ble_eq_true rfl, Nat.le_of_ble_eq_true rfl⟩, Nat.le_of_ble_eq_true rfl⟩) dX9_head_76 rfl (fun v_76 S_76 hp_76 => ?_)
            obtain ⟨rfl, rfl⟩ := hp_76
            rw [(show sD (nO S 2 a67 0) 0 b 2 = aD α 2 b from (nO_Do (by decide)).trans eb2), (show sI (nO S 2 a67 0) 0 b 1 = aI α 1 b from (nO_Io (by decide)).trans eb1)]
            refine j_dload (q := 81) hO dX9_head_79 rfl rfl ?_
            refine j_callI (q := 84) hO (c_2_init (lx X) _ nh b _ _ (by rw [sC_nOs]; omega) (by rw [sC_nOo (by decide)]; exact hbc)) M_2_init mw_214 rfl rfl (by unfold roomy; rw [hM.R]; exact ⟨⟨Nat.le_of_ble_eq_true rfl, Nat.le_of_ble_eq_true rfl⟩, ⟨Nat.le_of_ble_eq_true rfl, Nat.le_of_ble_eq_true rfl⟩, Nat.le_of_ble_eq_true rfl⟩) dX9_head_81 rfl (fun v_81 S_81 hp_81 => ?_)
            obtain ⟨rfl, hT⟩ := hp_81
            have tA9 : sA S_81 9 0 = sA S 9 0 := by rw [hT]; simp (disch := omega) only [btS, beS, ou_A, ou_I, ou_C, ou_Co, ou_N, pI_A, pD_A, pR_A, nO_Ao, pI_s, pI_I, pR_s, pR_R, pD_s, pD_D, pI_C, pD_C, pR_C, pI_N, pD_N, pR_N, pD_I, pR_I, pI_J, pD_J, pR_J, pI_D, pR_D, pI_R, pD_R, nO_Io, nO_Jo, nO_Do, nO_Ro, nO_No, nO_I, nO_D, nO_R, nO_N, sC_nOs, sC_nOo, qI_s, qI_I, qI_J, qI_D, qD_s, qD_D, qD_J, qD_Ix]
            have tAa : sA S_81 12 0 = sA S (kn_r 9 2) 0 := by rw [show kn_r 9 2 = 12 from rfl, hT]; simp (disch := omega) only [btS, beS, ou_A, ou_I, ou_C, ou_Co, ou_N, pI_A, pD_A, pR_A, nO_Ao, pI_s, pI_I, pR_s, pR_R, pD_s, pD_D, pI_C, pD_C, pR_C, pI_N, pD_N, pR_N, pD_I, pR_I, pI_J, pD_J, pR_J, pI_D, pR_D, pI_R, pD_R, nO_Io, nO_Jo, nO_Do, nO_Ro, nO_No, nO_I, nO_D, nO_R, nO_N, sC_nOs, sC_nOo, qI_s, qI_I, qI_J, qI_D, qD_s, qD_D, qD_J, qD_Ix]
            have tAn : sA S_81 2 nh = sA (nO S 2 a67 0) 2 nh := by rw [hT]; simp (disch := omega) only [btS, beS, ou_A, ou_I, ou_C, ou_Co, ou_N, pI_A, pD_A, pR_A, nO_Ao, pI_s, pI_I, pR_s, pR_R, pD_s, pD_D, pI_C, pD_C, pR_C, pI_N, pD_N, pR_N, pD_I, pR_I, pI_J, pD_J, pR_J, pI_D, pR_D, pI_R, pD_R, nO_Io, nO_Jo, nO_Do, nO_Ro, nO_No, nO_I, nO_D, nO_R, nO_N, sC_nOs, sC_nOo, qI_s, qI_I, qI_J, qI_D, qD_s, qD_D, qD_J, qD_Ix]
            have tC9 : 0 < sC S_81 9 := by rw [hT]; simp (disch := omega) only [btS, beS, ou_A, ou_I, ou_C, ou_Co, ou_N, pI_A, pD_A, pR_A, nO_Ao, pI_s, pI_I, pR_s, pR_R, pD_s, pD_D, pI_C, pD_C, pR_C, pI_N, pD_N, pR_N, pD_I, pR_I, pI_J, pD_J, pR_J, pI_D, pR_D, pI_R, pD_R, nO_Io, nO_Jo, nO_Do, nO_Ro, nO_No, nO_I, nO_D, nO_R, nO_N, sC_nOs, sC_nOo, qI_s, qI_I, qI_J, qI_D, qD_s, qD_D, qD_J, qD_Ix]; exact c.1.c9
            have tCa : 0 < sC S_81 12 := by rw [hT]; simp (disch := omega) only [btS, beS, ou_A, ou_I, ou_C, ou_Co, ou_N, pI_A, pD_A, pR_A, nO_Ao, pI_s, pI_I, pR_s, pR_R, pD_s, pD_D, pI_C, pD_C, pR_C, pI_N, pD_N, pR_N, pD_I, pR_I, pI_J, pD_J, pR_J, pI_D, pR_D, pI_R, pD_R, nO_Io, nO_Jo, nO_Do, nO_Ro, nO_No, nO_I, nO_D, nO_R, nO_N, sC_nOs, sC_nOo, qI_s, qI_I, qI_J, qI_D, qD_s, qD_D, qD_J, qD_Ix]; exact c.1.c12
            have tCn : nh < sC S_81 2 := by rw [hT]; simp (disch := omega) only [btS, beS, ou_A, ou_I, ou_C, ou_Co, ou_N, pI_A, pD_A, pR_A, nO_Ao, pI_s, pI_I, pR_s, pR_R, pD_s, pD_D, pI_C, pD_C, pR_C, pI_N, pD_N, pR_N, pD_I, pR_I, pI_J, pD_J, pR_J, pI_D, pR_D, pI_R, pD_R, nO_Io, nO_Jo, nO_Do, nO_Ro, nO_No, nO_I, nO_D, nO_R, nO_N, sC_nOs, sC_nOo, qI_s, qI_I, qI_J, qI_D, qD_s, qD_D, qD_J, qD_Ix]; omega
            have tN : sN S_81 12 0 = 8 := by rw [hT]; simp (disch := omega) only [btS, beS, ou_A, ou_I, ou_C, ou_Co, ou_N, pI_A, pD_A, pR_A, nO_Ao, pI_s, pI_I, pR_s, pR_R, pD_s, pD_D, pI_C, pD_C, pR_C, pI_N, pD_N, pR_N, pD_I, pR_I, pI_J, pD_J, pR_J, pI_D, pR_D, pI_R, pD_R, nO_Io, nO_Jo, nO_Do, nO_Ro, nO_No, nO_I, nO_D, nO_R, nO_N, sC_nOs, sC_nOo, qI_s, qI_I, qI_J, qI_D, qD_s, qD_D, qD_J, qD_Ix]; first | exact shN.1 | exact shN.2.1 | exact shN.2.2.1 | exact shN.2.2.2.1 | exact shN.2.2.2.2.1 | exact shN.2.2.2.2.2.1
            have tI : sI S_81 9 0 11 = sI S 9 0 11 := by rw [hT]; simp (disch := omega) only [btS, beS, ou_A, ou_I, ou_C, ou_Co, ou_N, pI_A, pD_A, pR_A, nO_Ao, pI_s, pI_I, pR_s, pR_R, pD_s, pD_D, pI_C, pD_C, pR_C, pI_N, pD_N, pR_N, pD_I, pR_I, pI_J, pD_J, pR_J, pI_D, pR_D, pI_R, pD_R, nO_Io, nO_Jo, nO_Do, nO_Ro, nO_No, nO_I, nO_D, nO_R, nO_N, sC_nOs, sC_nOo, qI_s, qI_I, qI_J, qI_D, qD_s, qD_D, qD_J, qD_Ix]
            rw [← tA9, ← tAa, ← tAn]
            refine j_aast (x := 12) (c0 := 5) (y := 2) (rw0 := (RX2, TX2, 3)) (q := 85) hO dX9_head_84 rfl rfl tCa rfl rfl (fun _ => rfl) rfl (fun _ => rfl) rfl rfl (r := nh) rfl tCn (j := nh) rfl (by rw [tN]; omega) (by rw [tN]; decide) ?_
            refine j_aload_n (q := 86) hO dX9_head_85 rfl rfl ?_
            refine j_dup (q := 87) hO dX9_head_86 rfl rfl ?_
            refine j_getI (x := 9) (j := 11) (q := 90) hO CK_9 dX9_head_87 rfl mw_83 rfl tC9 rfl rfl (by decide) (Or.inl rfl) ?_
            refine j_iconst (v := 1) (q := 91) hO dX9_head_90 rfl (by decide) ?_
            refine j_iadd (q := 92) hO dX9_head_91 rfl ?_
            refine j_putI (x := 9) (j := 11) (q := 95) hO CK_9 dX9_head_92 rfl mw_83 rfl tC9 rfl rfl (by decide) rfl (by decide +kernel) rfl ?_
            refine j_iload (q := 97) hO dX9_head_95 rfl rfl ?_
            exact j_iret hM dX9_head_97 (Nat.le_of_ble_eq_true rfl) (Nat.le_of_ble_eq_true rfl) ⟨by unfold headA; rw [kt, ← f2.1]; rfl, by rw [hT]; exact (Xw.I (Xw.R (Xw.D (Xw.I (Xw.R (Xw.new Xw.rf (by decide) (by decide) (by decide) rfl) (by decide)) rfl) rfl) (by decide)) rfl), by unfold headF; rw [kt, enb, nbb, hT]; exact ⟨nb, nh + 1, nu, nr, nk, 0, t, CZ.head z hlt hb (by rw [pR_I, ← hT, tI, q3])⟩⟩
          · refine j_iconst (v := (-1)) (q := 54) hO dX9_head_53 rfl (by decide) ?_
            exact j_iret hM dX9_head_54 (Nat.le_of_ble_eq_true rfl) (Nat.le_of_ble_eq_true rfl) ⟨by unfold headA; rw [show kHead α (nI b) v w = false from decide_eq_false (fun q => q.2.2.2.1 c50)]; rfl, Xw.rf, by unfold headF; rw [show kHead α (nI b) v w = false from decide_eq_false (fun q => q.2.2.2.1 c50)]; exact ⟨nb, nh, nu, nr, nk, np, t, z⟩⟩
set_option maxHeartbeats 4000000 in
set_option maxRecDepth 100000 in
theorem c_9_feed (l : Launch) (S : St) (α : Al) (nb nh nu nr nk np t : Nat) (x y kd : Int32) (w : UInt64) (z : CZ S α nb nh nu nr nk np t) : Ct l yX9_feed cX9_feed 7 (some .boolean) (rm 2 1 8 46) [.ref (sA S 9 0), .int x, .int y, .int kd, .double w] S (fun r S' => r = some (.int (boA (kFeed α x y kd w))) ∧ Xw S S' ∧ Cq S' (feedF α x y kd w)) := by
  refine Ct.of (by decide) (Nat.le_of_ble_eq_true rfl) (fun X hM => ?_)
  have hO := hM.1
  obtain rfl := hM.l
  show Jg X 0 0 S 0 [(0, .ref (sA S 9 0)), (1, .int x), (2, .int y), (3, .int kd), (4, .double w)] []
  have c := z.1
  have np60 := c.2.2.1.2.2.2.2.2.1.2
  have n6 := c.2.2.1.1.2
  have n8 := c.2.2.1.2.1.2
  have nu4 := c.2.2.1.2.2.1.2
  have nr4 := c.2.2.1.2.2.2.1.2
  have nk4 := c.2.2.1.2.2.2.2.1.2
  obtain ⟨⟨k0, k2, k1, k5, k7, k6, k4, k17⟩, ⟨q1, q2, q3, q4, q5, q6, q7⟩, -⟩ := id c.2.1
  obtain ⟨f1, f2, f3, f4, f5, f6, -⟩ := id c.2.2.1
  have shN := c.1.2.2.2
  refine j_aload_n (q := 1) hO dX9_feed_0 rfl rfl ?_
  refine j_iload_n (q := 2) hO dX9_feed_1 rfl rfl ?_
  refine j_callV (x := 9) (q := 5) hO (c_9_beltNumbered (lx X) _ α nb nh nu nr nk np t _ c) M_9_beltNumbered mw_205 CK_9 rfl c.1.c9 rfl rfl rfl (by unfold roomy; rw [hM.R]; exact ⟨⟨Nat.le_of_ble_eq_true rfl, Nat.le_of_ble_eq_true rfl⟩, ⟨Nat.le_of_ble_eq_true rfl, Nat.le_of_ble_eq_true rfl⟩, Nat.le_of_ble_eq_true rfl⟩) dX9_feed_2 rfl (fun v_2 S_2 hp_2 => ?_)
  obtain ⟨eS, hor⟩ := hp_2
  refine Jg.same eS ?_
  clear eS
  rcases hor with ⟨ci, rfl⟩ | ⟨b, hb, rfl, rfl⟩
  · refine j_astoreN (q := 7) hO dX9_feed_5 rfl (by rw [hM.nL]; decide) rfl ?_
    refine j_aload_n (q := 8) hO dX9_feed_7 rfl rfl ?_
    refine j_getI (x := 9) (j := 15) (q := 11) hO CK_9 dX9_feed_8 rfl mw_87 rfl c.1.c9 rfl rfl (by decide) (Or.inl rfl) ?_
    refine j_bipush (v := 60) (q := 13) hO dX9_feed_11 rfl (by decide) ?_
    refine j_icmp_ge (tgt := 28) (q := 16) hO dX9_feed_13 rfl (by decide) (fun c13 => ?_) (fun c13 => ?_)
    · refine j_iconst (v := 0) (q := 29) hO dX9_feed_28 rfl (by decide) ?_
      exact j_zret hM dX9_feed_29 (Nat.le_of_ble_eq_true rfl) (Nat.le_of_ble_eq_true rfl) (by decide) ⟨by unfold boA; rw [show kFeed α x y kd w = false from decide_eq_false (fun q => q.1 (eq_lim2 f6.1 (by omega) (by decide) (by rw [← q7]; exact c13)))]; rfl, Xw.rf, by unfold feedF; rw [show kFeed α x y kd w = false from decide_eq_false (fun q => q.1 (eq_lim2 f6.1 (by omega) (by decide) (by rw [← q7]; exact c13)))]; exact ⟨nb, nh, nu, nr, nk, np, t, z⟩⟩
    · refine j_aloadN (q := 18) hO dX9_feed_16 rfl rfl ?_
      refine j_ifnullN (tgt := 28) hO dX9_feed_18 (by decide) ?_
      refine j_iconst (v := 0) (q := 29) hO dX9_feed_28 rfl (by decide) ?_
      exact j_zret hM dX9_feed_29 (Nat.le_of_ble_eq_true rfl) (Nat.le_of_ble_eq_true rfl) (by decide) ⟨by unfold boA; rw [show kFeed α x y kd w = false from decide_eq_false (fun q => q.2.1 ci)]; rfl, Xw.rf, by unfold feedF; rw [show kFeed α x y kd w = false from decide_eq_false (fun q => q.2.1 ci)]; exact ⟨nb, nh, nu, nr, nk, np, t, z⟩⟩
  · refine j_astore (q := 7) hO dX9_feed_5 rfl (by rw [hM.nL]; decide) rfl ?_
    refine j_aload_n (q := 8) hO dX9_feed_7 rfl rfl ?_
    refine j_getI (x := 9) (j := 15) (q := 11) hO CK_9 dX9_feed_8 rfl mw_87 rfl c.1.c9 rfl rfl (by decide) (Or.inl rfl) ?_
    refine j_bipush (v := 60) (q := 13) hO dX9_feed_11 rfl (by decide) ?_
    refine j_icmp_ge (tgt := 28) (q := 16) hO dX9_feed_13 rfl (by decide) (fun c13 => ?_) (fun c13 => ?_)
    · refine j_iconst (v := 0) (q := 29) hO dX9_feed_28 rfl (by decide) ?_
      exact j_zret hM dX9_feed_29 (Nat.le_of_ble_eq_true rfl) (Nat.le_of_ble_eq_true rfl) (by decide) ⟨by unfold boA; rw [show kFeed α (nI b) y kd w = false from decide_eq_false (fun q => q.1 (eq_lim2 f6.1 (by omega) (by decide) (by rw [← q7]; exact c13)))]; rfl, Xw.rf, by unfold feedF; rw [show kFeed α (nI b) y kd w = false from decide_eq_false (fun q => q.1 (eq_lim2 f6.1 (by omega) (by decide) (by rw [← q7]; exact c13)))]; exact ⟨nb, nh, nu, nr, nk, np, t, z⟩⟩
    · refine j_aload (q := 18) hO dX9_feed_16 rfl rfl ?_
      refine j_ifnull (q := 21) hO dX9_feed_18 rfl ?_
      refine j_iload_n (q := 22) hO dX9_feed_21 rfl rfl ?_
      refine j_callS (q := 25) hO (c_9_isKind (lx X) _ _) M_9_isKind mw_321 rfl rfl (by unfold roomy; rw [hM.R]; exact ⟨⟨Nat.le_of_ble_eq_true rfl, Nat.le_of_ble_eq_true rfl⟩, ⟨Nat.le_of_ble_eq_true rfl, Nat.le_of_ble_eq_true rfl⟩, Nat.le_of_ble_eq_true rfl⟩) dX9_feed_22 rfl (fun v_22 S_22 hp_22 => ?_)
      obtain ⟨rfl, eS⟩ := hp_22
      refine Jg.same eS ?_
      clear eS
      refine j_if_ne (tgt := 30) (q := 28) hO dX9_feed_25 rfl (by decide) (fun c25 => ?_) (fun c25 => ?_)
      · refine j_iload_n (q := 31) hO dX9_feed_30 rfl rfl ?_
        refine j_aload_n (q := 32) hO dX9_feed_31 rfl rfl ?_
        refine j_getI (x := 9) (j := 16) (q := 35) hO CK_9 dX9_feed_32 rfl mw_88 rfl c.1.c9 rfl rfl (by decide) (Or.inl rfl) ?_
        refine j_icmp_le (tgt := 57) (q := 38) hO dX9_feed_35 rfl (by decide) (fun c35 => ?_) (fun c35 => ?_)
        · refine j_iconst (v := 0) (q := 58) hO dX9_feed_57 rfl (by decide) ?_
          exact j_zret hM dX9_feed_58 (Nat.le_of_ble_eq_true rfl) (Nat.le_of_ble_eq_true rfl) (by decide) ⟨by unfold boA; rw [show kFeed α (nI b) y kd w = false from decide_eq_false (fun q => q.2.2.1 (by rw [← c.2.2.2.1.1]; exact c35))]; rfl, Xw.rf, by unfold feedF; rw [show kFeed α (nI b) y kd w = false from decide_eq_false (fun q => q.2.2.1 (by rw [← c.2.2.2.1.1]; exact c35))]; exact ⟨nb, nh, nu, nr, nk, np, t, z⟩⟩
        · refine j_iload_n (q := 39) hO dX9_feed_38 rfl rfl ?_
          refine j_sipush (v := 10000) (q := 42) hO dX9_feed_39 rfl (by decide) ?_
          refine j_icmp_gt (tgt := 57) (q := 45) hO dX9_feed_42 rfl (by decide) (fun c42 => ?_) (fun c42 => ?_)
          · refine j_iconst (v := 0) (q := 58) hO dX9_feed_57 rfl (by decide) ?_
            exact j_zret hM dX9_feed_58 (Nat.le_of_ble_eq_true rfl) (Nat.le_of_ble_eq_true rfl) (by decide) ⟨by unfold boA; rw [show kFeed α (nI b) y kd w = false from decide_eq_false (fun q => q.2.2.2.1 c42)]; rfl, Xw.rf, by unfold feedF; rw [show kFeed α (nI b) y kd w = false from decide_eq_false (fun q => q.2.2.2.1 c42)]; exact ⟨nb, nh, nu, nr, nk, np, t, z⟩⟩
          · refine j_dload (q := 47) hO dX9_feed_45 rfl rfl ?_
            refine j_dconst0 (q := 48) hO dX9_feed_47 rfl ?_
            refine j_ldc2d (q := 51) hO dX9_feed_48 rfl mw_271 ?_
            refine j_callS (q := 54) hO (c_9_within (lx X) _ _ _ _) M_9_within mw_133 rfl rfl (by unfold roomy; rw [hM.R]; exact ⟨⟨Nat.le_of_ble_eq_true rfl, Nat.le_of_ble_eq_true rfl⟩, ⟨Nat.le_of_ble_eq_true rfl, Nat.le_of_ble_eq_true rfl⟩, Nat.le_of_ble_eq_true rfl⟩) dX9_feed_51 rfl (fun v_51 S_51 hp_51 => ?_)
            obtain ⟨rfl, eS⟩ := hp_51
            refine Jg.same eS ?_
            clear eS
            refine j_if_ne (tgt := 59) (q := 57) hO dX9_feed_54 rfl (by decide) (fun c54 => ?_) (fun c54 => ?_)
            · have hlt := lt_lim2 (q7.trans f6.1) (by omega) (by decide) c13
              have hcb : sI S 9 0 15 = nI np := q7.trans f6.1
              have hbc : b < sC S 0 := by omega
              obtain ⟨kk, hkk, rfl⟩ := ik_in c25
              have d1 := c.2.2.2.1.1
              have nw := c.2.2.2.2.2.1
              obtain ⟨e, ⟨he1, he2⟩, rfl⟩ := run_in (d1.trans nw.1) (by omega) (fun q => c35 (Int32.le_of_lt q)) (Int32.not_lt.mp c42)
              have he : t < e := by
                rcases Nat.lt_or_ge t e with q | q
                · exact q
                · exact absurd (by rw [d1, nw.1]; exact nI_le q (by omega)) c35
              have kt : kFeed α (nI b) (nI e) (nI kk) w = true := decide_eq_true ⟨ne_lim f6.1 (by omega) (by decide) hlt, iB_of f1.1 n6 hb, by rw [← d1]; exact c35, c42, nI_pos (by omega), (nI_ge hkk (by decide) : ¬ nI 5 ≤ nI kk), c54⟩
              have enb : nn (aI α 0 26) = np := by rw [f6.1]; exact nn_nI (by omega)
              refine j_aload_n (q := 60) hO dX9_feed_59 rfl rfl ?_
              refine j_getRs (x := 9) (j := 6) (q := 63) hO CK_9 dX9_feed_60 rfl mw_78 rfl c.1.c9 rfl rfl (by decide) rfl c.1.r6 ?_
              refine j_aload_n (q := 64) hO dX9_feed_63 rfl rfl ?_
              refine j_getI (x := 9) (j := 15) (q := 67) hO CK_9 dX9_feed_64 rfl mw_87 rfl c.1.c9 rfl rfl (by decide) (Or.inl rfl) ?_
              rw [hcb]
              refine j_newh (h := np) (x := 6) (q := 70) hO CK_6 dX9_feed_67 rfl mw_31 mw_324 mw_11 rfl rfl dv_6 (by rw [hM.R]; exact ⟨Nat.le_of_ble_eq_true rfl, Nat.le_of_ble_eq_true rfl⟩) k6 (fun a67 => ?_)
              refine j_dup (q := 71) hO dX9_feed_70 rfl rfl ?_
              refine j_aload_n (q := 72) hO dX9_feed_71 rfl rfl ?_
              refine j_getI (x := 9) (j := 15) (q := 75) hO CK_9 dX9_feed_72 rfl mw_87 rfl (by rw [sC_nOo (by decide)]; exact c.1.c9) rfl rfl (by decide) (Or.inl rfl) ?_
              rw [show sI (nO S 6 a67 0) 9 0 15 = nI np from (nO_Io (by decide)).trans hcb]
              refine j_aload (q := 77) hO dX9_feed_75 rfl rfl ?_
              refine j_iload_n (q := 78) hO dX9_feed_77 rfl rfl ?_
              refine j_iload_n (q := 79) hO dX9_feed_78 rfl rfl ?_
              refine j_dload (q := 81) hO dX9_feed_79 rfl rfl ?_
              refine j_callI (q := 84) hO (c_6_init (lx X) _ np b _ _ _ _ (by rw [sC_nOs]; omega) (by rw [sC_nOo (by decide)]; exact hbc)) M_6_init mw_325 rfl rfl (by unfold roomy; rw [hM.R]; exact ⟨⟨Nat.le_of_ble_eq_true rfl, Nat.le_of_ble_eq_true rfl⟩, ⟨Nat.le_of_ble_eq_true rfl, Nat.le_of_ble_eq_true rfl⟩, Nat.le_of_ble_eq_true rfl⟩) dX9_feed_81 rfl (fun v_81 S_81 hp_81 => ?_)
              obtain ⟨rfl, hT⟩ := hp_81
              have tA9 : sA S_81 9 0 = sA S 9 0 := by rw [hT]; simp (disch := omega) only [btS, beS, ou_A, ou_I, ou_C, ou_Co, ou_N, pI_A, pD_A, pR_A, nO_Ao, pI_s, pI_I, pR_s, pR_R, pD_s, pD_D, pI_C, pD_C, pR_C, pI_N, pD_N, pR_N, pD_I, pR_I, pI_J, pD_J, pR_J, pI_D, pR_D, pI_R, pD_R, nO_Io, nO_Jo, nO_Do, nO_Ro, nO_No, nO_I, nO_D, nO_R, nO_N, sC_nOs, sC_nOo, qI_s, qI_I, qI_J, qI_D, qD_s, qD_D, qD_J, qD_Ix]
              have tAa : sA S_81 16 0 = sA S (kn_r 9 6) 0 := by rw [show kn_r 9 6 = 16 from rfl, hT]; simp (disch := omega) only [btS, beS, ou_A, ou_I, ou_C, ou_Co, ou_N, pI_A, pD_A, pR_A, nO_Ao, pI_s, pI_I, pR_s, pR_R, pD_s, pD_D, pI_C, pD_C, pR_C, pI_N, pD_N, pR_N, pD_I, pR_I, pI_J, pD_J, pR_J, pI_D, pR_D, pI_R, pD_R, nO_Io, nO_Jo, nO_Do, nO_Ro, nO_No, nO_I, nO_D, nO_R, nO_N, sC_nOs, sC_nOo, qI_s, qI_I, qI_J, qI_D, qD_s, qD_D, qD_J, qD_Ix]
              have tAn : sA S_81 6 np = sA (nO S 6 a67 0) 6 np := by rw [hT]; simp (disch := omega) only [btS, beS, ou_A, ou_I, ou_C, ou_Co, ou_N, pI_A, pD_A, pR_A, nO_Ao, pI_s, pI_I, pR_s, pR_R, pD_s, pD_D, pI_C, pD_C, pR_C, pI_N, pD_N, pR_N, pD_I, pR_I, pI_J, pD_J, pR_J, pI_D, pR_D, pI_R, pD_R, nO_Io, nO_Jo, nO_Do, nO_Ro, nO_No, nO_I, nO_D, nO_R, nO_N, sC_nOs, sC_nOo, qI_s, qI_I, qI_J, qI_D, qD_s, qD_D, qD_J, qD_Ix]
              have tC9 : 0 < sC S_81 9 := by rw [hT]; simp (disch := omega) only [btS, beS, ou_A, ou_I, ou_C, ou_Co, ou_N, pI_A, pD_A, pR_A, nO_Ao, pI_s, pI_I, pR_s, pR_R, pD_s, pD_D, pI_C, pD_C, pR_C, pI_N, pD_N, pR_N, pD_I, pR_I, pI_J, pD_J, pR_J, pI_D, pR_D, pI_R, pD_R, nO_Io, nO_Jo, nO_Do, nO_Ro, nO_No, nO_I, nO_D, nO_R, nO_N, sC_nOs, sC_nOo, qI_s, qI_I, qI_J, qI_D, qD_s, qD_D, qD_J, qD_Ix]; exact c.1.c9
              have tCa : 0 < sC S_81 16 := by rw [hT]; simp (disch := omega) only [btS, beS, ou_A, ou_I, ou_C, ou_Co, ou_N, pI_A, pD_A, pR_A, nO_Ao, pI_s, pI_I, pR_s, pR_R, pD_s, pD_D, pI_C, pD_C, pR_C, pI_N, pD_N, pR_N, pD_I, pR_I, pI_J, pD_J, pR_J, pI_D, pR_D, pI_R, pD_R, nO_Io, nO_Jo, nO_Do, nO_Ro, nO_No, nO_I, nO_D, nO_R, nO_N, sC_nOs, sC_nOo, qI_s, qI_I, qI_J, qI_D, qD_s, qD_D, qD_J, qD_Ix]; exact c.1.c16
              have tCn : np < sC S_81 6 := by rw [hT]; simp (disch := omega) only [btS, beS, ou_A, ou_I, ou_C, ou_Co, ou_N, pI_A, pD_A, pR_A, nO_Ao, pI_s, pI_I, pR_s, pR_R, pD_s, pD_D, pI_C, pD_C, pR_C, pI_N, pD_N, pR_N, pD_I, pR_I, pI_J, pD_J, pR_J, pI_D, pR_D, pI_R, pD_R, nO_Io, nO_Jo, nO_Do, nO_Ro, nO_No, nO_I, nO_D, nO_R, nO_N, sC_nOs, sC_nOo, qI_s, qI_I, qI_J, qI_D, qD_s, qD_D, qD_J, qD_Ix]; omega
              have tN : sN S_81 16 0 = 60 := by rw [hT]; simp (disch := omega) only [btS, beS, ou_A, ou_I, ou_C, ou_Co, ou_N, pI_A, pD_A, pR_A, nO_Ao, pI_s, pI_I, pR_s, pR_R, pD_s, pD_D, pI_C, pD_C, pR_C, pI_N, pD_N, pR_N, pD_I, pR_I, pI_J, pD_J, pR_J, pI_D, pR_D, pI_R, pD_R, nO_Io, nO_Jo, nO_Do, nO_Ro, nO_No, nO_I, nO_D, nO_R, nO_N, sC_nOs, sC_nOo, qI_s, qI_I, qI_J, qI_D, qD_s, qD_D, qD_J, qD_Ix]; first | exact shN.1 | exact shN.2.1 | exact shN.2.2.1 | exact shN.2.2.2.1 | exact shN.2.2.2.2.1 | exact shN.2.2.2.2.2.1
              have tI : sI S_81 9 0 15 = sI S 9 0 15 := by rw [hT]; simp (disch := omega) only [btS, beS, ou_A, ou_I, ou_C, ou_Co, ou_N, pI_A, pD_A, pR_A, nO_Ao, pI_s, pI_I, pR_s, pR_R, pD_s, pD_D, pI_C, pD_C, pR_C, pI_N, pD_N, pR_N, pD_I, pR_I, pI_J, pD_J, pR_J, pI_D, pR_D, pI_R, pD_R, nO_Io, nO_Jo, nO_Do, nO_Ro, nO_No, nO_I, nO_D, nO_R, nO_N, sC_nOs, sC_nOo, qI_s, qI_I, qI_J, qI_D, qD_s, qD_D, qD_J, qD_Ix]
              rw [← tA9, ← tAa, ← tAn]
              refine j_aast (x := 16) (c0 := 9) (y := 6) (rw0 := (RX6, TX6, 8)) (q := 85) hO dX9_feed_84 rfl rfl tCa rfl rfl (fun _ => rfl) rfl (fun _ => rfl) rfl rfl (r := np) rfl tCn (j := np) rfl (by rw [tN]; omega) (by rw [tN]; decide) ?_
              refine j_aload_n (q := 86) hO dX9_feed_85 rfl rfl ?_
              refine j_dup (q := 87) hO dX9_feed_86 rfl rfl ?_
              refine j_getI (x := 9) (j := 15) (q := 90) hO CK_9 dX9_feed_87 rfl mw_87 rfl tC9 rfl rfl (by decide) (Or.inl rfl) ?_
              refine j_iconst (v := 1) (q := 91) hO dX9_feed_90 rfl (by decide) ?_
              refine j_iadd (q := 92) hO dX9_feed_91 rfl ?_
              refine j_putI (x := 9) (j := 15) (q := 95) hO CK_9 dX9_feed_92 rfl mw_87 rfl tC9 rfl rfl (by decide) rfl (by decide +kernel) rfl ?_
              refine j_iconst (v := 1) (q := 96) hO dX9_feed_95 rfl (by decide) ?_
              exact j_zret hM dX9_feed_96 (Nat.le_of_ble_eq_true rfl) (Nat.le_of_ble_eq_true rfl) (by decide) ⟨by unfold boA; rw [kt]; rfl, by rw [hT]; exact (Xw.I (Xw.R (Xw.D (Xw.I (Xw.I (Xw.R (Xw.I (Xw.new Xw.rf (by decide) (by decide) (by decide) rfl) rfl) (by decide)) rfl) rfl) rfl) (by decide)) rfl), by unfold feedF; rw [kt, enb, hT]; exact ⟨nb, nh, nu, nr, nk, np + 1, t, CZ.feed z hlt hb he he2 hkk (fn_10 c54).1 (by rw [pR_I, ← hT, tI, q7])⟩⟩
            · refine j_iconst (v := 0) (q := 58) hO dX9_feed_57 rfl (by decide) ?_
              exact j_zret hM dX9_feed_58 (Nat.le_of_ble_eq_true rfl) (Nat.le_of_ble_eq_true rfl) (by decide) ⟨by unfold boA; rw [show kFeed α (nI b) y kd w = false from decide_eq_false (fun q => q.2.2.2.2.2.2 c54)]; rfl, Xw.rf, by unfold feedF; rw [show kFeed α (nI b) y kd w = false from decide_eq_false (fun q => q.2.2.2.2.2.2 c54)]; exact ⟨nb, nh, nu, nr, nk, np, t, z⟩⟩
      · refine j_iconst (v := 0) (q := 29) hO dX9_feed_28 rfl (by decide) ?_
        exact j_zret hM dX9_feed_29 (Nat.le_of_ble_eq_true rfl) (Nat.le_of_ble_eq_true rfl) (by decide) ⟨by unfold boA; rw [show kFeed α (nI b) y kd w = false from decide_eq_false (fun q => ik_0 c25 ⟨q.2.2.2.2.1, q.2.2.2.2.2.1⟩)]; rfl, Xw.rf, by unfold feedF; rw [show kFeed α (nI b) y kd w = false from decide_eq_false (fun q => ik_0 c25 ⟨q.2.2.2.2.1, q.2.2.2.2.2.1⟩)]; exact ⟨nb, nh, nu, nr, nk, np, t, z⟩⟩
set_option maxHeartbeats 4000000 in
set_option maxRecDepth 100000 in
theorem c_9_rule (l : Launch) (S : St) (α : Al) (nb nh nu nr nk np t : Nat) (x : Int32) (w : UInt64) (s : Int32) (z : CZ S α nb nh nu nr nk np t) : Ct l yX9_rule cX9_rule 6 (some .boolean) (rm 1 0 0 25) [.ref (sA S 9 0), .int x, .double w, .int s] S (fun r S' => r = some (.int (boA (kRule α x w s))) ∧ Xw S S' ∧ Cq S' (ruleF α x w s)) := by
  refine Ct.of (by decide) (Nat.le_of_ble_eq_true rfl) (fun X hM => ?_)
  have hO := hM.1
  obtain rfl := hM.l
  show Jg X 0 0 S 0 [(0, .ref (sA S 9 0)), (1, .int x), (2, .double w), (4, .int s)] []
  have c := z.1
  have np60 := c.2.2.1.2.2.2.2.2.1.2
  have n6 := c.2.2.1.1.2
  have n8 := c.2.2.1.2.1.2
  have nu4 := c.2.2.1.2.2.1.2
  have nr4 := c.2.2.1.2.2.2.1.2
  have nk4 := c.2.2.1.2.2.2.2.1.2
  obtain ⟨⟨k0, k2, k1, k5, k7, k6, k4, k17⟩, ⟨q1, q2, q3, q4, q5, q6, q7⟩, -⟩ := id c.2.1
  obtain ⟨f1, f2, f3, f4, f5, f6, -⟩ := id c.2.2.1
  have shN := c.1.2.2.2
  refine j_aload_n (q := 1) hO dX9_rule_0 rfl rfl ?_
  refine j_iload_n (q := 2) hO dX9_rule_1 rfl rfl ?_
  refine j_callV (x := 9) (q := 5) hO (c_9_beltNumbered (lx X) _ α nb nh nu nr nk np t _ c) M_9_beltNumbered mw_205 CK_9 rfl c.1.c9 rfl rfl rfl (by unfold roomy; rw [hM.R]; exact ⟨⟨Nat.le_of_ble_eq_true rfl, Nat.le_of_ble_eq_true rfl⟩, ⟨Nat.le_of_ble_eq_true rfl, Nat.le_of_ble_eq_true rfl⟩, Nat.le_of_ble_eq_true rfl⟩) dX9_rule_2 rfl (fun v_2 S_2 hp_2 => ?_)
  obtain ⟨eS, hor⟩ := hp_2
  refine Jg.same eS ?_
  clear eS
  rcases hor with ⟨ci, rfl⟩ | ⟨b, hb, rfl, rfl⟩
  · refine j_astoreN (q := 7) hO dX9_rule_5 rfl (by rw [hM.nL]; decide) rfl ?_
    refine j_aload_n (q := 8) hO dX9_rule_7 rfl rfl ?_
    refine j_callV (x := 9) (q := 11) hO (c_9_isClosed (lx X) _ c.1.c9) M_9_isClosed mw_128 CK_9 rfl c.1.c9 rfl rfl rfl (by unfold roomy; rw [hM.R]; exact ⟨⟨Nat.le_of_ble_eq_true rfl, Nat.le_of_ble_eq_true rfl⟩, ⟨Nat.le_of_ble_eq_true rfl, Nat.le_of_ble_eq_true rfl⟩, Nat.le_of_ble_eq_true rfl⟩) dX9_rule_8 rfl (fun v_8 S_8 hp_8 => ?_)
    obtain ⟨rfl, eS⟩ := hp_8
    refine Jg.same eS ?_
    clear eS
    refine j_if_ne (tgt := 19) (q := 14) hO dX9_rule_11 rfl (by decide) (fun c11 => ?_) (fun c11 => ?_)
    · refine j_iconst (v := 0) (q := 20) hO dX9_rule_19 rfl (by decide) ?_
      exact j_zret hM dX9_rule_20 (Nat.le_of_ble_eq_true rfl) (Nat.le_of_ble_eq_true rfl) (by decide) ⟨by unfold boA; rw [show kRule α x w s = false from decide_eq_false (fun q => z.cl (of1 c11) q.2.2.2.2)]; rfl, Xw.rf, by unfold ruleF; rw [show kRule α x w s = false from decide_eq_false (fun q => z.cl (of1 c11) q.2.2.2.2)]; exact ⟨nb, nh, nu, nr, nk, np, t, z⟩⟩
    · refine j_aloadN (q := 16) hO dX9_rule_14 rfl rfl ?_
      refine j_ifnonnullN (q := 19) hO dX9_rule_16 rfl ?_
      refine j_iconst (v := 0) (q := 20) hO dX9_rule_19 rfl (by decide) ?_
      exact j_zret hM dX9_rule_20 (Nat.le_of_ble_eq_true rfl) (Nat.le_of_ble_eq_true rfl) (by decide) ⟨by unfold boA; rw [show kRule α x w s = false from decide_eq_false (fun q => q.1 ci)]; rfl, Xw.rf, by unfold ruleF; rw [show kRule α x w s = false from decide_eq_false (fun q => q.1 ci)]; exact ⟨nb, nh, nu, nr, nk, np, t, z⟩⟩
  · refine j_astore (q := 7) hO dX9_rule_5 rfl (by rw [hM.nL]; decide) rfl ?_
    refine j_aload_n (q := 8) hO dX9_rule_7 rfl rfl ?_
    refine j_callV (x := 9) (q := 11) hO (c_9_isClosed (lx X) _ c.1.c9) M_9_isClosed mw_128 CK_9 rfl c.1.c9 rfl rfl rfl (by unfold roomy; rw [hM.R]; exact ⟨⟨Nat.le_of_ble_eq_true rfl, Nat.le_of_ble_eq_true rfl⟩, ⟨Nat.le_of_ble_eq_true rfl, Nat.le_of_ble_eq_true rfl⟩, Nat.le_of_ble_eq_true rfl⟩) dX9_rule_8 rfl (fun v_8 S_8 hp_8 => ?_)
    obtain ⟨rfl, eS⟩ := hp_8
    refine Jg.same eS ?_
    clear eS
    refine j_if_ne (tgt := 19) (q := 14) hO dX9_rule_11 rfl (by decide) (fun c11 => ?_) (fun c11 => ?_)
    · refine j_iconst (v := 0) (q := 20) hO dX9_rule_19 rfl (by decide) ?_
      exact j_zret hM dX9_rule_20 (Nat.le_of_ble_eq_true rfl) (Nat.le_of_ble_eq_true rfl) (by decide) ⟨by unfold boA; rw [show kRule α (nI b) w s = false from decide_eq_false (fun q => z.cl (of1 c11) q.2.2.2.2)]; rfl, Xw.rf, by unfold ruleF; rw [show kRule α (nI b) w s = false from decide_eq_false (fun q => z.cl (of1 c11) q.2.2.2.2)]; exact ⟨nb, nh, nu, nr, nk, np, t, z⟩⟩
    · refine j_aload (q := 16) hO dX9_rule_14 rfl rfl ?_
      refine j_ifnonnull (tgt := 21) hO dX9_rule_16 (by decide) ?_
      refine j_dload_n (q := 22) hO dX9_rule_21 rfl rfl ?_
      refine j_dconst0 (q := 23) hO dX9_rule_22 rfl ?_
      refine j_ldc2d (q := 26) hO dX9_rule_23 rfl mw_235 ?_
      refine j_callS (q := 29) hO (c_9_within (lx X) _ _ _ _) M_9_within mw_133 rfl rfl (by unfold roomy; rw [hM.R]; exact ⟨⟨Nat.le_of_ble_eq_true rfl, Nat.le_of_ble_eq_true rfl⟩, ⟨Nat.le_of_ble_eq_true rfl, Nat.le_of_ble_eq_true rfl⟩, Nat.le_of_ble_eq_true rfl⟩) dX9_rule_26 rfl (fun v_26 S_26 hp_26 => ?_)
      obtain ⟨rfl, eS⟩ := hp_26
      refine Jg.same eS ?_
      clear eS
      refine j_if_eq (tgt := 45) (q := 32) hO dX9_rule_29 rfl (by decide) (fun c29 => ?_) (fun c29 => ?_)
      · refine j_iconst (v := 0) (q := 46) hO dX9_rule_45 rfl (by decide) ?_
        exact j_zret hM dX9_rule_46 (Nat.le_of_ble_eq_true rfl) (Nat.le_of_ble_eq_true rfl) (by decide) ⟨by unfold boA; rw [show kRule α (nI b) w s = false from decide_eq_false (fun q => q.2.1 c29)]; rfl, Xw.rf, by unfold ruleF; rw [show kRule α (nI b) w s = false from decide_eq_false (fun q => q.2.1 c29)]; exact ⟨nb, nh, nu, nr, nk, np, t, z⟩⟩
      · refine j_iload (q := 34) hO dX9_rule_32 rfl rfl ?_
        refine j_i2d (q := 35) hO dX9_rule_34 rfl ?_
        refine j_dconst1 (q := 36) hO dX9_rule_35 rfl ?_
        refine j_ldc2d (q := 39) hO dX9_rule_36 rfl mw_132 ?_
        refine j_callS (q := 42) hO (c_9_within (lx X) _ _ _ _) M_9_within mw_133 rfl rfl (by unfold roomy; rw [hM.R]; exact ⟨⟨Nat.le_of_ble_eq_true rfl, Nat.le_of_ble_eq_true rfl⟩, ⟨Nat.le_of_ble_eq_true rfl, Nat.le_of_ble_eq_true rfl⟩, Nat.le_of_ble_eq_true rfl⟩) dX9_rule_39 rfl (fun v_39 S_39 hp_39 => ?_)
        obtain ⟨rfl, eS⟩ := hp_39
        refine Jg.same eS ?_
        clear eS
        refine j_if_ne (tgt := 47) (q := 45) hO dX9_rule_42 rfl (by decide) (fun c42 => ?_) (fun c42 => ?_)
        · have h26 := z.op (of0 c11)
          obtain rfl := z.np0 h26
          have hbc : b < sC S 0 := by omega
          have kt : kRule α (nI b) w s = true := decide_eq_true ⟨iB_of f1.1 n6 hb, c29, (wi_i1 c42).1, (wi_i1 c42).2, h26⟩
          have nbb : nn (nI b) = b := nn_nI (by omega)
          refine j_aload (q := 49) hO dX9_rule_47 rfl rfl ?_
          refine j_iconst (v := 1) (q := 50) hO dX9_rule_49 rfl (by decide) ?_
          refine j_putZ (x := 0) (j := 6) (q := 53) hO CK_0 dX9_rule_50 rfl mw_175 rfl hbc rfl rfl (by decide) rfl (by decide +kernel) rfl (by decide) ?_
          refine j_aload (q := 55) hO dX9_rule_53 rfl rfl ?_
          refine j_dload_n (q := 56) hO dX9_rule_55 rfl rfl ?_
          refine j_putD (x := 0) (j := 7) (q := 59) hO CK_0 dX9_rule_56 rfl mw_176 rfl hbc rfl rfl (by decide) rfl (by decide +kernel) rfl ?_
          refine j_aload (q := 61) hO dX9_rule_59 rfl rfl ?_
          refine j_iload (q := 63) hO dX9_rule_61 rfl rfl ?_
          refine j_putI (x := 0) (j := 8) (q := 66) hO CK_0 dX9_rule_63 rfl mw_177 rfl hbc rfl rfl (by decide) rfl (by decide +kernel) rfl ?_
          refine j_iconst (v := 1) (q := 67) hO dX9_rule_66 rfl (by decide) ?_
          exact j_zret hM dX9_rule_67 (Nat.le_of_ble_eq_true rfl) (Nat.le_of_ble_eq_true rfl) (by decide) ⟨by unfold boA; rw [kt]; rfl, (Xw.I (Xw.D (Xw.I Xw.rf rfl) rfl) rfl), by unfold ruleF; rw [kt, nbb]; exact ⟨nb, nh, nu, nr, nk, 0, t, CZ.rule z hb⟩⟩
        · refine j_iconst (v := 0) (q := 46) hO dX9_rule_45 rfl (by decide) ?_
          exact j_zret hM dX9_rule_46 (Nat.le_of_ble_eq_true rfl) (Nat.le_of_ble_eq_true rfl) (by decide) ⟨by unfold boA; rw [show kRule α (nI b) w s = false from decide_eq_false (fun q => (wi_i0 c42).elim q.2.2.1 q.2.2.2.1)]; rfl, Xw.rf, by unfold ruleF; rw [show kRule α (nI b) w s = false from decide_eq_false (fun q => (wi_i0 c42).elim q.2.2.1 q.2.2.2.1)]; exact ⟨nb, nh, nu, nr, nk, np, t, z⟩⟩
set_option maxHeartbeats 4000000 in
set_option maxRecDepth 100000 in
theorem c_9_joinTo (l : Launch) (S : St) (α : Al) (nb nh nu nr nk np t : Nat) (x y : Int32) (z : CZ S α nb nh nu nr nk np t) : Ct l yX9_joinTo cX9_joinTo 6 (some .boolean) (rm 1 0 0 22) [.ref (sA S 9 0), .int x, .int y] S (fun r S' => r = some (.int (boA (kJoin α x y))) ∧ Xw S S' ∧ Cq S' (joinF α x y)) := by
  refine Ct.of (by decide) (Nat.le_of_ble_eq_true rfl) (fun X hM => ?_)
  have hO := hM.1
  obtain rfl := hM.l
  show Jg X 0 0 S 0 [(0, .ref (sA S 9 0)), (1, .int x), (2, .int y)] []
  have c := z.1
  have np60 := c.2.2.1.2.2.2.2.2.1.2
  have n6 := c.2.2.1.1.2
  have n8 := c.2.2.1.2.1.2
  have nu4 := c.2.2.1.2.2.1.2
  have nr4 := c.2.2.1.2.2.2.1.2
  have nk4 := c.2.2.1.2.2.2.2.1.2
  obtain ⟨⟨k0, k2, k1, k5, k7, k6, k4, k17⟩, ⟨q1, q2, q3, q4, q5, q6, q7⟩, -⟩ := id c.2.1
  obtain ⟨f1, f2, f3, f4, f5, f6, -⟩ := id c.2.2.1
  have shN := c.1.2.2.2
  refine j_aload_n (q := 1) hO dX9_joinTo_0 rfl rfl ?_
  refine j_iload_n (q := 2) hO dX9_joinTo_1 rfl rfl ?_
  refine j_callV (x := 9) (q := 5) hO (c_9_beltNumbered (lx X) _ α nb nh nu nr nk np t _ c) M_9_beltNumbered mw_205 CK_9 rfl c.1.c9 rfl rfl rfl (by unfold roomy; rw [hM.R]; exact ⟨⟨Nat.le_of_ble_eq_true rfl, Nat.le_of_ble_eq_true rfl⟩, ⟨Nat.le_of_ble_eq_true rfl, Nat.le_of_ble_eq_true rfl⟩, Nat.le_of_ble_eq_true rfl⟩) dX9_joinTo_2 rfl (fun v_2 S_2 hp_2 => ?_)
  obtain ⟨eS, hor⟩ := hp_2
  refine Jg.same eS ?_
  clear eS
  rcases hor with ⟨ci, rfl⟩ | ⟨b, hb, rfl, rfl⟩
  · refine j_astore_nN (q := 6) hO dX9_joinTo_5 rfl (by rw [hM.nL]; decide) rfl ?_
    refine j_aload_n (q := 7) hO dX9_joinTo_6 rfl rfl ?_
    refine j_callV (x := 9) (q := 10) hO (c_9_isClosed (lx X) _ c.1.c9) M_9_isClosed mw_128 CK_9 rfl c.1.c9 rfl rfl rfl (by unfold roomy; rw [hM.R]; exact ⟨⟨Nat.le_of_ble_eq_true rfl, Nat.le_of_ble_eq_true rfl⟩, ⟨Nat.le_of_ble_eq_true rfl, Nat.le_of_ble_eq_true rfl⟩, Nat.le_of_ble_eq_true rfl⟩) dX9_joinTo_7 rfl (fun v_7 S_7 hp_7 => ?_)
    obtain ⟨rfl, eS⟩ := hp_7
    refine Jg.same eS ?_
    clear eS
    refine j_if_ne (tgt := 17) (q := 13) hO dX9_joinTo_10 rfl (by decide) (fun c10 => ?_) (fun c10 => ?_)
    · refine j_iconst (v := 0) (q := 18) hO dX9_joinTo_17 rfl (by decide) ?_
      exact j_zret hM dX9_joinTo_18 (Nat.le_of_ble_eq_true rfl) (Nat.le_of_ble_eq_true rfl) (by decide) ⟨by unfold boA; rw [show kJoin α x y = false from decide_eq_false (fun q => z.cl (of1 c10) q.2.2)]; rfl, Xw.rf, by unfold joinF; rw [show kJoin α x y = false from decide_eq_false (fun q => z.cl (of1 c10) q.2.2)]; exact ⟨nb, nh, nu, nr, nk, np, t, z⟩⟩
    · refine j_aload_nN (q := 14) hO dX9_joinTo_13 rfl rfl ?_
      refine j_ifnonnullN (q := 17) hO dX9_joinTo_14 rfl ?_
      refine j_iconst (v := 0) (q := 18) hO dX9_joinTo_17 rfl (by decide) ?_
      exact j_zret hM dX9_joinTo_18 (Nat.le_of_ble_eq_true rfl) (Nat.le_of_ble_eq_true rfl) (by decide) ⟨by unfold boA; rw [show kJoin α x y = false from decide_eq_false (fun q => q.1 ci)]; rfl, Xw.rf, by unfold joinF; rw [show kJoin α x y = false from decide_eq_false (fun q => q.1 ci)]; exact ⟨nb, nh, nu, nr, nk, np, t, z⟩⟩
  · refine j_astore_n (q := 6) hO dX9_joinTo_5 rfl (by rw [hM.nL]; decide) rfl ?_
    refine j_aload_n (q := 7) hO dX9_joinTo_6 rfl rfl ?_
    refine j_callV (x := 9) (q := 10) hO (c_9_isClosed (lx X) _ c.1.c9) M_9_isClosed mw_128 CK_9 rfl c.1.c9 rfl rfl rfl (by unfold roomy; rw [hM.R]; exact ⟨⟨Nat.le_of_ble_eq_true rfl, Nat.le_of_ble_eq_true rfl⟩, ⟨Nat.le_of_ble_eq_true rfl, Nat.le_of_ble_eq_true rfl⟩, Nat.le_of_ble_eq_true rfl⟩) dX9_joinTo_7 rfl (fun v_7 S_7 hp_7 => ?_)
    obtain ⟨rfl, eS⟩ := hp_7
    refine Jg.same eS ?_
    clear eS
    refine j_if_ne (tgt := 17) (q := 13) hO dX9_joinTo_10 rfl (by decide) (fun c10 => ?_) (fun c10 => ?_)
    · refine j_iconst (v := 0) (q := 18) hO dX9_joinTo_17 rfl (by decide) ?_
      exact j_zret hM dX9_joinTo_18 (Nat.le_of_ble_eq_true rfl) (Nat.le_of_ble_eq_true rfl) (by decide) ⟨by unfold boA; rw [show kJoin α (nI b) y = false from decide_eq_false (fun q => z.cl (of1 c10) q.2.2)]; rfl, Xw.rf, by unfold joinF; rw [show kJoin α (nI b) y = false from decide_eq_false (fun q => z.cl (of1 c10) q.2.2)]; exact ⟨nb, nh, nu, nr, nk, np, t, z⟩⟩
    · refine j_aload_n (q := 14) hO dX9_joinTo_13 rfl rfl ?_
      refine j_ifnonnull (tgt := 19) hO dX9_joinTo_14 (by decide) ?_
      refine j_aload_n (q := 20) hO dX9_joinTo_19 rfl rfl ?_
      refine j_iload_n (q := 21) hO dX9_joinTo_20 rfl rfl ?_
      refine j_callV (x := 9) (q := 24) hO (c_9_beltNumbered (lx X) _ α nb nh nu nr nk np t _ c) M_9_beltNumbered mw_205 CK_9 rfl c.1.c9 rfl rfl rfl (by unfold roomy; rw [hM.R]; exact ⟨⟨Nat.le_of_ble_eq_true rfl, Nat.le_of_ble_eq_true rfl⟩, ⟨Nat.le_of_ble_eq_true rfl, Nat.le_of_ble_eq_true rfl⟩, Nat.le_of_ble_eq_true rfl⟩) dX9_joinTo_21 rfl (fun v_21 S_21 hp_21 => ?_)
      obtain ⟨eS, hor⟩ := hp_21
      refine Jg.same eS ?_
      clear eS
      rcases hor with ⟨cj, rfl⟩ | ⟨d, hd, hyd, rfl⟩
      · refine j_astoreN (q := 26) hO dX9_joinTo_24 rfl (by rw [hM.nL]; decide) rfl ?_
        refine j_aload_n (q := 27) hO dX9_joinTo_26 rfl rfl ?_
        refine j_iload_n (q := 28) hO dX9_joinTo_27 rfl rfl ?_
        refine j_callV (x := 9) (q := 31) hO (c_9_bunkerJoinedBy (lx X) _ α nb nh nu nr nk np t _ c) M_9_bunkerJoinedBy mw_257 CK_9 rfl c.1.c9 rfl rfl rfl (by unfold roomy; rw [hM.R]; exact ⟨⟨Nat.le_of_ble_eq_true rfl, Nat.le_of_ble_eq_true rfl⟩, ⟨Nat.le_of_ble_eq_true rfl, Nat.le_of_ble_eq_true rfl⟩, Nat.le_of_ble_eq_true rfl⟩) dX9_joinTo_28 rfl (fun v_28 S_28 hp_28 => ?_)
        obtain ⟨eS, hor⟩ := hp_28
        refine Jg.same eS ?_
        clear eS
        rcases hor with ⟨cu, rfl⟩ | ⟨u, hu, cu, hyu, rfl⟩
        · refine j_astoreN (q := 33) hO dX9_joinTo_31 rfl (by rw [hM.nL]; decide) rfl ?_
          refine j_iload_n (q := 34) hO dX9_joinTo_33 rfl rfl ?_
          refine j_iconst (v := (-1)) (q := 35) hO dX9_joinTo_34 rfl (by decide) ?_
          refine j_icmp_eq (tgt := 50) (q := 38) hO dX9_joinTo_35 rfl (by decide) (fun c35 => ?_) (fun c35 => ?_)
          · have h26 := z.op (of0 c10)
            obtain rfl := z.np0 h26
            have hbc : b < sC S 0 := by omega
            have nbb : nn (nI b) = b := nn_nI (by omega)
            refine j_aload_n (q := 51) hO dX9_joinTo_50 rfl rfl ?_
            refine j_aloadN (q := 53) hO dX9_joinTo_51 rfl rfl ?_
            refine j_putR (fty := tyX0 4) (x := 0) (j := 4) (q := 56) hO CK_0 dX9_joinTo_53 rfl mw_173 rfl hbc rfl rfl (by decide) rfl (by decide +kernel) (fun r => by cases r <;> rfl) (fun r => by cases r <;> rfl) rfl (v := none) rfl (fun r e => by cases e) ?_
            refine j_aload_n (q := 57) hO dX9_joinTo_56 rfl rfl ?_
            refine j_aloadN (q := 59) hO dX9_joinTo_57 rfl rfl ?_
            refine j_putR (fty := tyX0 5) (x := 0) (j := 5) (q := 62) hO CK_0 dX9_joinTo_59 rfl mw_174 rfl hbc rfl rfl (by decide) rfl (by decide +kernel) (fun r => by cases r <;> rfl) (fun r => by cases r <;> rfl) rfl (v := none) rfl (fun r e => by cases e) ?_
            refine j_iconst (v := 1) (q := 63) hO dX9_joinTo_62 rfl (by decide) ?_
            exact j_zret hM dX9_joinTo_63 (Nat.le_of_ble_eq_true rfl) (Nat.le_of_ble_eq_true rfl) (by decide) ⟨by unfold boA; rw [(show kJoin α (nI b) y = true from decide_eq_true ⟨iB_of f1.1 n6 hb, decide_eq_true (Or.inl c35), h26⟩)]; rfl, Xw.R (Xw.R Xw.rf (by decide)) (by decide), by unfold joinF; rw [(show kJoin α (nI b) y = true from decide_eq_true ⟨iB_of f1.1 n6 hb, decide_eq_true (Or.inl c35), h26⟩), nbb]; exact ⟨nb, nh, nu, nr, nk, 0, t, CZ.join z hb (Or.inr (Or.inl ⟨c35, rfl, rfl⟩))⟩⟩
          · refine j_aloadN (q := 40) hO dX9_joinTo_38 rfl rfl ?_
            refine j_ifnonnullN (q := 43) hO dX9_joinTo_40 rfl ?_
            refine j_aloadN (q := 45) hO dX9_joinTo_43 rfl rfl ?_
            refine j_ifnonnullN (q := 48) hO dX9_joinTo_45 rfl ?_
            refine j_iconst (v := 0) (q := 49) hO dX9_joinTo_48 rfl (by decide) ?_
            exact j_zret hM dX9_joinTo_49 (Nat.le_of_ble_eq_true rfl) (Nat.le_of_ble_eq_true rfl) (by decide) ⟨by unfold boA; rw [show kJoin α (nI b) y = false from decide_eq_false (fun q => absurd q.2.1 (by rw [jTo_no f3.1 nu4 c35 cj cu]; decide))]; rfl, Xw.rf, by unfold joinF; rw [show kJoin α (nI b) y = false from decide_eq_false (fun q => absurd q.2.1 (by rw [jTo_no f3.1 nu4 c35 cj cu]; decide))]; exact ⟨nb, nh, nu, nr, nk, np, t, z⟩⟩
        · refine j_astore (q := 33) hO dX9_joinTo_31 rfl (by rw [hM.nL]; decide) rfl ?_
          refine j_iload_n (q := 34) hO dX9_joinTo_33 rfl rfl ?_
          refine j_iconst (v := (-1)) (q := 35) hO dX9_joinTo_34 rfl (by decide) ?_
          refine j_icmp_eq (tgt := 50) (q := 38) hO dX9_joinTo_35 rfl (by decide) (fun c35 => ?_) (fun c35 => ?_)
          · exact absurd (hyu.symm.trans c35) (m2_m1 u (by omega))
          · refine j_aloadN (q := 40) hO dX9_joinTo_38 rfl rfl ?_
            refine j_ifnonnullN (q := 43) hO dX9_joinTo_40 rfl ?_
            refine j_aload (q := 45) hO dX9_joinTo_43 rfl rfl ?_
            refine j_ifnonnull (tgt := 50) hO dX9_joinTo_45 (by decide) ?_
            have h26 := z.op (of0 c10)
            obtain rfl := z.np0 h26
            have hbc : b < sC S 0 := by omega
            have nbb : nn (nI b) = b := nn_nI (by omega)
            have huc : u < sC S 1 := by omega
            refine j_aload_n (q := 51) hO dX9_joinTo_50 rfl rfl ?_
            refine j_aloadN (q := 53) hO dX9_joinTo_51 rfl rfl ?_
            refine j_putR (fty := tyX0 4) (x := 0) (j := 4) (q := 56) hO CK_0 dX9_joinTo_53 rfl mw_173 rfl hbc rfl rfl (by decide) rfl (by decide +kernel) (fun r => by cases r <;> rfl) (fun r => by cases r <;> rfl) rfl (v := none) rfl (fun r e => by cases e) ?_
            refine j_aload_n (q := 57) hO dX9_joinTo_56 rfl rfl ?_
            refine j_aload (q := 59) hO dX9_joinTo_57 rfl rfl ?_
            refine j_putR (fty := tyX0 5) (x := 0) (j := 5) (q := 62) hO CK_0 dX9_joinTo_59 rfl mw_174 rfl hbc rfl rfl (by decide) rfl (by decide +kernel) (fun r => by cases r <;> rfl) (fun r => by cases r <;> rfl) rfl (v := some u) rfl (fun r e => by cases e; exact huc) ?_
            refine j_iconst (v := 1) (q := 63) hO dX9_joinTo_62 rfl (by decide) ?_
            exact j_zret hM dX9_joinTo_63 (Nat.le_of_ble_eq_true rfl) (Nat.le_of_ble_eq_true rfl) (by decide) ⟨by unfold boA; rw [(show kJoin α (nI b) y = true from decide_eq_true ⟨iB_of f1.1 n6 hb, decide_eq_true (Or.inr (Or.inr ⟨by rw [hyu]; exact m2_g u (by omega), by rw [hyu, f3.1]; exact m2_le nu (by omega) u (by omega) hu⟩)), h26⟩)]; rfl, Xw.R (Xw.R Xw.rf (by decide)) (by decide), by unfold joinF; rw [(show kJoin α (nI b) y = true from decide_eq_true ⟨iB_of f1.1 n6 hb, decide_eq_true (Or.inr (Or.inr ⟨by rw [hyu]; exact m2_g u (by omega), by rw [hyu, f3.1]; exact m2_le nu (by omega) u (by omega) hu⟩)), h26⟩), nbb]; exact ⟨nb, nh, nu, nr, nk, 0, t, CZ.join z hb (Or.inr (Or.inr ⟨u, hyu, hu, rfl, rfl⟩))⟩⟩
      · refine j_astore (q := 26) hO dX9_joinTo_24 rfl (by rw [hM.nL]; decide) rfl ?_
        refine j_aload_n (q := 27) hO dX9_joinTo_26 rfl rfl ?_
        refine j_iload_n (q := 28) hO dX9_joinTo_27 rfl rfl ?_
        refine j_callV (x := 9) (q := 31) hO (c_9_bunkerJoinedBy (lx X) _ α nb nh nu nr nk np t _ c) M_9_bunkerJoinedBy mw_257 CK_9 rfl c.1.c9 rfl rfl rfl (by unfold roomy; rw [hM.R]; exact ⟨⟨Nat.le_of_ble_eq_true rfl, Nat.le_of_ble_eq_true rfl⟩, ⟨Nat.le_of_ble_eq_true rfl, Nat.le_of_ble_eq_true rfl⟩, Nat.le_of_ble_eq_true rfl⟩) dX9_joinTo_28 rfl (fun v_28 S_28 hp_28 => ?_)
        obtain ⟨eS, hor⟩ := hp_28
        refine Jg.same eS ?_
        clear eS
        rcases hor with ⟨cu, rfl⟩ | ⟨u, hu, cu, hyu, rfl⟩
        · refine j_astoreN (q := 33) hO dX9_joinTo_31 rfl (by rw [hM.nL]; decide) rfl ?_
          refine j_iload_n (q := 34) hO dX9_joinTo_33 rfl rfl ?_
          refine j_iconst (v := (-1)) (q := 35) hO dX9_joinTo_34 rfl (by decide) ?_
          refine j_icmp_eq (tgt := 50) (q := 38) hO dX9_joinTo_35 rfl (by decide) (fun c35 => ?_) (fun c35 => ?_)
          · exact absurd (hyd.symm.trans c35) (nb_m1 d (by omega))
          · refine j_aload (q := 40) hO dX9_joinTo_38 rfl rfl ?_
            refine j_ifnonnull (tgt := 50) hO dX9_joinTo_40 (by decide) ?_
            have h26 := z.op (of0 c10)
            obtain rfl := z.np0 h26
            have hbc : b < sC S 0 := by omega
            have nbb : nn (nI b) = b := nn_nI (by omega)
            have hdc : d < sC S 0 := by omega
            refine j_aload_n (q := 51) hO dX9_joinTo_50 rfl rfl ?_
            refine j_aload (q := 53) hO dX9_joinTo_51 rfl rfl ?_
            refine j_putR (fty := tyX0 4) (x := 0) (j := 4) (q := 56) hO CK_0 dX9_joinTo_53 rfl mw_173 rfl hbc rfl rfl (by decide) rfl (by decide +kernel) (fun r => by cases r <;> rfl) (fun r => by cases r <;> rfl) rfl (v := some d) rfl (fun r e => by cases e; exact hdc) ?_
            refine j_aload_n (q := 57) hO dX9_joinTo_56 rfl rfl ?_
            refine j_aloadN (q := 59) hO dX9_joinTo_57 rfl rfl ?_
            refine j_putR (fty := tyX0 5) (x := 0) (j := 5) (q := 62) hO CK_0 dX9_joinTo_59 rfl mw_174 rfl hbc rfl rfl (by decide) rfl (by decide +kernel) (fun r => by cases r <;> rfl) (fun r => by cases r <;> rfl) rfl (v := none) rfl (fun r e => by cases e) ?_
            refine j_iconst (v := 1) (q := 63) hO dX9_joinTo_62 rfl (by decide) ?_
            exact j_zret hM dX9_joinTo_63 (Nat.le_of_ble_eq_true rfl) (Nat.le_of_ble_eq_true rfl) (by decide) ⟨by unfold boA; rw [(show kJoin α (nI b) y = true from decide_eq_true ⟨iB_of f1.1 n6 hb, decide_eq_true (Or.inr (Or.inl ⟨by rw [hyd]; exact nI_pos (by omega), by rw [hyd, f1.1]; exact nI_lt hd (by omega)⟩)), h26⟩)]; rfl, Xw.R (Xw.R Xw.rf (by decide)) (by decide), by unfold joinF; rw [(show kJoin α (nI b) y = true from decide_eq_true ⟨iB_of f1.1 n6 hb, decide_eq_true (Or.inr (Or.inl ⟨by rw [hyd]; exact nI_pos (by omega), by rw [hyd, f1.1]; exact nI_lt hd (by omega)⟩)), h26⟩), nbb]; exact ⟨nb, nh, nu, nr, nk, 0, t, CZ.join z hb (Or.inl ⟨d, hyd, hd, rfl, rfl⟩)⟩⟩
        · refine j_astore (q := 33) hO dX9_joinTo_31 rfl (by rw [hM.nL]; decide) rfl ?_
          exact absurd (hyd.symm.trans hyu) (m2_neg u (by omega) d (by omega))
