set_option maxHeartbeats 4000000 in
set_option maxRecDepth 100000 in
theorem c_9_enter (l : Launch) (S : St) (α : Al) (nb nh nu nr nk np n jm p b : Nat) (k : Kx S α nb nh nu nr nk np n) (hn : n + 12 < 2 ^ 30) (hp : p < np) (hb : b < nb) (hlim : aI α 25 p = 0) (hjm : aI α 0 38 = nI jm) (hj60 : jm < 60) : Ct l yX9_enter cX9_enter 3 (none : Option Jvm.ClassFile.FieldType) (rm 2 0 0 49) [.ref (sA S 9 0), .ref (sA S 6 p), .ref (sA S 0 b)] S (fun r S' => r = none ∧ Sc S S' ∧ Cd S' (enterF α p b) nb nu nk np) := by
  refine Ct.of (by decide) (Nat.le_of_ble_eq_true rfl) (fun X hM => ?_)
  have hO := hM.1
  obtain rfl := hM.l
  show Jg X 0 0 S 0 [(0, .ref (sA S 9 0)), (1, .ref (sA S 6 p)), (2, .ref (sA S 0 b))] []
  have kT := k
  have np60 := k.2.2.1.2.2.2.2.2.1.2
  have n6 := k.2.2.1.1.2
  have n8 := k.2.2.1.2.1.2
  have hpc : p < sC S 6 := by have := k.2.1.1.2.2.2.2.2.1; omega
  have hbc : b < sC S 0 := by have := k.2.1.1.1; omega
  have hN19 := k.1.2.2.2.2.2.2.2.2.2.2.2
  obtain ⟨⟨eb0, ebn, eb1, eb2, eb3⟩, ebx, ⟨eb6, eb7, eb8⟩, eb17, ebo⟩ := k.2.1.2.2.1 b hb
  obtain ⟨ep0, epn, epf, ept, epk, eps⟩ := k.2.1.2.2.2.2.2.2.2 p hp
  obtain ⟨tn, htn, htn2⟩ := k.2.2.2.2.2
  have d1 := k.2.2.2.1.1
  have d2 := k.2.2.2.1.2.1 b hb
  obtain ⟨tt, htot, htot2, htot3⟩ := k.tot
  refine j_aload_n (q := 1) hO dX9_enter_0 rfl rfl ?_
  refine j_aload_n (q := 2) hO dX9_enter_1 rfl rfl ?_
  refine j_getI (x := 9) (j := 16) (q := 5) hO CK_9 dX9_enter_2 rfl mw_88 rfl kT.1.c9 rfl rfl (by decide) (Or.inl rfl) ?_
  refine j_callV (x := 0) (q := 8) hO (c_0_refusesAt (lx X) _ b _ hbc) M_0_refusesAt mw_387 CK_0 rfl hbc rfl rfl rfl (by unfold roomy; rw [hM.R]; exact ⟨⟨Nat.le_of_ble_eq_true rfl, Nat.le_of_ble_eq_true rfl⟩, ⟨Nat.le_of_ble_eq_true rfl, Nat.le_of_ble_eq_true rfl⟩, Nat.le_of_ble_eq_true rfl⟩) dX9_enter_5 rfl (fun v_5 S_5 hp_5 => ?_)
  obtain ⟨rfl, eS⟩ := hp_5
  refine Jg.same eS ?_
  clear eS
  refine j_if_eq (tgt := 48) (q := 11) hO dX9_enter_8 rfl (by decide) (fun c8 => ?_) (fun c8 => ?_)
  · refine j_aload_n (q := 49) hO dX9_enter_48 rfl rfl ?_
    refine j_getI (x := 0) (j := 6) (q := 52) hO CK_0 dX9_enter_49 rfl mw_175 rfl hbc rfl rfl (by decide) (Or.inr rfl) ?_
    refine j_if_eq (tgt := 78) (q := 55) hO dX9_enter_52 rfl (by decide) (fun c52 => ?_) (fun c52 => ?_)
    · refine j_aload_n (q := 79) hO dX9_enter_78 rfl rfl ?_
      refine j_aload_n (q := 80) hO dX9_enter_79 rfl rfl ?_
      refine j_putR (fty := tyX6 5) (x := 6) (j := 5) (q := 83) hO CK_6 dX9_enter_80 rfl mw_339 rfl hpc rfl rfl (by decide) rfl (by decide +kernel) (fun r => by cases r <;> rfl) (fun r => by cases r <;> rfl) rfl (v := some b) rfl (fun r e => by cases e; exact hbc) ?_
      refine j_aload_n (q := 84) hO dX9_enter_83 rfl rfl ?_
      refine j_iconst (v := 0) (q := 85) hO dX9_enter_84 rfl (by decide) ?_
      refine j_putI (x := 6) (j := 6) (q := 88) hO CK_6 dX9_enter_85 rfl mw_340 rfl hpc rfl rfl (by decide) rfl (by decide +kernel) rfl ?_
      refine j_aload_n (q := 89) hO dX9_enter_88 rfl rfl ?_
      refine j_getRs (x := 9) (j := 7) (q := 92) hO CK_9 dX9_enter_89 rfl mw_79 rfl kT.1.c9 rfl rfl (by decide) rfl kT.1.r7 ?_
      refine j_aload_n (q := 93) hO dX9_enter_92 rfl rfl ?_
      refine j_getI (x := 9) (j := 16) (q := 96) hO CK_9 dX9_enter_93 rfl mw_88 rfl kT.1.c9 rfl rfl (by decide) (Or.inl rfl) ?_
      refine j_aload_n (q := 97) hO dX9_enter_96 rfl rfl ?_
      refine j_getI (x := 6) (j := 0) (q := 100) hO CK_6 dX9_enter_97 rfl mw_330 rfl hpc rfl rfl (by decide) (Or.inl rfl) ?_
      refine j_iconst (v := 0) (q := 101) hO dX9_enter_100 rfl (by decide) ?_
      refine j_aload_n (q := 102) hO dX9_enter_101 rfl rfl ?_
      refine j_getI (x := 0) (j := 0) (q := 105) hO CK_0 dX9_enter_102 rfl mw_166 rfl hbc rfl rfl (by decide) (Or.inl rfl) ?_
      refine j_callV (x := 3) (q := 108) hO (c_3_add (lx X) _ 0 tt _ _ _ _ k.1.c3a k.1.2.2.1.1 k.1.c18a (show sN S 18 0 ≤ 2000 by rw [k.1.2.2.2.2.2.2.2.2.2.1]; decide) htot (by omega)) M_3_add mw_391 CK_3 rfl k.1.c3a rfl rfl rfl (by unfold roomy; rw [hM.R]; exact ⟨⟨Nat.le_of_ble_eq_true rfl, Nat.le_of_ble_eq_true rfl⟩, ⟨Nat.le_of_ble_eq_true rfl, Nat.le_of_ble_eq_true rfl⟩, Nat.le_of_ble_eq_true rfl⟩) dX9_enter_105 rfl (fun v_105 S_105 hp_105 => ?_)
      obtain ⟨rfl, rfl⟩ := hp_105
      have kO : Kx (pI (pR S 6 p 5 (some b)) 6 p 6 0) (setF α p b) nb nh nu nr nk np n := k.to ((Sc.rf.R).I rfl) (Sm.rf.set) (k.2.2.2.1.on hp hlim hb) (k.2.2.2.2.1.same rfl) rfl
      have kN : Kx (logF (pI (pR S 6 p 5 (some b)) 6 p 6 0) 0 (sI S 9 0 16) (sI S 6 p 0) 0 (sI S 0 b 0)) (noteF (setF α p b) (nI p) 0 (nI b)) nb nh nu nr nk np (n + 1) := by rw [epn, ebn]; exact kO.note (p := p) (w := 0) (h := b) (by omega) (by omega) (by decide) (by omega)
      have scN : Sc S (logF (pI (pR S 6 p 5 (some b)) 6 p 6 0) 0 (sI S 9 0 16) (sI S 6 p 0) 0 (sI S 0 b 0)) := ((Sc.rf.R).I rfl).log
      obtain ⟨I, J, D, R, hfm⟩ := (scN).form
      refine Jg.same hfm ?_
      rw [hfm] at kN scN
      clear hfm
      refine j_aload_n (q := 109) hO dX9_enter_108 rfl rfl ?_
      refine j_aload_n (q := 110) hO dX9_enter_109 rfl rfl ?_
      refine j_aload_n (q := 111) hO dX9_enter_110 rfl rfl ?_
      refine j_callV (x := 9) (q := 114) hO (c_9_passHeads (lx X) _ (noteF (setF α p b) (nI p) 0 (nI b)) nb nh nu nr nk np (n + 1) p b kN (by omega) hp hb (by rw [noteF_I (by decide) (by omega)]; unfold setF; rw [qI_I (by omega), qI_I (by omega), qI_s]) (by rw [noteF_I (by decide) (by omega)]; unfold setF; rw [qI_I (by omega), qI_s])) M_9_passHeads mw_403 CK_9 rfl kT.1.c9 rfl rfl rfl (by unfold roomy; rw [hM.R]; exact ⟨⟨Nat.le_of_ble_eq_true rfl, Nat.le_of_ble_eq_true rfl⟩, ⟨Nat.le_of_ble_eq_true rfl, Nat.le_of_ble_eq_true rfl⟩, Nat.le_of_ble_eq_true rfl⟩) dX9_enter_111 rfl (fun v_111 S_111 hp_111 => ?_)
      obtain ⟨rfl, scP, dP⟩ := hp_111
      exact j_vret hM dX9_enter_114 (Nat.le_of_ble_eq_true rfl) (Nat.le_of_ble_eq_true rfl) ⟨rfl, scN.tr scP, by rw [en_s hlim k.nps.1 k.nps.2.1 (show aI α 7 b ≤ aI α 0 35 by rw [← d2, ← d1]; exact of0 c8) (Or.inl (eb6.symm.trans c52))]; exact dP⟩
    · refine j_aload_n (q := 56) hO dX9_enter_55 rfl rfl ?_
      refine j_aload_n (q := 57) hO dX9_enter_56 rfl rfl ?_
      refine j_aload_n (q := 58) hO dX9_enter_57 rfl rfl ?_
      refine j_callV (x := 9) (q := 61) hO (c_9_loadWith (lx X) _ α nb nh nu nr nk np n p b k hp hb) M_9_loadWith mw_395 CK_9 rfl kT.1.c9 rfl rfl rfl (by unfold roomy; rw [hM.R]; exact ⟨⟨Nat.le_of_ble_eq_true rfl, Nat.le_of_ble_eq_true rfl⟩, ⟨Nat.le_of_ble_eq_true rfl, Nat.le_of_ble_eq_true rfl⟩, Nat.le_of_ble_eq_true rfl⟩) dX9_enter_58 rfl (fun v_58 S_58 hp_58 => ?_)
      obtain ⟨rfl, eS⟩ := hp_58
      refine Jg.same eS ?_
      clear eS
      refine j_aload_n (q := 62) hO dX9_enter_61 rfl rfl ?_
      refine j_getD (x := 0) (j := 7) (q := 65) hO CK_0 dX9_enter_62 rfl mw_176 rfl hbc rfl rfl (by decide) rfl ?_
      refine j_dcmp (q := 66) hO dX9_enter_65 rfl ?_
      refine j_if_le (tgt := 78) (q := 69) hO dX9_enter_66 rfl (by decide) (fun c66 => ?_) (fun c66 => ?_)
      · refine j_aload_n (q := 79) hO dX9_enter_78 rfl rfl ?_
        refine j_aload_n (q := 80) hO dX9_enter_79 rfl rfl ?_
        refine j_putR (fty := tyX6 5) (x := 6) (j := 5) (q := 83) hO CK_6 dX9_enter_80 rfl mw_339 rfl hpc rfl rfl (by decide) rfl (by decide +kernel) (fun r => by cases r <;> rfl) (fun r => by cases r <;> rfl) rfl (v := some b) rfl (fun r e => by cases e; exact hbc) ?_
        refine j_aload_n (q := 84) hO dX9_enter_83 rfl rfl ?_
        refine j_iconst (v := 0) (q := 85) hO dX9_enter_84 rfl (by decide) ?_
        refine j_putI (x := 6) (j := 6) (q := 88) hO CK_6 dX9_enter_85 rfl mw_340 rfl hpc rfl rfl (by decide) rfl (by decide +kernel) rfl ?_
        refine j_aload_n (q := 89) hO dX9_enter_88 rfl rfl ?_
        refine j_getRs (x := 9) (j := 7) (q := 92) hO CK_9 dX9_enter_89 rfl mw_79 rfl kT.1.c9 rfl rfl (by decide) rfl kT.1.r7 ?_
        refine j_aload_n (q := 93) hO dX9_enter_92 rfl rfl ?_
        refine j_getI (x := 9) (j := 16) (q := 96) hO CK_9 dX9_enter_93 rfl mw_88 rfl kT.1.c9 rfl rfl (by decide) (Or.inl rfl) ?_
        refine j_aload_n (q := 97) hO dX9_enter_96 rfl rfl ?_
        refine j_getI (x := 6) (j := 0) (q := 100) hO CK_6 dX9_enter_97 rfl mw_330 rfl hpc rfl rfl (by decide) (Or.inl rfl) ?_
        refine j_iconst (v := 0) (q := 101) hO dX9_enter_100 rfl (by decide) ?_
        refine j_aload_n (q := 102) hO dX9_enter_101 rfl rfl ?_
        refine j_getI (x := 0) (j := 0) (q := 105) hO CK_0 dX9_enter_102 rfl mw_166 rfl hbc rfl rfl (by decide) (Or.inl rfl) ?_
        refine j_callV (x := 3) (q := 108) hO (c_3_add (lx X) _ 0 tt _ _ _ _ k.1.c3a k.1.2.2.1.1 k.1.c18a (show sN S 18 0 ≤ 2000 by rw [k.1.2.2.2.2.2.2.2.2.2.1]; decide) htot (by omega)) M_3_add mw_391 CK_3 rfl k.1.c3a rfl rfl rfl (by unfold roomy; rw [hM.R]; exact ⟨⟨Nat.le_of_ble_eq_true rfl, Nat.le_of_ble_eq_true rfl⟩, ⟨Nat.le_of_ble_eq_true rfl, Nat.le_of_ble_eq_true rfl⟩, Nat.le_of_ble_eq_true rfl⟩) dX9_enter_105 rfl (fun v_105 S_105 hp_105 => ?_)
        obtain ⟨rfl, rfl⟩ := hp_105
        have kO : Kx (pI (pR S 6 p 5 (some b)) 6 p 6 0) (setF α p b) nb nh nu nr nk np n := k.to ((Sc.rf.R).I rfl) (Sm.rf.set) (k.2.2.2.1.on hp hlim hb) (k.2.2.2.2.1.same rfl) rfl
        have kN : Kx (logF (pI (pR S 6 p 5 (some b)) 6 p 6 0) 0 (sI S 9 0 16) (sI S 6 p 0) 0 (sI S 0 b 0)) (noteF (setF α p b) (nI p) 0 (nI b)) nb nh nu nr nk np (n + 1) := by rw [epn, ebn]; exact kO.note (p := p) (w := 0) (h := b) (by omega) (by omega) (by decide) (by omega)
        have scN : Sc S (logF (pI (pR S 6 p 5 (some b)) 6 p 6 0) 0 (sI S 9 0 16) (sI S 6 p 0) 0 (sI S 0 b 0)) := ((Sc.rf.R).I rfl).log
        obtain ⟨I, J, D, R, hfm⟩ := (scN).form
        refine Jg.same hfm ?_
        rw [hfm] at kN scN
        clear hfm
        refine j_aload_n (q := 109) hO dX9_enter_108 rfl rfl ?_
        refine j_aload_n (q := 110) hO dX9_enter_109 rfl rfl ?_
        refine j_aload_n (q := 111) hO dX9_enter_110 rfl rfl ?_
        refine j_callV (x := 9) (q := 114) hO (c_9_passHeads (lx X) _ (noteF (setF α p b) (nI p) 0 (nI b)) nb nh nu nr nk np (n + 1) p b kN (by omega) hp hb (by rw [noteF_I (by decide) (by omega)]; unfold setF; rw [qI_I (by omega), qI_I (by omega), qI_s]) (by rw [noteF_I (by decide) (by omega)]; unfold setF; rw [qI_I (by omega), qI_s])) M_9_passHeads mw_403 CK_9 rfl kT.1.c9 rfl rfl rfl (by unfold roomy; rw [hM.R]; exact ⟨⟨Nat.le_of_ble_eq_true rfl, Nat.le_of_ble_eq_true rfl⟩, ⟨Nat.le_of_ble_eq_true rfl, Nat.le_of_ble_eq_true rfl⟩, Nat.le_of_ble_eq_true rfl⟩) dX9_enter_111 rfl (fun v_111 S_111 hp_111 => ?_)
        obtain ⟨rfl, scP, dP⟩ := hp_111
        exact j_vret hM dX9_enter_114 (Nat.le_of_ble_eq_true rfl) (Nat.le_of_ble_eq_true rfl) ⟨rfl, scN.tr scP, by rw [en_s hlim k.nps.1 k.nps.2.1 (show aI α 7 b ≤ aI α 0 35 by rw [← d2, ← d1]; exact of0 c8) (Or.inr (by rw [← eb7]; exact c66))]; exact dP⟩
      · refine j_aload_n (q := 70) hO dX9_enter_69 rfl rfl ?_
        refine j_aload_n (q := 71) hO dX9_enter_70 rfl rfl ?_
        refine j_aload_n (q := 72) hO dX9_enter_71 rfl rfl ?_
        refine j_callV (x := 9) (q := 75) hO (c_9_jamBy (lx X) _ α nb nh nu nr nk np n jm p b k (by omega) hp hb hlim hjm hj60) M_9_jamBy mw_399 CK_9 rfl kT.1.c9 rfl rfl rfl (by unfold roomy; rw [hM.R]; exact ⟨⟨Nat.le_of_ble_eq_true rfl, Nat.le_of_ble_eq_true rfl⟩, ⟨Nat.le_of_ble_eq_true rfl, Nat.le_of_ble_eq_true rfl⟩, Nat.le_of_ble_eq_true rfl⟩) dX9_enter_72 rfl (fun v_72 S_72 hp_72 => ?_)
        obtain ⟨rfl, scJ, dJ⟩ := hp_72
        refine j_goto (tgt := 114) hO dX9_enter_75 (by decide) ?_
        exact j_vret hM dX9_enter_114 (Nat.le_of_ble_eq_true rfl) (Nat.le_of_ble_eq_true rfl) ⟨rfl, scJ, by rw [en_j hlim k.nps.1 (show aI α 7 b ≤ aI α 0 35 by rw [← d2, ← d1]; exact of0 c8) (fun z => c52 (eb6.trans z)) (by rw [← eb7]; exact c66)]; exact dJ⟩
  · refine j_aload_n (q := 12) hO dX9_enter_11 rfl rfl ?_
    refine j_getRs (x := 9) (j := 9) (q := 15) hO CK_9 dX9_enter_12 rfl mw_81 rfl kT.1.c9 rfl rfl (by decide) rfl kT.1.r9 ?_
    refine j_getRs (x := 8) (j := 0) (q := 18) hO CK_8 dX9_enter_15 rfl mw_55 rfl kT.1.c8 rfl rfl (by decide) rfl kT.1.2.2.1.2.2 ?_
    refine j_iconst (v := 1) (q := 19) hO dX9_enter_18 rfl (by decide) ?_
    refine j_dup2_11 (q := 20) hO dX9_enter_19 rfl rfl rfl ?_
    refine j_lald (x := 19) (q := 21) hO dX9_enter_20 rfl rfl kT.1.c19 rfl rfl rfl (j := 1) rfl (show 1 < sN S 19 0 by rw [hN19]; decide) (show sN S 19 0 < 2 ^ 31 by rw [hN19]; decide) ?_
    refine j_lconst (v := 1) (q := 22) hO dX9_enter_21 rfl (by decide) ?_
    refine j_ladd (q := 23) hO dX9_enter_22 rfl ?_
    refine j_last (x := 19) (q := 24) hO dX9_enter_23 rfl rfl kT.1.c19 rfl rfl rfl (j := 1) rfl (show 1 < sN S 19 0 by rw [hN19]; decide) (show sN S 19 0 < 2 ^ 31 by rw [hN19]; decide) ?_
    refine j_aload_n (q := 25) hO dX9_enter_24 rfl rfl ?_
    refine j_getRs (x := 9) (j := 7) (q := 28) hO CK_9 dX9_enter_25 rfl mw_79 rfl kT.1.c9 rfl rfl (by decide) rfl kT.1.r7 ?_
    refine j_aload_n (q := 29) hO dX9_enter_28 rfl rfl ?_
    refine j_getI (x := 9) (j := 16) (q := 32) hO CK_9 dX9_enter_29 rfl mw_88 rfl kT.1.c9 rfl rfl (by decide) (Or.inl rfl) ?_
    refine j_aload_n (q := 33) hO dX9_enter_32 rfl rfl ?_
    refine j_getI (x := 6) (j := 0) (q := 36) hO CK_6 dX9_enter_33 rfl mw_330 rfl hpc rfl rfl (by decide) (Or.inl rfl) ?_
    refine j_bipush (v := 7) (q := 38) hO dX9_enter_36 rfl (by decide) ?_
    refine j_aload_n (q := 39) hO dX9_enter_38 rfl rfl ?_
    refine j_getI (x := 0) (j := 0) (q := 42) hO CK_0 dX9_enter_39 rfl mw_166 rfl hbc rfl rfl (by decide) (Or.inl rfl) ?_
    refine j_callV (x := 3) (q := 45) hO (c_3_add (lx X) _ 0 tt _ _ _ _ k.1.c3a k.1.2.2.1.1 k.1.c18a (show sN S 18 0 ≤ 2000 by rw [k.1.2.2.2.2.2.2.2.2.2.1]; decide) htot (by omega)) M_3_add mw_391 CK_3 rfl k.1.c3a rfl rfl rfl (by unfold roomy; rw [hM.R]; exact ⟨⟨Nat.le_of_ble_eq_true rfl, Nat.le_of_ble_eq_true rfl⟩, ⟨Nat.le_of_ble_eq_true rfl, Nat.le_of_ble_eq_true rfl⟩, Nat.le_of_ble_eq_true rfl⟩) dX9_enter_42 rfl (fun v_42 S_42 hp_42 => ?_)
    obtain ⟨rfl, rfl⟩ := hp_42
    have dA := k.2.2.2.1.loses (c0 := 1) hp hlim (by decide)
    have hL := dA.note (p := p) (w := 7) (h := b) (k.1.sc (Sc.rf.J)) htot2 (by omega) htn htn2 (by omega) (by decide) (by omega)
    refine j_goto (tgt := 114) hO dX9_enter_45 (by decide) ?_
    exact j_vret hM dX9_enter_114 (Nat.le_of_ble_eq_true rfl) (Nat.le_of_ble_eq_true rfl) ⟨rfl, (Sc.rf.J).log, by rw [en_l hlim (by rw [← d2, ← d1]; exact of1 c8)]; exact hL.lg epn ebn⟩
set_option maxHeartbeats 4000000 in
set_option maxRecDepth 100000 in
theorem c_9_fill (l : Launch) (S : St) (α : Al) (nb nh nu nr nk np n p u : Nat) (k : Kx S α nb nh nu nr nk np n) (hn : n + 12 < 2 ^ 30) (hp : p < np) (hu : u < nu) (hlim : aI α 25 p = 0) (hfl : dNn (aD α 12 u)) : Ct l yX9_fill cX9_fill 5 (none : Option Jvm.ClassFile.FieldType) (rm 1 0 0 24) [.ref (sA S 9 0), .ref (sA S 6 p), .ref (sA S 1 u)] S (fun r S' => r = none ∧ Sc S S' ∧ Cd S' (fillF α p u) nb nu nk np) := by
  refine Ct.of (by decide) (Nat.le_of_ble_eq_true rfl) (fun X hM => ?_)
  have hO := hM.1
  obtain rfl := hM.l
  show Jg X 0 0 S 0 [(0, .ref (sA S 9 0)), (1, .ref (sA S 6 p)), (2, .ref (sA S 1 u))] []
  have kT := k
  have np60 := k.2.2.1.2.2.2.2.2.1.2
  have n6 := k.2.2.1.1.2
  have n8 := k.2.2.1.2.1.2
  have hpc : p < sC S 6 := by have := k.2.1.1.2.2.2.2.2.1; omega
  have hN19 := k.1.2.2.2.2.2.2.2.2.2.2.2
  obtain ⟨ep0, epn, epf, ept, epk, eps⟩ := k.2.1.2.2.2.2.2.2.2 p hp
  obtain ⟨tn, htn, htn2⟩ := k.2.2.2.2.2
  have d1 := k.2.2.2.1.1
  obtain ⟨tt, htot, htot2, htot3⟩ := k.tot
  have huc : u < sC S 1 := by have := k.2.1.1.2.2.1; omega
  obtain ⟨eu0, eun, eur⟩ := k.2.1.2.2.2.2.1 u hu
  have d3 := k.2.2.2.1.2.2.1 u hu
  have u4 := k.2.2.1.2.2.1.2
  refine j_aload_n (q := 1) hO dX9_fill_0 rfl rfl ?_
  refine j_getD (x := 1) (j := 2) (q := 4) hO CK_1 dX9_fill_1 rfl mw_245 rfl huc rfl rfl (by decide) rfl ?_
  refine j_aload_n (q := 5) hO dX9_fill_4 rfl rfl ?_
  refine j_getD (x := 6) (j := 4) (q := 8) hO CK_6 dX9_fill_5 rfl mw_338 rfl hpc rfl rfl (by decide) rfl ?_
  refine j_dadd (q := 9) hO dX9_fill_8 rfl (n64_of (by show dOk (FP.dadd (sD S 1 u 2) (sD S 6 p 4)); rw [d3, eps]; exact (dadd_nn hfl (k.2.2.1.2.2.2.2.2.2.2.2.2.2 p hp).2.1.nn).ok)) ?_
  refine j_dstore_n (q := 10) hO dX9_fill_9 rfl (by rw [hM.nL]; decide) rfl ?_
  refine j_dload_n (q := 11) hO dX9_fill_10 rfl rfl ?_
  refine j_aload_n (q := 12) hO dX9_fill_11 rfl rfl ?_
  refine j_getD (x := 1) (j := 1) (q := 15) hO CK_1 dX9_fill_12 rfl mw_244 rfl huc rfl rfl (by decide) rfl ?_
  refine j_dcmp (q := 16) hO dX9_fill_15 rfl ?_
  refine j_if_gt (tgt := 61) (q := 19) hO dX9_fill_16 rfl (by decide) (fun c16 => ?_) (fun c16 => ?_)
  · refine j_aload_n (q := 62) hO dX9_fill_61 rfl rfl ?_
    refine j_getRs (x := 9) (j := 9) (q := 65) hO CK_9 dX9_fill_62 rfl mw_81 rfl kT.1.c9 rfl rfl (by decide) rfl kT.1.r9 ?_
    refine j_getRs (x := 8) (j := 0) (q := 68) hO CK_8 dX9_fill_65 rfl mw_55 rfl kT.1.c8 rfl rfl (by decide) rfl kT.1.2.2.1.2.2 ?_
    refine j_iconst (v := 2) (q := 69) hO dX9_fill_68 rfl (by decide) ?_
    refine j_dup2_11 (q := 70) hO dX9_fill_69 rfl rfl rfl ?_
    refine j_lald (x := 19) (q := 71) hO dX9_fill_70 rfl rfl kT.1.c19 rfl rfl rfl (j := 2) rfl (show 2 < sN S 19 0 by rw [hN19]; decide) (show sN S 19 0 < 2 ^ 31 by rw [hN19]; decide) ?_
    refine j_lconst (v := 1) (q := 72) hO dX9_fill_71 rfl (by decide) ?_
    refine j_ladd (q := 73) hO dX9_fill_72 rfl ?_
    refine j_last (x := 19) (q := 74) hO dX9_fill_73 rfl rfl kT.1.c19 rfl rfl rfl (j := 2) rfl (show 2 < sN S 19 0 by rw [hN19]; decide) (show sN S 19 0 < 2 ^ 31 by rw [hN19]; decide) ?_
    refine j_aload_n (q := 75) hO dX9_fill_74 rfl rfl ?_
    refine j_getRs (x := 9) (j := 7) (q := 78) hO CK_9 dX9_fill_75 rfl mw_79 rfl kT.1.c9 rfl rfl (by decide) rfl kT.1.r7 ?_
    refine j_aload_n (q := 79) hO dX9_fill_78 rfl rfl ?_
    refine j_getI (x := 9) (j := 16) (q := 82) hO CK_9 dX9_fill_79 rfl mw_88 rfl kT.1.c9 rfl rfl (by decide) (Or.inl rfl) ?_
    refine j_aload_n (q := 83) hO dX9_fill_82 rfl rfl ?_
    refine j_getI (x := 6) (j := 0) (q := 86) hO CK_6 dX9_fill_83 rfl mw_330 rfl hpc rfl rfl (by decide) (Or.inl rfl) ?_
    refine j_bipush (v := 8) (q := 88) hO dX9_fill_86 rfl (by decide) ?_
    refine j_aload_n (q := 89) hO dX9_fill_88 rfl rfl ?_
    refine j_getI (x := 1) (j := 0) (q := 92) hO CK_1 dX9_fill_89 rfl mw_242 rfl huc rfl rfl (by decide) (Or.inl rfl) ?_
    refine j_callV (x := 3) (q := 95) hO (c_3_add (lx X) _ 0 tt _ _ _ _ k.1.c3a k.1.2.2.1.1 k.1.c18a (show sN S 18 0 ≤ 2000 by rw [k.1.2.2.2.2.2.2.2.2.2.1]; decide) htot (by omega)) M_3_add mw_391 CK_3 rfl k.1.c3a rfl rfl rfl (by unfold roomy; rw [hM.R]; exact ⟨⟨Nat.le_of_ble_eq_true rfl, Nat.le_of_ble_eq_true rfl⟩, ⟨Nat.le_of_ble_eq_true rfl, Nat.le_of_ble_eq_true rfl⟩, Nat.le_of_ble_eq_true rfl⟩) dX9_fill_92 rfl (fun v_92 S_92 hp_92 => ?_)
    obtain ⟨rfl, rfl⟩ := hp_92
    have dA := k.2.2.2.1.loses (c0 := 2) hp hlim (by decide)
    have hL := dA.note (p := p) (w := 8) (h := u) (k.1.sc (Sc.rf.J)) htot2 (by omega) htn htn2 (by omega) (by decide) (by omega)
    exact j_vret hM dX9_fill_95 (Nat.le_of_ble_eq_true rfl) (Nat.le_of_ble_eq_true rfl) ⟨rfl, (Sc.rf.J).log, by unfold fillF; rw [if_pos (show 0 < Op.cmpValue (FP.dcmp (FP.dadd (aD α 12 u) (aD α 22 p)) (aD α 11 u)) .g by rw [← d3, ← eps, ← eur]; exact c16)]; exact hL.lg epn eun⟩
  · refine j_aload_n (q := 20) hO dX9_fill_19 rfl rfl ?_
    refine j_dload_n (q := 21) hO dX9_fill_20 rfl rfl ?_
    refine j_putD (x := 1) (j := 2) (q := 24) hO CK_1 dX9_fill_21 rfl mw_245 rfl huc rfl rfl (by decide) rfl (by decide +kernel) rfl ?_
    refine j_aload_n (q := 25) hO dX9_fill_24 rfl rfl ?_
    refine j_getRs (x := 9) (j := 9) (q := 28) hO CK_9 dX9_fill_25 rfl mw_81 rfl kT.1.c9 rfl rfl (by decide) rfl kT.1.r9 ?_
    refine j_dup (q := 29) hO dX9_fill_28 rfl rfl ?_
    refine j_getI (x := 8) (j := 1) (q := 32) hO CK_8 dX9_fill_29 rfl mw_57 rfl kT.1.c8 rfl rfl (by decide) (Or.inl rfl) ?_
    refine j_iconst (v := 1) (q := 33) hO dX9_fill_32 rfl (by decide) ?_
    refine j_iadd (q := 34) hO dX9_fill_33 rfl ?_
    refine j_putI (x := 8) (j := 1) (q := 37) hO CK_8 dX9_fill_34 rfl mw_57 rfl kT.1.c8 rfl rfl (by decide) rfl (by decide +kernel) rfl ?_
    refine j_aload_n (q := 38) hO dX9_fill_37 rfl rfl ?_
    refine j_getRs (x := 9) (j := 7) (q := 41) hO CK_9 dX9_fill_38 rfl mw_79 rfl kT.1.c9 rfl rfl (by decide) rfl kT.1.r7 ?_
    refine j_aload_n (q := 42) hO dX9_fill_41 rfl rfl ?_
    refine j_getI (x := 9) (j := 16) (q := 45) hO CK_9 dX9_fill_42 rfl mw_88 rfl kT.1.c9 rfl rfl (by decide) (Or.inl rfl) ?_
    refine j_aload_n (q := 46) hO dX9_fill_45 rfl rfl ?_
    refine j_getI (x := 6) (j := 0) (q := 49) hO CK_6 dX9_fill_46 rfl mw_330 rfl hpc rfl rfl (by decide) (Or.inl rfl) ?_
    refine j_bipush (v := 9) (q := 51) hO dX9_fill_49 rfl (by decide) ?_
    refine j_aload_n (q := 52) hO dX9_fill_51 rfl rfl ?_
    refine j_getI (x := 1) (j := 0) (q := 55) hO CK_1 dX9_fill_52 rfl mw_242 rfl huc rfl rfl (by decide) (Or.inl rfl) ?_
    refine j_callV (x := 3) (q := 58) hO (c_3_add (lx X) _ 0 tt _ _ _ _ k.1.c3a k.1.2.2.1.1 k.1.c18a (show sN S 18 0 ≤ 2000 by rw [k.1.2.2.2.2.2.2.2.2.2.1]; decide) htot (by omega)) M_3_add mw_391 CK_3 rfl k.1.c3a rfl rfl rfl (by unfold roomy; rw [hM.R]; exact ⟨⟨Nat.le_of_ble_eq_true rfl, Nat.le_of_ble_eq_true rfl⟩, ⟨Nat.le_of_ble_eq_true rfl, Nat.le_of_ble_eq_true rfl⟩, Nat.le_of_ble_eq_true rfl⟩) dX9_fill_55 rfl (fun v_55 S_55 hp_55 => ?_)
    obtain ⟨rfl, rfl⟩ := hp_55
    have dA : Cd (pD S 1 u 2 (FP.dadd (sD S 1 u 2) (sD S 6 p 4))) (qD α 12 u (FP.dadd (aD α 12 u) (aD α 22 p))) nb nu nk np := by rw [d3, eps]; exact k.2.2.2.1.fl
    have dB := dA.tally1 hp hlim
    have hL := dB.note (p := p) (w := 9) (h := u) (k.1.sc ((Sc.rf.D).I rfl)) htot2 (by omega) htn htn2 (by omega) (by decide) (by omega)
    refine j_goto (tgt := 95) hO dX9_fill_58 (by decide) ?_
    exact j_vret hM dX9_fill_95 (Nat.le_of_ble_eq_true rfl) (Nat.le_of_ble_eq_true rfl) ⟨rfl, ((Sc.rf.D).I rfl).log, by unfold fillF; rw [if_neg (show ¬ 0 < Op.cmpValue (FP.dcmp (FP.dadd (aD α 12 u) (aD α 22 p)) (aD α 11 u)) .g by rw [← d3, ← eps, ← eur]; exact c16)]; exact hL.lg epn eun⟩
set_option maxHeartbeats 4000000 in
set_option maxRecDepth 100000 in
theorem c_9_takenByRobot (l : Launch) (S : St) (α : Al) (nb nh nu nr nk np n p b : Nat) (k : Kx S α nb nh nu nr nk np n) (hn : n + 12 < 2 ^ 30) (hp : p < np) (hb : b < nb) (hbp : aI α 26 p = nI b) : Ct l yX9_takenByRobot cX9_takenByRobot 5 (some .boolean) (rm 1 0 0 24) [.ref (sA S 9 0), .ref (sA S 6 p), .ref (sA S 0 b)] S (robPost S α p nb nu nk np) := by
  refine Ct.of (by decide) (Nat.le_of_ble_eq_true rfl) (fun X hM => ?_)
  have hO := hM.1
  obtain rfl := hM.l
  show Jg X 0 0 S 0 [(0, .ref (sA S 9 0)), (1, .ref (sA S 6 p)), (2, .ref (sA S 0 b))] []
  refine Jg.inj (fun hinj => ?_)
  have kT := k
  have np60 := k.2.2.1.2.2.2.2.2.1.2
  have n6 := k.2.2.1.1.2
  have n8 := k.2.2.1.2.1.2
  have hpc : p < sC S 6 := by have := k.2.1.1.2.2.2.2.2.1; omega
  have hbc : b < sC S 0 := by have := k.2.1.1.1; omega
  have hN19 := k.1.2.2.2.2.2.2.2.2.2.2.2
  obtain ⟨⟨eb0, ebn, eb1, eb2, eb3⟩, ebx, ⟨eb6, eb7, eb8⟩, eb17, ebo⟩ := k.2.1.2.2.1 b hb
  obtain ⟨ep0, epn, epf, ept, epk, eps⟩ := k.2.1.2.2.2.2.2.2.2 p hp
  obtain ⟨tn, htn, htn2⟩ := k.2.2.2.2.2
  have d1 := k.2.2.2.1.1
  have d2 := k.2.2.2.1.2.1 b hb
  obtain ⟨tt, htot, htot2, htot3⟩ := k.tot
  have r4 := k.2.2.1.2.2.2.1.2
  have k4 := k.2.2.1.2.2.2.2.1.2
  have e21 := epk
  have hcnt := k.2.1.2.1.2.2.2.2.2.1.trans k.2.2.1.2.2.2.1.1
  have hkd0 : ¬ aI α 21 p < 0 := by obtain ⟨kd, q1, q2⟩ := (k.2.2.1.2.2.2.2.2.2.2.2.2.2 p hp).1; rw [q1]; exact nI_pos (by omega)
  have loop : ¬ aI α 21 p ≤ 0 → ∀ m h, h + m = nr → scn (robF α p) (aI α 21 p) (robB α p) m h → Jg X 0 0 S 11 [(0, .ref (sA S 9 0)), (1, .ref (sA S 6 p)), (2, .ref (sA S 0 b)), (3, .int (nI h))] [] := by
    intro hnk m
    induction m with
    | zero =>
      intro h hz hs
      obtain rfl : h = nr := by omega
      refine j_iload_n (q := 12) hO dX9_takenByRobot_11 rfl rfl ?_
      refine j_aload_n (q := 13) hO dX9_takenByRobot_12 rfl rfl ?_
      refine j_getI (x := 9) (j := 14) (q := 16) hO CK_9 dX9_takenByRobot_13 rfl mw_86 rfl kT.1.c9 rfl rfl (by decide) (Or.inl rfl) ?_
      refine j_icmp_ge (tgt := 96) (q := 19) hO dX9_takenByRobot_16 rfl (by decide) (fun c16 => ?_) (fun c16 => ?_)
      · refine j_iconst (v := 0) (q := 97) hO dX9_takenByRobot_96 rfl (by decide) ?_
        exact j_zret hM dX9_takenByRobot_97 (Nat.le_of_ble_eq_true rfl) (Nat.le_of_ble_eq_true rfl) (by decide) (robPost.n hs.z)
      · exact absurd (by rw [hcnt]; exact nI_le (Nat.le_refl _) (by omega)) c16
    | succ m ih =>
      intro h hz hs
      refine j_iload_n (q := 12) hO dX9_takenByRobot_11 rfl rfl ?_
      refine j_aload_n (q := 13) hO dX9_takenByRobot_12 rfl rfl ?_
      refine j_getI (x := 9) (j := 14) (q := 16) hO CK_9 dX9_takenByRobot_13 rfl mw_86 rfl kT.1.c9 rfl rfl (by decide) (Or.inl rfl) ?_
      refine j_icmp_ge (tgt := 96) (q := 19) hO dX9_takenByRobot_16 rfl (by decide) (fun c16 => ?_) (fun c16 => ?_)
      · exact absurd c16 (by rw [hcnt]; exact nI_ge (by omega) (by omega))
      · obtain ⟨er0, ⟨br, er1, er2, er3⟩, er4, er5⟩ := k.2.1.2.2.2.2.2.2.1 h (by omega)
        have hrc : h < sC S 7 := by have := k.2.1.1.2.2.2.2.1; omega
        have hbrc : br < sC S 0 := by have := k.2.1.1.1; omega
        have hN15 := k.1.2.2.2.2.2.2.2.1
        refine j_aload_n (q := 20) hO dX9_takenByRobot_19 rfl rfl ?_
        refine j_getRs (x := 9) (j := 5) (q := 23) hO CK_9 dX9_takenByRobot_20 rfl mw_77 rfl kT.1.c9 rfl rfl (by decide) rfl kT.1.r5 ?_
        refine j_iload_n (q := 24) hO dX9_takenByRobot_23 rfl rfl ?_
        refine j_aald (x := 15) (c0 := 8) (q := 25) hO dX9_takenByRobot_24 rfl rfl kT.1.c15 rfl rfl (fun _ => rfl) rfl (j := h) rfl (by omega) (by omega) ?_
        rw [er0]
        refine j_astore (q := 27) hO dX9_takenByRobot_25 rfl (by rw [hM.nL]; decide) rfl ?_
        refine j_aload (q := 29) hO dX9_takenByRobot_27 rfl rfl ?_
        refine j_getRs (x := 7) (j := 0) (q := 32) hO CK_7 dX9_takenByRobot_29 rfl mw_305 rfl hrc rfl rfl (by decide) rfl er3 ?_
        refine j_aload_n (q := 33) hO dX9_takenByRobot_32 rfl rfl ?_
        refine j_acmp_ne (rx := some (sA S 0 br)) (ry := some (sA S 0 b)) (tgt := 90) (q := 36) hO dX9_takenByRobot_33 rfl (by decide) rfl rfl (fun c33 => ?_) (fun c33 => ?_)
        · refine j_iinc (v := nI (h + 1)) (q := 93) hO dX9_takenByRobot_90 rfl rfl (nI_S h) (by rw [hM.nL]; decide) rfl ?_
          refine j_goto (tgt := 11) hO dX9_takenByRobot_93 (by decide) ?_
          refine Jg.lv (lv' := [(0, .ref (sA S 9 0)), (1, .ref (sA S 6 p)), (2, .ref (sA S 0 b)), (3, .int (nI (h + 1)))]) ⟨rfl, rfl, rfl, rfl, trivial⟩ ?_
          exact ih (h + 1) (by omega) (hs.n hnk (decide_eq_false (fun z => c33 (by rw [show br = b from (nI_eq (by omega) (by omega)).mp (er1.symm.trans (z.1.trans hbp))]))))
        · refine j_aload_n (q := 37) hO dX9_takenByRobot_36 rfl rfl ?_
          refine j_getD (x := 6) (j := 4) (q := 40) hO CK_6 dX9_takenByRobot_37 rfl mw_338 rfl hpc rfl rfl (by decide) rfl ?_
          refine j_aload (q := 42) hO dX9_takenByRobot_40 rfl rfl ?_
          refine j_getD (x := 7) (j := 1) (q := 45) hO CK_7 dX9_takenByRobot_42 rfl mw_307 rfl hrc rfl rfl (by decide) rfl ?_
          refine j_dcmp (q := 46) hO dX9_takenByRobot_45 rfl ?_
          refine j_if_gt (tgt := 90) (q := 49) hO dX9_takenByRobot_46 rfl (by decide) (fun c46 => ?_) (fun c46 => ?_)
          · refine j_iinc (v := nI (h + 1)) (q := 93) hO dX9_takenByRobot_90 rfl rfl (nI_S h) (by rw [hM.nL]; decide) rfl ?_
            refine j_goto (tgt := 11) hO dX9_takenByRobot_93 (by decide) ?_
            refine Jg.lv (lv' := [(0, .ref (sA S 9 0)), (1, .ref (sA S 6 p)), (2, .ref (sA S 0 b)), (3, .int (nI (h + 1)))]) ⟨rfl, rfl, rfl, rfl, trivial⟩ ?_
            exact ih (h + 1) (by omega) (hs.n hnk (decide_eq_false (fun z => z.2.1 (by rw [← eps, ← er4]; exact c46))))
          · refine j_aload_n (q := 50) hO dX9_takenByRobot_49 rfl rfl ?_
            refine j_aload_n (q := 51) hO dX9_takenByRobot_50 rfl rfl ?_
            refine j_getI (x := 6) (j := 0) (q := 54) hO CK_6 dX9_takenByRobot_51 rfl mw_330 rfl hpc rfl rfl (by decide) (Or.inl rfl) ?_
            refine j_bipush (v := 100) (q := 56) hO dX9_takenByRobot_54 rfl (by decide) ?_
            refine j_iload_n (q := 57) hO dX9_takenByRobot_56 rfl rfl ?_
            refine j_iadd (q := 58) hO dX9_takenByRobot_57 rfl ?_
            refine j_callV (x := 9) (q := 61) hO (c_9_chance (lx X) _ _ _ k.1.c9) M_9_chance mw_407 CK_9 rfl kT.1.c9 rfl rfl rfl (by unfold roomy; rw [hM.R]; exact ⟨⟨Nat.le_of_ble_eq_true rfl, Nat.le_of_ble_eq_true rfl⟩, ⟨Nat.le_of_ble_eq_true rfl, Nat.le_of_ble_eq_true rfl⟩, Nat.le_of_ble_eq_true rfl⟩) dX9_takenByRobot_58 rfl (fun v_58 S_58 hp_58 => ?_)
            obtain ⟨rfl, eS⟩ := hp_58
            refine Jg.same eS ?_
            clear eS
            refine j_aload (q := 63) hO dX9_takenByRobot_61 rfl rfl ?_
            refine j_getD (x := 7) (j := 2) (q := 66) hO CK_7 dX9_takenByRobot_63 rfl mw_309 rfl hrc rfl rfl (by decide) rfl ?_
            refine j_dcmp (q := 67) hO dX9_takenByRobot_66 rfl ?_
            refine j_if_lt (tgt := 90) (q := 70) hO dX9_takenByRobot_67 rfl (by decide) (fun c67 => ?_) (fun c67 => ?_)
            · refine j_iinc (v := nI (h + 1)) (q := 93) hO dX9_takenByRobot_90 rfl rfl (nI_S h) (by rw [hM.nL]; decide) rfl ?_
              refine j_goto (tgt := 11) hO dX9_takenByRobot_93 (by decide) ?_
              refine Jg.lv (lv' := [(0, .ref (sA S 9 0)), (1, .ref (sA S 6 p)), (2, .ref (sA S 0 b)), (3, .int (nI (h + 1)))]) ⟨rfl, rfl, rfl, rfl, trivial⟩ ?_
              exact ih (h + 1) (by omega) (hs.n hnk (decide_eq_false (fun z => z.2.2 (by rw [← k.2.1.2.1.1, ← er5, ← epn]; exact c67))))
            · refine j_aload_n (q := 71) hO dX9_takenByRobot_70 rfl rfl ?_
              refine j_getRs (x := 9) (j := 7) (q := 74) hO CK_9 dX9_takenByRobot_71 rfl mw_79 rfl kT.1.c9 rfl rfl (by decide) rfl kT.1.r7 ?_
              refine j_aload_n (q := 75) hO dX9_takenByRobot_74 rfl rfl ?_
              refine j_getI (x := 9) (j := 16) (q := 78) hO CK_9 dX9_takenByRobot_75 rfl mw_88 rfl kT.1.c9 rfl rfl (by decide) (Or.inl rfl) ?_
              refine j_aload_n (q := 79) hO dX9_takenByRobot_78 rfl rfl ?_
              refine j_getI (x := 6) (j := 0) (q := 82) hO CK_6 dX9_takenByRobot_79 rfl mw_330 rfl hpc rfl rfl (by decide) (Or.inl rfl) ?_
              refine j_bipush (v := 6) (q := 84) hO dX9_takenByRobot_82 rfl (by decide) ?_
              refine j_iload_n (q := 85) hO dX9_takenByRobot_84 rfl rfl ?_
              refine j_callV (x := 3) (q := 88) hO (c_3_add (lx X) _ 0 tt _ _ _ _ k.1.c3a k.1.2.2.1.1 k.1.c18a (show sN S 18 0 ≤ 2000 by rw [k.1.2.2.2.2.2.2.2.2.2.1]; decide) htot (by omega)) M_3_add mw_391 CK_3 rfl k.1.c3a rfl rfl rfl (by unfold roomy; rw [hM.R]; exact ⟨⟨Nat.le_of_ble_eq_true rfl, Nat.le_of_ble_eq_true rfl⟩, ⟨Nat.le_of_ble_eq_true rfl, Nat.le_of_ble_eq_true rfl⟩, Nat.le_of_ble_eq_true rfl⟩) dX9_takenByRobot_85 rfl (fun v_85 S_85 hp_85 => ?_)
              obtain ⟨rfl, rfl⟩ := hp_85
              have hL := k.2.2.2.1.note (p := p) (w := 6) (h := h) k.1 htot2 (by omega) htn htn2 (by omega) (by decide) (by omega)
              refine j_iconst (v := 1) (q := 89) hO dX9_takenByRobot_88 rfl (by decide) ?_
              exact j_zret hM dX9_takenByRobot_89 (Nat.le_of_ble_eq_true rfl) (Nat.le_of_ble_eq_true rfl) (by decide) (robPost.y (hs.y hnk (decide_eq_true ⟨show aI α 13 h = aI α 26 p by rw [er1, hbp, show br = b from hinj 0 br b hbrc hbc (Option.some.inj c33)], by rw [← eps, ← er4]; exact c46, by rw [← k.2.1.2.1.1, ← er5, ← epn]; exact c67⟩)) Sc.rf.log (by rw [epn]; exact hL))
  refine j_aload_n (q := 1) hO dX9_takenByRobot_0 rfl rfl ?_
  refine j_getI (x := 6) (j := 3) (q := 4) hO CK_6 dX9_takenByRobot_1 rfl mw_336 rfl hpc rfl rfl (by decide) (Or.inl rfl) ?_
  refine j_if_ne (tgt := 9) (q := 7) hO dX9_takenByRobot_4 rfl (by decide) (fun c4 => ?_) (fun c4 => ?_)
  · refine j_iconst (v := 0) (q := 10) hO dX9_takenByRobot_9 rfl (by decide) ?_
    refine j_istore_n (q := 11) hO dX9_takenByRobot_10 rfl (by rw [hM.nL]; decide) rfl ?_
    refine Jg.lv (lv' := [(0, .ref (sA S 9 0)), (1, .ref (sA S 6 p)), (2, .ref (sA S 0 b)), (3, .int (nI 0))]) ⟨rfl, rfl, rfl, rfl, trivial⟩ ?_
    exact loop (fun z => c4 (by rw [epk]; exact kind_le hkd0 z)) nr 0 (by omega) (by unfold scn robF; rw [k.nps.2.2.1])
  · refine j_iconst (v := 0) (q := 8) hO dX9_takenByRobot_7 rfl (by decide) ?_
    exact j_zret hM dX9_takenByRobot_8 (Nat.le_of_ble_eq_true rfl) (Nat.le_of_ble_eq_true rfl) (by decide) (robPost.n (by unfold robF; rw [if_pos (show aI α 21 p ≤ 0 by rw [← epk, c4]; decide)]))
set_option maxHeartbeats 4000000 in
set_option maxRecDepth 100000 in
theorem c_9_takenByPicker (l : Launch) (S : St) (α : Al) (nb nh nu nr nk np n p b : Nat) (k : Kx S α nb nh nu nr nk np n) (hn : n + 12 < 2 ^ 30) (hp : p < np) (hb : b < nb) (hbp : aI α 26 p = nI b) (hpk : ∀ h, h < nk → PkOk (aD α 17 h) (aD α 18 h) (aI α 20 h)) : Ct l yX9_takenByPicker cX9_takenByPicker 5 (some .boolean) (rm 1 0 0 24) [.ref (sA S 9 0), .ref (sA S 6 p), .ref (sA S 0 b)] S (pickPost S α p nb nu nk np) := by
  refine Ct.of (by decide) (Nat.le_of_ble_eq_true rfl) (fun X hM => ?_)
  have hO := hM.1
  obtain rfl := hM.l
  show Jg X 0 0 S 0 [(0, .ref (sA S 9 0)), (1, .ref (sA S 6 p)), (2, .ref (sA S 0 b))] []
  refine Jg.inj (fun hinj => ?_)
  have kT := k
  have np60 := k.2.2.1.2.2.2.2.2.1.2
  have n6 := k.2.2.1.1.2
  have n8 := k.2.2.1.2.1.2
  have hpc : p < sC S 6 := by have := k.2.1.1.2.2.2.2.2.1; omega
  have hbc : b < sC S 0 := by have := k.2.1.1.1; omega
  have hN19 := k.1.2.2.2.2.2.2.2.2.2.2.2
  obtain ⟨⟨eb0, ebn, eb1, eb2, eb3⟩, ebx, ⟨eb6, eb7, eb8⟩, eb17, ebo⟩ := k.2.1.2.2.1 b hb
  obtain ⟨ep0, epn, epf, ept, epk, eps⟩ := k.2.1.2.2.2.2.2.2.2 p hp
  obtain ⟨tn, htn, htn2⟩ := k.2.2.2.2.2
  have d1 := k.2.2.2.1.1
  have d2 := k.2.2.2.1.2.1 b hb
  obtain ⟨tt, htot, htot2, htot3⟩ := k.tot
  have r4 := k.2.2.1.2.2.2.1.2
  have k4 := k.2.2.1.2.2.2.2.1.2
  have e21 := epk
  have hcnt := k.2.1.2.1.2.2.2.2.1.trans k.2.2.1.2.2.2.2.1.1
  have hkd0 : ¬ aI α 21 p < 0 := by obtain ⟨kd, q1, q2⟩ := (k.2.2.1.2.2.2.2.2.2.2.2.2.2 p hp).1; rw [q1]; exact nI_pos (by omega)
  have loop : ¬ aI α 21 p ≤ 0 → ∀ m h, h + m = nk → scn (pickF α p) (aI α 21 p) (pickB α p) m h → Jg X 0 0 S 11 [(0, .ref (sA S 9 0)), (1, .ref (sA S 6 p)), (2, .ref (sA S 0 b)), (3, .int (nI h))] [] := by
    intro hnk m
    induction m with
    | zero =>
      intro h hz hs
      obtain rfl : h = nk := by omega
      refine j_iload_n (q := 12) hO dX9_takenByPicker_11 rfl rfl ?_
      refine j_aload_n (q := 13) hO dX9_takenByPicker_12 rfl rfl ?_
      refine j_getI (x := 9) (j := 13) (q := 16) hO CK_9 dX9_takenByPicker_13 rfl mw_85 rfl kT.1.c9 rfl rfl (by decide) (Or.inl rfl) ?_
      refine j_icmp_ge (tgt := 82) (q := 19) hO dX9_takenByPicker_16 rfl (by decide) (fun c16 => ?_) (fun c16 => ?_)
      · refine j_iconst (v := 0) (q := 83) hO dX9_takenByPicker_82 rfl (by decide) ?_
        exact j_zret hM dX9_takenByPicker_83 (Nat.le_of_ble_eq_true rfl) (Nat.le_of_ble_eq_true rfl) (by decide) (pickPost.n hs.z)
      · exact absurd (by rw [hcnt]; exact nI_le (Nat.le_refl _) (by omega)) c16
    | succ m ih =>
      intro h hz hs
      refine j_iload_n (q := 12) hO dX9_takenByPicker_11 rfl rfl ?_
      refine j_aload_n (q := 13) hO dX9_takenByPicker_12 rfl rfl ?_
      refine j_getI (x := 9) (j := 13) (q := 16) hO CK_9 dX9_takenByPicker_13 rfl mw_85 rfl kT.1.c9 rfl rfl (by decide) (Or.inl rfl) ?_
      refine j_icmp_ge (tgt := 82) (q := 19) hO dX9_takenByPicker_16 rfl (by decide) (fun c16 => ?_) (fun c16 => ?_)
      · exact absurd c16 (by rw [hcnt]; exact nI_ge (by omega) (by omega))
      · obtain ⟨er0, ⟨br, er1, er2, er3⟩, er4, er5⟩ := k.2.1.2.2.2.2.2.1 h (by omega)
        have hrc : h < sC S 5 := by have := k.2.1.1.2.2.2.1; omega
        have hbrc : br < sC S 0 := by have := k.2.1.1.1; omega
        have hN14 := k.1.2.2.2.2.2.2.1
        obtain ⟨d4a, d4b⟩ := k.2.2.2.1.2.2.2.1 h (by omega)
        refine j_aload_n (q := 20) hO dX9_takenByPicker_19 rfl rfl ?_
        refine j_getRs (x := 9) (j := 4) (q := 23) hO CK_9 dX9_takenByPicker_20 rfl mw_76 rfl kT.1.c9 rfl rfl (by decide) rfl kT.1.r4 ?_
        refine j_iload_n (q := 24) hO dX9_takenByPicker_23 rfl rfl ?_
        refine j_aald (x := 14) (c0 := 7) (q := 25) hO dX9_takenByPicker_24 rfl rfl kT.1.c14 rfl rfl (fun _ => rfl) rfl (j := h) rfl (by omega) (by omega) ?_
        rw [er0]
        refine j_astore (q := 27) hO dX9_takenByPicker_25 rfl (by rw [hM.nL]; decide) rfl ?_
        refine j_aload (q := 29) hO dX9_takenByPicker_27 rfl rfl ?_
        refine j_getRs (x := 5) (j := 0) (q := 32) hO CK_5 dX9_takenByPicker_29 rfl mw_278 rfl hrc rfl rfl (by decide) rfl er3 ?_
        refine j_aload_n (q := 33) hO dX9_takenByPicker_32 rfl rfl ?_
        refine j_acmp_ne (rx := some (sA S 0 br)) (ry := some (sA S 0 b)) (tgt := 76) (q := 36) hO dX9_takenByPicker_33 rfl (by decide) rfl rfl (fun c33 => ?_) (fun c33 => ?_)
        · refine j_iinc (v := nI (h + 1)) (q := 79) hO dX9_takenByPicker_76 rfl rfl (nI_S h) (by rw [hM.nL]; decide) rfl ?_
          refine j_goto (tgt := 11) hO dX9_takenByPicker_79 (by decide) ?_
          refine Jg.lv (lv' := [(0, .ref (sA S 9 0)), (1, .ref (sA S 6 p)), (2, .ref (sA S 0 b)), (3, .int (nI (h + 1)))]) ⟨rfl, rfl, rfl, rfl, trivial⟩ ?_
          exact ih (h + 1) (by omega) (hs.n hnk (decide_eq_false (fun z => c33 (by rw [show br = b from (nI_eq (by omega) (by omega)).mp (er1.symm.trans (z.1.trans hbp))]))))
        · refine j_aload_n (q := 37) hO dX9_takenByPicker_36 rfl rfl ?_
          refine j_getI (x := 9) (j := 16) (q := 40) hO CK_9 dX9_takenByPicker_37 rfl mw_88 rfl kT.1.c9 rfl rfl (by decide) (Or.inl rfl) ?_
          refine j_aload (q := 42) hO dX9_takenByPicker_40 rfl rfl ?_
          refine j_getI (x := 5) (j := 4) (q := 45) hO CK_5 dX9_takenByPicker_42 rfl mw_283 rfl hrc rfl rfl (by decide) (Or.inl rfl) ?_
          refine j_icmp_lt (tgt := 76) (q := 48) hO dX9_takenByPicker_45 rfl (by decide) (fun c45 => ?_) (fun c45 => ?_)
          · refine j_iinc (v := nI (h + 1)) (q := 79) hO dX9_takenByPicker_76 rfl rfl (nI_S h) (by rw [hM.nL]; decide) rfl ?_
            refine j_goto (tgt := 11) hO dX9_takenByPicker_79 (by decide) ?_
            refine Jg.lv (lv' := [(0, .ref (sA S 9 0)), (1, .ref (sA S 6 p)), (2, .ref (sA S 0 b)), (3, .int (nI (h + 1)))]) ⟨rfl, rfl, rfl, rfl, trivial⟩ ?_
            exact ih (h + 1) (by omega) (hs.n hnk (decide_eq_false (fun z => z.2 (by rw [← d4b, ← d1]; exact c45))))
          · refine j_aload (q := 50) hO dX9_takenByPicker_48 rfl rfl ?_
            refine j_aload_n (q := 51) hO dX9_takenByPicker_50 rfl rfl ?_
            refine j_getI (x := 9) (j := 16) (q := 54) hO CK_9 dX9_takenByPicker_51 rfl mw_88 rfl kT.1.c9 rfl rfl (by decide) (Or.inl rfl) ?_
            refine j_callV (x := 5) (q := 57) hO (c_5_take (lx X) _ h _ hrc (by rw [er4, er5, d4a]; exact hpk h (by omega))) M_5_take mw_428 CK_5 rfl hrc rfl rfl rfl (by unfold roomy; rw [hM.R]; exact ⟨⟨Nat.le_of_ble_eq_true rfl, Nat.le_of_ble_eq_true rfl⟩, ⟨Nat.le_of_ble_eq_true rfl, Nat.le_of_ble_eq_true rfl⟩, Nat.le_of_ble_eq_true rfl⟩) dX9_takenByPicker_54 rfl (fun v_54 S_54 hp_54 => ?_)
            obtain ⟨rfl, rfl⟩ := hp_54
            have dT := k.2.2.2.1.take (h0 := h) (by omega) er4 er5
            refine j_aload_n (q := 58) hO dX9_takenByPicker_57 rfl rfl ?_
            refine j_getRs (x := 9) (j := 7) (q := 61) hO CK_9 dX9_takenByPicker_58 rfl mw_79 rfl kT.1.c9 rfl rfl (by decide) rfl kT.1.r7 ?_
            refine j_aload_n (q := 62) hO dX9_takenByPicker_61 rfl rfl ?_
            refine j_getI (x := 9) (j := 16) (q := 65) hO CK_9 dX9_takenByPicker_62 rfl mw_88 rfl kT.1.c9 rfl rfl (by decide) (Or.inl rfl) ?_
            refine j_aload_n (q := 66) hO dX9_takenByPicker_65 rfl rfl ?_
            refine j_getI (x := 6) (j := 0) (q := 69) hO CK_6 dX9_takenByPicker_66 rfl mw_330 rfl hpc rfl rfl (by decide) (Or.inl rfl) ?_
            refine j_iconst (v := 5) (q := 70) hO dX9_takenByPicker_69 rfl (by decide) ?_
            refine j_iload_n (q := 71) hO dX9_takenByPicker_70 rfl rfl ?_
            refine j_callV (x := 3) (q := 74) hO (c_3_add (lx X) _ 0 tt _ _ _ _ k.1.c3a k.1.2.2.1.1 k.1.c18a (show sN S 18 0 ≤ 2000 by rw [k.1.2.2.2.2.2.2.2.2.2.1]; decide) htot (by omega)) M_3_add mw_391 CK_3 rfl k.1.c3a rfl rfl rfl (by unfold roomy; rw [hM.R]; exact ⟨⟨Nat.le_of_ble_eq_true rfl, Nat.le_of_ble_eq_true rfl⟩, ⟨Nat.le_of_ble_eq_true rfl, Nat.le_of_ble_eq_true rfl⟩, Nat.le_of_ble_eq_true rfl⟩) dX9_takenByPicker_71 rfl (fun v_71 S_71 hp_71 => ?_)
            obtain ⟨rfl, rfl⟩ := hp_71
            have hL := dT.note (p := p) (w := 5) (h := h) (k.1.sc (Sc.rf.take)) htot2 (by omega) htn htn2 (by omega) (by decide) (by omega)
            refine j_iconst (v := 1) (q := 75) hO dX9_takenByPicker_74 rfl (by decide) ?_
            exact j_zret hM dX9_takenByPicker_75 (Nat.le_of_ble_eq_true rfl) (Nat.le_of_ble_eq_true rfl) (by decide) (pickPost.y (hs.y hnk (decide_eq_true ⟨show aI α 16 h = aI α 26 p by rw [er1, hbp, show br = b from hinj 0 br b hbrc hbc (Option.some.inj c33)], by rw [← d4b, ← d1]; exact c45⟩)) Sc.rf.take.log (hL.lg epn rfl))
  refine j_aload_n (q := 1) hO dX9_takenByPicker_0 rfl rfl ?_
  refine j_getI (x := 6) (j := 3) (q := 4) hO CK_6 dX9_takenByPicker_1 rfl mw_336 rfl hpc rfl rfl (by decide) (Or.inl rfl) ?_
  refine j_if_ne (tgt := 9) (q := 7) hO dX9_takenByPicker_4 rfl (by decide) (fun c4 => ?_) (fun c4 => ?_)
  · refine j_iconst (v := 0) (q := 10) hO dX9_takenByPicker_9 rfl (by decide) ?_
    refine j_istore_n (q := 11) hO dX9_takenByPicker_10 rfl (by rw [hM.nL]; decide) rfl ?_
    refine Jg.lv (lv' := [(0, .ref (sA S 9 0)), (1, .ref (sA S 6 p)), (2, .ref (sA S 0 b)), (3, .int (nI 0))]) ⟨rfl, rfl, rfl, rfl, trivial⟩ ?_
    exact loop (fun z => c4 (by rw [epk]; exact kind_le hkd0 z)) nk 0 (by omega) (by unfold scn pickF; rw [k.nps.2.2.2])
  · refine j_iconst (v := 0) (q := 8) hO dX9_takenByPicker_7 rfl (by decide) ?_
    exact j_zret hM dX9_takenByPicker_8 (Nat.le_of_ble_eq_true rfl) (Nat.le_of_ble_eq_true rfl) (by decide) (pickPost.n (by unfold pickF; rw [if_pos (show aI α 21 p ≤ 0 by rw [← epk, c4]; decide)]))
