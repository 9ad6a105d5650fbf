set_option maxHeartbeats 4000000 in
set_option maxRecDepth 100000 in
theorem c_9_passHeads (l : Launch) (S : St) (α : Al) (nb nh nu nr nk np n p b : Nat) (k : Kx S α nb nh nu nr nk np n) (hn : n + 8 < 2 ^ 30) (hp : p < np) (hb : b < nb) (hon : aI α 25 p = 1) (hbp : aI α 26 p = nI b) : Ct l yX9_passHeads cX9_passHeads 6 (none : Option Jvm.ClassFile.FieldType) (rm 1 0 0 24) [.ref (sA S 9 0), .ref (sA S 6 p), .ref (sA S 0 b)] S (fun r S' => r = none ∧ Sc S S' ∧ Cd S' (passL α p nh) nb nu nk np) := by
  refine Ct.of (by decide) (Nat.le_of_ble_eq_true rfl) (fun X hM => ?_)
  have hO := hM.1
  obtain rfl := hM.l
  show Jg X 0 0 S 0 [(0, .ref (sA S 9 0)), (1, .ref (sA S 6 p)), (2, .ref (sA S 0 b))] []
  refine Jg.inj (fun hinj => ?_)
  have loop : ∀ m h, h + m = nh → ∀ T, Sc S T → Cd T (passL α p h) nb nu nk np → Jg X 0 0 T 2 [(0, .ref (sA S 9 0)), (1, .ref (sA S 6 p)), (2, .ref (sA S 0 b)), (3, .int (nI h))] [] := by
    intro m
    induction m with
    | zero =>
      intro h hz T hT dT
      obtain rfl : h = nh := by omega
      obtain ⟨I, J, D, R, rfl⟩ := hT.form
      have kT := k.to hT (Sm.rf.pass (p := p) h) dT (passL_T k.2.2.2.2.1 h) (passL_I (by decide) (by omega) h)
      have np60 := kT.2.2.1.2.2.2.2.2.1.2
      have n8 := kT.2.2.1.2.1.2
      have n6 := kT.2.2.1.1.2
      have hcnt := kT.2.1.2.1.2.2.1.trans kT.2.2.1.2.1.1
      have hpc : p < sC S 6 := by have := k.2.1.1.2.2.2.2.2.1; omega
      have hbc : b < sC S 0 := by have := k.2.1.1.1; omega
      refine j_iload_n (q := 3) hO dX9_passHeads_2 rfl rfl ?_
      refine j_aload_n (q := 4) hO dX9_passHeads_3 rfl rfl ?_
      refine j_getI (x := 9) (j := 11) (q := 7) hO CK_9 dX9_passHeads_4 rfl mw_83 rfl kT.1.c9 rfl rfl (by decide) (Or.inl rfl) ?_
      refine j_icmp_ge (tgt := 96) (q := 10) hO dX9_passHeads_7 rfl (by decide) (fun c7 => ?_) (fun c7 => ?_)
      · exact j_vret hM dX9_passHeads_96 (Nat.le_of_ble_eq_true rfl) (Nat.le_of_ble_eq_true rfl) ⟨rfl, hT, dT⟩
      · exact absurd (by rw [hcnt]; exact nI_le (Nat.le_refl _) (by omega)) c7
    | succ m ih =>
      intro h hz T hT dT
      obtain ⟨I, J, D, R, rfl⟩ := hT.form
      have kT := k.to hT (Sm.rf.pass (p := p) h) dT (passL_T k.2.2.2.2.1 h) (passL_I (by decide) (by omega) h)
      have np60 := kT.2.2.1.2.2.2.2.2.1.2
      have n8 := kT.2.2.1.2.1.2
      have n6 := kT.2.2.1.1.2
      have hcnt := kT.2.1.2.1.2.2.1.trans kT.2.2.1.2.1.1
      have hpc : p < sC S 6 := by have := k.2.1.1.2.2.2.2.2.1; omega
      have hbc : b < sC S 0 := by have := k.2.1.1.1; omega
      refine j_iload_n (q := 3) hO dX9_passHeads_2 rfl rfl ?_
      refine j_aload_n (q := 4) hO dX9_passHeads_3 rfl rfl ?_
      refine j_getI (x := 9) (j := 11) (q := 7) hO CK_9 dX9_passHeads_4 rfl mw_83 rfl kT.1.c9 rfl rfl (by decide) (Or.inl rfl) ?_
      refine j_icmp_ge (tgt := 96) (q := 10) hO dX9_passHeads_7 rfl (by decide) (fun c7 => ?_) (fun c7 => ?_)
      · exact absurd c7 (by rw [hcnt]; exact nI_ge (by omega) (by omega))
      · obtain ⟨e12, ⟨bh, eb1, eb2, eb3⟩, e1p, e2m⟩ := kT.2.1.2.2.2.1 h (by omega)
        have hhc : h < sC S 2 := by have := k.2.1.1.2.1; omega
        have hN12 := kT.1.2.2.2.2.1
        have hbhc : bh < sC S 0 := by have := k.2.1.1.1; omega
        have q26 := (passL_I (α := α) (p := p) (k := 26) (j := p) (by decide) (by omega) h).trans hbp
        have q25 := (passL_I (α := α) (p := p) (k := 25) (j := p) (by decide) (by omega) h).trans hon
        obtain ⟨_, _, _, _, e27⟩ := (kT.2.2.2.1.2.2.2.2.1 p hp).1 q25
        have enum := (kT.2.1.2.2.2.2.2.2.2 p hp).2.1
        obtain ⟨tt, htot, htot2, htot3⟩ := kT.tot
        refine j_aload_n (q := 11) hO dX9_passHeads_10 rfl rfl ?_
        refine j_getRs (x := 9) (j := 2) (q := 14) hO CK_9 dX9_passHeads_11 rfl mw_74 rfl kT.1.c9 rfl rfl (by decide) rfl kT.1.r2 ?_
        refine j_iload_n (q := 15) hO dX9_passHeads_14 rfl rfl ?_
        refine j_aald (x := 12) (c0 := 5) (q := 16) hO dX9_passHeads_15 rfl rfl kT.1.c12 rfl rfl (fun _ => rfl) rfl (j := h) rfl (by omega) (by omega) ?_
        rw [e12]
        refine j_astore (q := 18) hO dX9_passHeads_16 rfl (by rw [hM.nL]; decide) rfl ?_
        refine j_aload (q := 20) hO dX9_passHeads_18 rfl rfl ?_
        refine j_getRs (x := 2) (j := 0) (q := 23) hO CK_2 dX9_passHeads_20 rfl mw_219 rfl hhc rfl rfl (by decide) rfl eb3 ?_
        refine j_aload_n (q := 24) hO dX9_passHeads_23 rfl rfl ?_
        refine j_acmp_ne (rx := some (sA S 0 bh)) (ry := some (sA S 0 b)) (tgt := 90) (q := 27) hO dX9_passHeads_24 rfl (by decide) rfl rfl (fun c24 => ?_) (fun c24 => ?_)
        · refine j_iinc (v := nI (h + 1)) (q := 93) hO dX9_passHeads_90 rfl rfl (nI_S h) (by rw [hM.nL]; decide) rfl ?_
          refine j_goto (tgt := 2) hO dX9_passHeads_93 (by decide) ?_
          refine Jg.lv (lv' := [(0, .ref (sA S 9 0)), (1, .ref (sA S 6 p)), (2, .ref (sA S 0 b)), (3, .int (nI (h + 1)))]) ⟨rfl, rfl, rfl, rfl, trivial⟩ ?_
          exact ih (h + 1) (by omega) _ hT (by rw [pass_s (fun z => c24 (by rw [show bh = b from (nI_eq (by omega) (by omega)).mp (eb1.symm.trans (z.1.trans q26))]))]; exact dT)
        · refine j_aload (q := 29) hO dX9_passHeads_27 rfl rfl ?_
          refine j_getI (x := 2) (j := 1) (q := 32) hO CK_2 dX9_passHeads_29 rfl mw_221 rfl hhc rfl rfl (by decide) (Or.inl rfl) ?_
          refine j_aload_n (q := 33) hO dX9_passHeads_32 rfl rfl ?_
          refine j_getI (x := 6) (j := 6) (q := 36) hO CK_6 dX9_passHeads_33 rfl mw_340 rfl hpc rfl rfl (by decide) (Or.inl rfl) ?_
          refine j_icmp_ne (tgt := 90) (q := 39) hO dX9_passHeads_36 rfl (by decide) (fun c36 => ?_) (fun c36 => ?_)
          · refine j_iinc (v := nI (h + 1)) (q := 93) hO dX9_passHeads_90 rfl rfl (nI_S h) (by rw [hM.nL]; decide) rfl ?_
            refine j_goto (tgt := 2) hO dX9_passHeads_93 (by decide) ?_
            refine Jg.lv (lv' := [(0, .ref (sA S 9 0)), (1, .ref (sA S 6 p)), (2, .ref (sA S 0 b)), (3, .int (nI (h + 1)))]) ⟨rfl, rfl, rfl, rfl, trivial⟩ ?_
            exact ih (h + 1) (by omega) _ hT (by rw [pass_s (fun z => c36 (e1p.trans (z.2.trans e27.symm)))]; exact dT)
          · refine j_aload_n (q := 40) hO dX9_passHeads_39 rfl rfl ?_
            refine j_aload_n (q := 41) hO dX9_passHeads_40 rfl rfl ?_
            refine j_getI (x := 6) (j := 0) (q := 44) hO CK_6 dX9_passHeads_41 rfl mw_330 rfl hpc rfl rfl (by decide) (Or.inl rfl) ?_
            refine j_iload_n (q := 45) hO dX9_passHeads_44 rfl rfl ?_
            refine j_callV (x := 9) (q := 48) hO (c_9_chance (lx X) _ _ _ kT.1.c9) M_9_chance mw_407 CK_9 rfl kT.1.c9 rfl rfl rfl (by unfold roomy; rw [hM.R]; exact ⟨⟨Nat.le_of_ble_eq_true rfl, Nat.le_of_ble_eq_true rfl⟩, ⟨Nat.le_of_ble_eq_true rfl, Nat.le_of_ble_eq_true rfl⟩, Nat.le_of_ble_eq_true rfl⟩) dX9_passHeads_45 rfl (fun v_45 S_45 hp_45 => ?_)
            obtain ⟨rfl, rfl⟩ := hp_45
            refine j_aload (q := 50) hO dX9_passHeads_48 rfl rfl ?_
            refine j_getD (x := 2) (j := 2) (q := 53) hO CK_2 dX9_passHeads_50 rfl mw_223 rfl hhc rfl rfl (by decide) rfl ?_
            refine j_dcmp (q := 54) hO dX9_passHeads_53 rfl ?_
            refine j_if_ge (tgt := 61) (q := 57) hO dX9_passHeads_54 rfl (by decide) (fun c54 => ?_) (fun c54 => ?_)
            · refine j_iconst (v := 0) (q := 62) hO dX9_passHeads_61 rfl (by decide) ?_
              refine j_istore (q := 64) hO dX9_passHeads_62 rfl (by rw [hM.nL]; decide) rfl ?_
              refine j_aload_n (q := 65) hO dX9_passHeads_64 rfl rfl ?_
              refine j_getRs (x := 9) (j := 7) (q := 68) hO CK_9 dX9_passHeads_65 rfl mw_79 rfl kT.1.c9 rfl rfl (by decide) rfl kT.1.r7 ?_
              refine j_aload_n (q := 69) hO dX9_passHeads_68 rfl rfl ?_
              refine j_getI (x := 9) (j := 16) (q := 72) hO CK_9 dX9_passHeads_69 rfl mw_88 rfl kT.1.c9 rfl rfl (by decide) (Or.inl rfl) ?_
              refine j_aload_n (q := 73) hO dX9_passHeads_72 rfl rfl ?_
              refine j_getI (x := 6) (j := 0) (q := 76) hO CK_6 dX9_passHeads_73 rfl mw_330 rfl hpc rfl rfl (by decide) (Or.inl rfl) ?_
              refine j_iload (q := 78) hO dX9_passHeads_76 rfl rfl ?_
              refine j_if_eq (tgt := 85) (q := 81) hO dX9_passHeads_78 rfl (by decide) (fun c78 => ?_) (fun c78 => ?_)
              · refine j_iconst (v := 1) (q := 86) hO dX9_passHeads_85 rfl (by decide) ?_
                refine j_iload_n (q := 87) hO dX9_passHeads_86 rfl rfl ?_
                refine j_callV (x := 3) (q := 90) hO (c_3_add (lx X) _ 0 tt _ _ _ _ kT.1.c3a kT.1.2.2.1.1 kT.1.c18a (by rw [kT.1.2.2.2.2.2.2.2.2.2.1]; decide) htot (by omega)) M_3_add mw_391 CK_3 rfl kT.1.c3a rfl rfl rfl (by unfold roomy; rw [hM.R]; exact ⟨⟨Nat.le_of_ble_eq_true rfl, Nat.le_of_ble_eq_true rfl⟩, ⟨Nat.le_of_ble_eq_true rfl, Nat.le_of_ble_eq_true rfl⟩, Nat.le_of_ble_eq_true rfl⟩) dX9_passHeads_87 rfl (fun v_87 S_87 hp_87 => ?_)
                obtain ⟨rfl, rfl⟩ := hp_87
                refine j_iinc (v := nI (h + 1)) (q := 93) hO dX9_passHeads_90 rfl rfl (nI_S h) (by rw [hM.nL]; decide) rfl ?_
                refine j_goto (tgt := 2) hO dX9_passHeads_93 (by decide) ?_
                refine Jg.lv (lv' := [(0, .ref (sA S 9 0)), (1, .ref (sA S 6 p)), (2, .ref (sA S 0 b)), (3, .int (nI (h + 1)))]) ⟨rfl, rfl, rfl, rfl, trivial⟩ ?_
                refine ih (h + 1) (by omega) _ hT.log ?_
                rw [pass_y1 (show aI (passL α p h) 8 h = aI (passL α p h) 26 p by rw [eb1, q26, show bh = b from hinj 0 bh b hbhc hbc (Option.some.inj c24)]) (show aI (passL α p h) 9 h = aI (passL α p h) 27 p from e1p.symm.trans (c36.trans e27)) (by rw [← kT.2.1.2.1.1, ← e2m, ← enum]; exact c54), enum]
                exact (kT.note (p := p) (w := 1) (h := h) (by omega) (by omega) (by decide) (by omega)).2.2.2.1
              · exact absurd rfl c78
            · refine j_iconst (v := 1) (q := 58) hO dX9_passHeads_57 rfl (by decide) ?_
              refine j_goto (tgt := 62) hO dX9_passHeads_58 (by decide) ?_
              refine j_istore (q := 64) hO dX9_passHeads_62 rfl (by rw [hM.nL]; decide) rfl ?_
              refine j_aload_n (q := 65) hO dX9_passHeads_64 rfl rfl ?_
              refine j_getRs (x := 9) (j := 7) (q := 68) hO CK_9 dX9_passHeads_65 rfl mw_79 rfl kT.1.c9 rfl rfl (by decide) rfl kT.1.r7 ?_
              refine j_aload_n (q := 69) hO dX9_passHeads_68 rfl rfl ?_
              refine j_getI (x := 9) (j := 16) (q := 72) hO CK_9 dX9_passHeads_69 rfl mw_88 rfl kT.1.c9 rfl rfl (by decide) (Or.inl rfl) ?_
              refine j_aload_n (q := 73) hO dX9_passHeads_72 rfl rfl ?_
              refine j_getI (x := 6) (j := 0) (q := 76) hO CK_6 dX9_passHeads_73 rfl mw_330 rfl hpc rfl rfl (by decide) (Or.inl rfl) ?_
              refine j_iload (q := 78) hO dX9_passHeads_76 rfl rfl ?_
              refine j_if_eq (tgt := 85) (q := 81) hO dX9_passHeads_78 rfl (by decide) (fun c78 => ?_) (fun c78 => ?_)
              · exact absurd c78 (by decide)
              · refine j_iconst (v := 2) (q := 82) hO dX9_passHeads_81 rfl (by decide) ?_
                refine j_goto (tgt := 86) hO dX9_passHeads_82 (by decide) ?_
                refine j_iload_n (q := 87) hO dX9_passHeads_86 rfl rfl ?_
                refine j_callV (x := 3) (q := 90) hO (c_3_add (lx X) _ 0 tt _ _ _ _ kT.1.c3a kT.1.2.2.1.1 kT.1.c18a (by rw [kT.1.2.2.2.2.2.2.2.2.2.1]; decide) htot (by omega)) M_3_add mw_391 CK_3 rfl kT.1.c3a rfl rfl rfl (by unfold roomy; rw [hM.R]; exact ⟨⟨Nat.le_of_ble_eq_true rfl, Nat.le_of_ble_eq_true rfl⟩, ⟨Nat.le_of_ble_eq_true rfl, Nat.le_of_ble_eq_true rfl⟩, Nat.le_of_ble_eq_true rfl⟩) dX9_passHeads_87 rfl (fun v_87 S_87 hp_87 => ?_)
                obtain ⟨rfl, rfl⟩ := hp_87
                refine j_iinc (v := nI (h + 1)) (q := 93) hO dX9_passHeads_90 rfl rfl (nI_S h) (by rw [hM.nL]; decide) rfl ?_
                refine j_goto (tgt := 2) hO dX9_passHeads_93 (by decide) ?_
                refine Jg.lv (lv' := [(0, .ref (sA S 9 0)), (1, .ref (sA S 6 p)), (2, .ref (sA S 0 b)), (3, .int (nI (h + 1)))]) ⟨rfl, rfl, rfl, rfl, trivial⟩ ?_
                refine ih (h + 1) (by omega) _ hT.log ?_
                rw [pass_y2 (show aI (passL α p h) 8 h = aI (passL α p h) 26 p by rw [eb1, q26, show bh = b from hinj 0 bh b hbhc hbc (Option.some.inj c24)]) (show aI (passL α p h) 9 h = aI (passL α p h) 27 p from e1p.symm.trans (c36.trans e27)) (by rw [← kT.2.1.2.1.1, ← e2m, ← enum]; exact c54), enum]
                exact (kT.note (p := p) (w := 2) (h := h) (by omega) (by omega) (by decide) (by omega)).2.2.2.1
  refine j_iconst (v := 0) (q := 1) hO dX9_passHeads_0 rfl (by decide) ?_
  refine j_istore_n (q := 2) hO dX9_passHeads_1 rfl (by rw [hM.nL]; decide) rfl ?_
  refine Jg.lv (lv' := [(0, .ref (sA S 9 0)), (1, .ref (sA S 6 p)), (2, .ref (sA S 0 b)), (3, .int (nI 0))]) ⟨rfl, rfl, rfl, rfl, trivial⟩ ?_
  exact loop nh 0 (by omega) S Sc.rf k.2.2.2.1
