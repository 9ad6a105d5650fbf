set_option maxHeartbeats 4000000 in
set_option maxRecDepth 100000 in
theorem c_10_init (l : Launch) (S : St) (v : Int64) (hc10 : sC S 10 = 1) (hk : ∀ k, 20 ≤ k → k < 55 → sC S k = 0) (hz : ∀ j, sI S 10 0 j = 0 ∧ sJ S 10 0 j = 0 ∧ sD S 10 0 j = 0) : Ct l yX10_init cX10_init 3 (none : Option Jvm.ClassFile.FieldType) (rm 1 35 8950 20) [.ref (sA S 10 0), .long v] S (fun r S' => r = none ∧ Mz S S' v) := by
  refine Ct.of (by decide) (Nat.le_of_ble_eq_true rfl) (fun X hM => ?_)
  have hO := hM.1
  obtain rfl := hM.l
  have hIn := hM.nm
  show Jg X 0 0 S 0 [(0, .ref (sA S 10 0)), (1, .long v)] []
  refine j_aload_n (q := 1) hO dX10_init_0 rfl rfl ?_
  refine j_obj (q := 4) hO mw_497 mw_19 mw_20 dX10_init_1 rfl (by rw [hM.R]; exact ⟨Nat.le_of_ble_eq_true rfl, Nat.le_of_ble_eq_true rfl⟩) ?_
  have h0 : Md S S 0 0 := ⟨Cg.rf, ⟨rfl, rfl⟩, fun k h1 h2 => absurd h2 (by omega), fun k h1 h2 => hk k (by omega) h2, fun j h1 => absurd h1 (Nat.not_lt_zero _), fun j => ⟨rfl, rfl, rfl⟩⟩
  refine j_aload_n (q := 5) hO dX10_init_4 rfl rfl ?_
  refine j_bipush (v := 6) (q := 7) hO dX10_init_5 rfl (by decide) ?_
  refine j_newah (h := 0) (x := 20) (z := 6) (c0 := 0) (fty := .int) (row := (.inl (fun _ => 0))) (q := 9) hO dX10_init_7 rfl mw_47 rfl rfl rfl (fun _ => rfl) (fun a => sX_I (Or.inl rfl)) (fun _ => rfl) rfl (by decide) (by decide) (by rw [hM.R]; exact ⟨Nat.le_of_ble_eq_true rfl, Nat.le_of_ble_eq_true rfl⟩) (h0.2.2.2.1 20 (by omega) (by omega)) (fun a0 => ?_)
  refine j_putFR (fty := tyX10 2) (x := 10) (j := 2) (q := 12) hO hIn CK_10 dX10_init_9 rfl mw_500 ((nO_Ao (by decide)).trans h0.2.1.1).symm (by rw [sC_nOo (by decide), h0.2.1.2, hc10]; decide) rfl rfl (by decide) rfl rfl (by decide +kernel) rfl rfl rfl (r := 0) rfl (show 0 < sC (nO S 20 a0 6) 20 by rw [sC_nOs]; omega) ?_
  have h1 := h0.step (x := 20) (a := a0) (z := 6) (j := 2) (by omega) (by omega) rfl (by omega) (by intro i h1 h2; have hi : i = 0 ∨ i = 1 := (by omega); rcases hi with rfl | rfl <;> decide) hc10
  generalize pR (nO S 20 a0 6) 10 0 2 (some 0) = T1 at h1 ⊢
  skip
  refine j_aload_n (q := 13) hO dX10_init_12 rfl rfl ?_
  refine j_bipush (v := 6) (q := 15) hO dX10_init_13 rfl (by decide) ?_
  refine j_newah (h := 0) (x := 21) (z := 6) (c0 := 2) (fty := .double) (row := (.inr (.inr (.inr (.inl (fun _ => 0)))))) (q := 17) hO dX10_init_15 rfl mw_634 rfl rfl rfl (fun _ => rfl) (fun a => sX_D rfl) (fun _ => rfl) rfl (by decide) (by decide) (by rw [hM.R]; exact ⟨Nat.le_of_ble_eq_true rfl, Nat.le_of_ble_eq_true rfl⟩) (h1.2.2.2.1 21 (by omega) (by omega)) (fun a1 => ?_)
  refine j_putFR (fty := tyX10 3) (x := 10) (j := 3) (q := 20) hO hIn CK_10 dX10_init_17 rfl mw_501 ((nO_Ao (by decide)).trans h1.2.1.1).symm (by rw [sC_nOo (by decide), h1.2.1.2, hc10]; decide) rfl rfl (by decide) rfl rfl (by decide +kernel) rfl rfl rfl (r := 0) rfl (show 0 < sC (nO T1 21 a1 6) 21 by rw [sC_nOs]; omega) ?_
  have h2 := h1.step (x := 21) (a := a1) (z := 6) (j := 3) (by omega) (by omega) rfl (by omega) (by intro i h1 h2; have hi : False := (by omega); exact hi.elim) hc10
  generalize pR (nO T1 21 a1 6) 10 0 3 (some 0) = T2 at h2 ⊢
  clear h1
  refine j_aload_n (q := 21) hO dX10_init_20 rfl rfl ?_
  refine j_bipush (v := 6) (q := 23) hO dX10_init_21 rfl (by decide) ?_
  refine j_newah (h := 0) (x := 22) (z := 6) (c0 := 0) (fty := .int) (row := (.inl (fun _ => 0))) (q := 25) hO dX10_init_23 rfl mw_47 rfl rfl rfl (fun _ => rfl) (fun a => sX_I (Or.inl rfl)) (fun _ => rfl) rfl (by decide) (by decide) (by rw [hM.R]; exact ⟨Nat.le_of_ble_eq_true rfl, Nat.le_of_ble_eq_true rfl⟩) (h2.2.2.2.1 22 (by omega) (by omega)) (fun a2 => ?_)
  refine j_putFR (fty := tyX10 4) (x := 10) (j := 4) (q := 28) hO hIn CK_10 dX10_init_25 rfl mw_502 ((nO_Ao (by decide)).trans h2.2.1.1).symm (by rw [sC_nOo (by decide), h2.2.1.2, hc10]; decide) rfl rfl (by decide) rfl rfl (by decide +kernel) rfl rfl rfl (r := 0) rfl (show 0 < sC (nO T2 22 a2 6) 22 by rw [sC_nOs]; omega) ?_
  have h3 := h2.step (x := 22) (a := a2) (z := 6) (j := 4) (by omega) (by omega) rfl (by omega) (by intro i h1 h2; have hi : False := (by omega); exact hi.elim) hc10
  generalize pR (nO T2 22 a2 6) 10 0 4 (some 0) = T3 at h3 ⊢
  clear h2
  refine j_aload_n (q := 29) hO dX10_init_28 rfl rfl ?_
  refine j_bipush (v := 6) (q := 31) hO dX10_init_29 rfl (by decide) ?_
  refine j_newah (h := 0) (x := 23) (z := 6) (c0 := 3) (fty := .boolean) (row := (.inl (fun _ => 0))) (q := 33) hO dX10_init_31 rfl mw_635 rfl rfl rfl (fun _ => rfl) (fun a => sX_I (Or.inr rfl)) (fun _ => rfl) rfl (by decide) (by decide) (by rw [hM.R]; exact ⟨Nat.le_of_ble_eq_true rfl, Nat.le_of_ble_eq_true rfl⟩) (h3.2.2.2.1 23 (by omega) (by omega)) (fun a3 => ?_)
  refine j_putFR (fty := tyX10 5) (x := 10) (j := 5) (q := 36) hO hIn CK_10 dX10_init_33 rfl mw_503 ((nO_Ao (by decide)).trans h3.2.1.1).symm (by rw [sC_nOo (by decide), h3.2.1.2, hc10]; decide) rfl rfl (by decide) rfl rfl (by decide +kernel) rfl rfl rfl (r := 0) rfl (show 0 < sC (nO T3 23 a3 6) 23 by rw [sC_nOs]; omega) ?_
  have h4 := h3.step (x := 23) (a := a3) (z := 6) (j := 5) (by omega) (by omega) rfl (by omega) (by intro i h1 h2; have hi : False := (by omega); exact hi.elim) hc10
  generalize pR (nO T3 23 a3 6) 10 0 5 (some 0) = T4 at h4 ⊢
  clear h3
  refine j_aload_n (q := 37) hO dX10_init_36 rfl rfl ?_
  refine j_bipush (v := 6) (q := 39) hO dX10_init_37 rfl (by decide) ?_
  refine j_newah (h := 0) (x := 24) (z := 6) (c0 := 2) (fty := .double) (row := (.inr (.inr (.inr (.inl (fun _ => 0)))))) (q := 41) hO dX10_init_39 rfl mw_634 rfl rfl rfl (fun _ => rfl) (fun a => sX_D rfl) (fun _ => rfl) rfl (by decide) (by decide) (by rw [hM.R]; exact ⟨Nat.le_of_ble_eq_true rfl, Nat.le_of_ble_eq_true rfl⟩) (h4.2.2.2.1 24 (by omega) (by omega)) (fun a4 => ?_)
  refine j_putFR (fty := tyX10 6) (x := 10) (j := 6) (q := 44) hO hIn CK_10 dX10_init_41 rfl mw_504 ((nO_Ao (by decide)).trans h4.2.1.1).symm (by rw [sC_nOo (by decide), h4.2.1.2, hc10]; decide) rfl rfl (by decide) rfl rfl (by decide +kernel) rfl rfl rfl (r := 0) rfl (show 0 < sC (nO T4 24 a4 6) 24 by rw [sC_nOs]; omega) ?_
  have h5 := h4.step (x := 24) (a := a4) (z := 6) (j := 6) (by omega) (by omega) rfl (by omega) (by intro i h1 h2; have hi : False := (by omega); exact hi.elim) hc10
  generalize pR (nO T4 24 a4 6) 10 0 6 (some 0) = T5 at h5 ⊢
  clear h4
  refine j_aload_n (q := 45) hO dX10_init_44 rfl rfl ?_
  refine j_bipush (v := 6) (q := 47) hO dX10_init_45 rfl (by decide) ?_
  refine j_newah (h := 0) (x := 25) (z := 6) (c0 := 0) (fty := .int) (row := (.inl (fun _ => 0))) (q := 49) hO dX10_init_47 rfl mw_47 rfl rfl rfl (fun _ => rfl) (fun a => sX_I (Or.inl rfl)) (fun _ => rfl) rfl (by decide) (by decide) (by rw [hM.R]; exact ⟨Nat.le_of_ble_eq_true rfl, Nat.le_of_ble_eq_true rfl⟩) (h5.2.2.2.1 25 (by omega) (by omega)) (fun a5 => ?_)
  refine j_putFR (fty := tyX10 7) (x := 10) (j := 7) (q := 52) hO hIn CK_10 dX10_init_49 rfl mw_505 ((nO_Ao (by decide)).trans h5.2.1.1).symm (by rw [sC_nOo (by decide), h5.2.1.2, hc10]; decide) rfl rfl (by decide) rfl rfl (by decide +kernel) rfl rfl rfl (r := 0) rfl (show 0 < sC (nO T5 25 a5 6) 25 by rw [sC_nOs]; omega) ?_
  have h6 := h5.step (x := 25) (a := a5) (z := 6) (j := 7) (by omega) (by omega) rfl (by omega) (by intro i h1 h2; have hi : False := (by omega); exact hi.elim) hc10
  generalize pR (nO T5 25 a5 6) 10 0 7 (some 0) = T6 at h6 ⊢
  clear h5
  refine j_aload_n (q := 53) hO dX10_init_52 rfl rfl ?_
  refine j_bipush (v := 6) (q := 55) hO dX10_init_53 rfl (by decide) ?_
  refine j_newah (h := 0) (x := 26) (z := 6) (c0 := 0) (fty := .int) (row := (.inl (fun _ => 0))) (q := 57) hO dX10_init_55 rfl mw_47 rfl rfl rfl (fun _ => rfl) (fun a => sX_I (Or.inl rfl)) (fun _ => rfl) rfl (by decide) (by decide) (by rw [hM.R]; exact ⟨Nat.le_of_ble_eq_true rfl, Nat.le_of_ble_eq_true rfl⟩) (h6.2.2.2.1 26 (by omega) (by omega)) (fun a6 => ?_)
  refine j_putFR (fty := tyX10 8) (x := 10) (j := 8) (q := 60) hO hIn CK_10 dX10_init_57 rfl mw_506 ((nO_Ao (by decide)).trans h6.2.1.1).symm (by rw [sC_nOo (by decide), h6.2.1.2, hc10]; decide) rfl rfl (by decide) rfl rfl (by decide +kernel) rfl rfl rfl (r := 0) rfl (show 0 < sC (nO T6 26 a6 6) 26 by rw [sC_nOs]; omega) ?_
  have h7 := h6.step (x := 26) (a := a6) (z := 6) (j := 8) (by omega) (by omega) rfl (by omega) (by intro i h1 h2; have hi : False := (by omega); exact hi.elim) hc10
  generalize pR (nO T6 26 a6 6) 10 0 8 (some 0) = T7 at h7 ⊢
  clear h6
  refine j_aload_n (q := 61) hO dX10_init_60 rfl rfl ?_
  refine j_bipush (v := 8) (q := 63) hO dX10_init_61 rfl (by decide) ?_
  refine j_newah (h := 0) (x := 27) (z := 8) (c0 := 0) (fty := .int) (row := (.inl (fun _ => 0))) (q := 65) hO dX10_init_63 rfl mw_47 rfl rfl rfl (fun _ => rfl) (fun a => sX_I (Or.inl rfl)) (fun _ => rfl) rfl (by decide) (by decide) (by rw [hM.R]; exact ⟨Nat.le_of_ble_eq_true rfl, Nat.le_of_ble_eq_true rfl⟩) (h7.2.2.2.1 27 (by omega) (by omega)) (fun a7 => ?_)
  refine j_putFR (fty := tyX10 10) (x := 10) (j := 10) (q := 68) hO hIn CK_10 dX10_init_65 rfl mw_508 ((nO_Ao (by decide)).trans h7.2.1.1).symm (by rw [sC_nOo (by decide), h7.2.1.2, hc10]; decide) rfl rfl (by decide) rfl rfl (by decide +kernel) rfl rfl rfl (r := 0) rfl (show 0 < sC (nO T7 27 a7 8) 27 by rw [sC_nOs]; omega) ?_
  have h8 := h7.step (x := 27) (a := a7) (z := 8) (j := 10) (by omega) (by omega) rfl (by omega) (by intro i h1 h2; have hi : i = 9 := (by omega); rcases hi with rfl <;> decide) hc10
  generalize pR (nO T7 27 a7 8) 10 0 10 (some 0) = T8 at h8 ⊢
  clear h7
  refine j_aload_n (q := 69) hO dX10_init_68 rfl rfl ?_
  refine j_bipush (v := 8) (q := 71) hO dX10_init_69 rfl (by decide) ?_
  refine j_newah (h := 0) (x := 28) (z := 8) (c0 := 0) (fty := .int) (row := (.inl (fun _ => 0))) (q := 73) hO dX10_init_71 rfl mw_47 rfl rfl rfl (fun _ => rfl) (fun a => sX_I (Or.inl rfl)) (fun _ => rfl) rfl (by decide) (by decide) (by rw [hM.R]; exact ⟨Nat.le_of_ble_eq_true rfl, Nat.le_of_ble_eq_true rfl⟩) (h8.2.2.2.1 28 (by omega) (by omega)) (fun a8 => ?_)
  refine j_putFR (fty := tyX10 11) (x := 10) (j := 11) (q := 76) hO hIn CK_10 dX10_init_73 rfl mw_509 ((nO_Ao (by decide)).trans h8.2.1.1).symm (by rw [sC_nOo (by decide), h8.2.1.2, hc10]; decide) rfl rfl (by decide) rfl rfl (by decide +kernel) rfl rfl rfl (r := 0) rfl (show 0 < sC (nO T8 28 a8 8) 28 by rw [sC_nOs]; omega) ?_
  have h9 := h8.step (x := 28) (a := a8) (z := 8) (j := 11) (by omega) (by omega) rfl (by omega) (by intro i h1 h2; have hi : False := (by omega); exact hi.elim) hc10
  generalize pR (nO T8 28 a8 8) 10 0 11 (some 0) = T9 at h9 ⊢
  clear h8
  refine j_aload_n (q := 77) hO dX10_init_76 rfl rfl ?_
  refine j_bipush (v := 8) (q := 79) hO dX10_init_77 rfl (by decide) ?_
  refine j_newah (h := 0) (x := 29) (z := 8) (c0 := 2) (fty := .double) (row := (.inr (.inr (.inr (.inl (fun _ => 0)))))) (q := 81) hO dX10_init_79 rfl mw_634 rfl rfl rfl (fun _ => rfl) (fun a => sX_D rfl) (fun _ => rfl) rfl (by decide) (by decide) (by rw [hM.R]; exact ⟨Nat.le_of_ble_eq_true rfl, Nat.le_of_ble_eq_true rfl⟩) (h9.2.2.2.1 29 (by omega) (by omega)) (fun a9 => ?_)
  refine j_putFR (fty := tyX10 12) (x := 10) (j := 12) (q := 84) hO hIn CK_10 dX10_init_81 rfl mw_510 ((nO_Ao (by decide)).trans h9.2.1.1).symm (by rw [sC_nOo (by decide), h9.2.1.2, hc10]; decide) rfl rfl (by decide) rfl rfl (by decide +kernel) rfl rfl rfl (r := 0) rfl (show 0 < sC (nO T9 29 a9 8) 29 by rw [sC_nOs]; omega) ?_
  have h10 := h9.step (x := 29) (a := a9) (z := 8) (j := 12) (by omega) (by omega) rfl (by omega) (by intro i h1 h2; have hi : False := (by omega); exact hi.elim) hc10
  generalize pR (nO T9 29 a9 8) 10 0 12 (some 0) = T10 at h10 ⊢
  clear h9
  refine j_aload_n (q := 85) hO dX10_init_84 rfl rfl ?_
  refine j_iconst (v := 4) (q := 86) hO dX10_init_85 rfl (by decide) ?_
  refine j_newah (h := 0) (x := 30) (z := 4) (c0 := 2) (fty := .double) (row := (.inr (.inr (.inr (.inl (fun _ => 0)))))) (q := 88) hO dX10_init_86 rfl mw_634 rfl rfl rfl (fun _ => rfl) (fun a => sX_D rfl) (fun _ => rfl) rfl (by decide) (by decide) (by rw [hM.R]; exact ⟨Nat.le_of_ble_eq_true rfl, Nat.le_of_ble_eq_true rfl⟩) (h10.2.2.2.1 30 (by omega) (by omega)) (fun a10 => ?_)
  refine j_putFR (fty := tyX10 14) (x := 10) (j := 14) (q := 91) hO hIn CK_10 dX10_init_88 rfl mw_512 ((nO_Ao (by decide)).trans h10.2.1.1).symm (by rw [sC_nOo (by decide), h10.2.1.2, hc10]; decide) rfl rfl (by decide) rfl rfl (by decide +kernel) rfl rfl rfl (r := 0) rfl (show 0 < sC (nO T10 30 a10 4) 30 by rw [sC_nOs]; omega) ?_
  have h11 := h10.step (x := 30) (a := a10) (z := 4) (j := 14) (by omega) (by omega) rfl (by omega) (by intro i h1 h2; have hi : i = 13 := (by omega); rcases hi with rfl <;> decide) hc10
  generalize pR (nO T10 30 a10 4) 10 0 14 (some 0) = T11 at h11 ⊢
  clear h10
  refine j_aload_n (q := 92) hO dX10_init_91 rfl rfl ?_
  refine j_iconst (v := 4) (q := 93) hO dX10_init_92 rfl (by decide) ?_
  refine j_newah (h := 0) (x := 31) (z := 4) (c0 := 2) (fty := .double) (row := (.inr (.inr (.inr (.inl (fun _ => 0)))))) (q := 95) hO dX10_init_93 rfl mw_634 rfl rfl rfl (fun _ => rfl) (fun a => sX_D rfl) (fun _ => rfl) rfl (by decide) (by decide) (by rw [hM.R]; exact ⟨Nat.le_of_ble_eq_true rfl, Nat.le_of_ble_eq_true rfl⟩) (h11.2.2.2.1 31 (by omega) (by omega)) (fun a11 => ?_)
  refine j_putFR (fty := tyX10 15) (x := 10) (j := 15) (q := 98) hO hIn CK_10 dX10_init_95 rfl mw_513 ((nO_Ao (by decide)).trans h11.2.1.1).symm (by rw [sC_nOo (by decide), h11.2.1.2, hc10]; decide) rfl rfl (by decide) rfl rfl (by decide +kernel) rfl rfl rfl (r := 0) rfl (show 0 < sC (nO T11 31 a11 4) 31 by rw [sC_nOs]; omega) ?_
  have h12 := h11.step (x := 31) (a := a11) (z := 4) (j := 15) (by omega) (by omega) rfl (by omega) (by intro i h1 h2; have hi : False := (by omega); exact hi.elim) hc10
  generalize pR (nO T11 31 a11 4) 10 0 15 (some 0) = T12 at h12 ⊢
  clear h11
  refine j_aload_n (q := 99) hO dX10_init_98 rfl rfl ?_
  refine j_iconst (v := 4) (q := 100) hO dX10_init_99 rfl (by decide) ?_
  refine j_newah (h := 0) (x := 32) (z := 4) (c0 := 0) (fty := .int) (row := (.inl (fun _ => 0))) (q := 102) hO dX10_init_100 rfl mw_47 rfl rfl rfl (fun _ => rfl) (fun a => sX_I (Or.inl rfl)) (fun _ => rfl) rfl (by decide) (by decide) (by rw [hM.R]; exact ⟨Nat.le_of_ble_eq_true rfl, Nat.le_of_ble_eq_true rfl⟩) (h12.2.2.2.1 32 (by omega) (by omega)) (fun a12 => ?_)
  refine j_putFR (fty := tyX10 17) (x := 10) (j := 17) (q := 105) hO hIn CK_10 dX10_init_102 rfl mw_515 ((nO_Ao (by decide)).trans h12.2.1.1).symm (by rw [sC_nOo (by decide), h12.2.1.2, hc10]; decide) rfl rfl (by decide) rfl rfl (by decide +kernel) rfl rfl rfl (r := 0) rfl (show 0 < sC (nO T12 32 a12 4) 32 by rw [sC_nOs]; omega) ?_
  have h13 := h12.step (x := 32) (a := a12) (z := 4) (j := 17) (by omega) (by omega) rfl (by omega) (by intro i h1 h2; have hi : i = 16 := (by omega); rcases hi with rfl <;> decide) hc10
  generalize pR (nO T12 32 a12 4) 10 0 17 (some 0) = T13 at h13 ⊢
  clear h12
  refine j_aload_n (q := 106) hO dX10_init_105 rfl rfl ?_
  refine j_iconst (v := 4) (q := 107) hO dX10_init_106 rfl (by decide) ?_
  refine j_newah (h := 0) (x := 33) (z := 4) (c0 := 2) (fty := .double) (row := (.inr (.inr (.inr (.inl (fun _ => 0)))))) (q := 109) hO dX10_init_107 rfl mw_634 rfl rfl rfl (fun _ => rfl) (fun a => sX_D rfl) (fun _ => rfl) rfl (by decide) (by decide) (by rw [hM.R]; exact ⟨Nat.le_of_ble_eq_true rfl, Nat.le_of_ble_eq_true rfl⟩) (h13.2.2.2.1 33 (by omega) (by omega)) (fun a13 => ?_)
  refine j_putFR (fty := tyX10 18) (x := 10) (j := 18) (q := 112) hO hIn CK_10 dX10_init_109 rfl mw_516 ((nO_Ao (by decide)).trans h13.2.1.1).symm (by rw [sC_nOo (by decide), h13.2.1.2, hc10]; decide) rfl rfl (by decide) rfl rfl (by decide +kernel) rfl rfl rfl (r := 0) rfl (show 0 < sC (nO T13 33 a13 4) 33 by rw [sC_nOs]; omega) ?_
  have h14 := h13.step (x := 33) (a := a13) (z := 4) (j := 18) (by omega) (by omega) rfl (by omega) (by intro i h1 h2; have hi : False := (by omega); exact hi.elim) hc10
  generalize pR (nO T13 33 a13 4) 10 0 18 (some 0) = T14 at h14 ⊢
  clear h13
  refine j_aload_n (q := 113) hO dX10_init_112 rfl rfl ?_
  refine j_iconst (v := 4) (q := 114) hO dX10_init_113 rfl (by decide) ?_
  refine j_newah (h := 0) (x := 34) (z := 4) (c0 := 2) (fty := .double) (row := (.inr (.inr (.inr (.inl (fun _ => 0)))))) (q := 116) hO dX10_init_114 rfl mw_634 rfl rfl rfl (fun _ => rfl) (fun a => sX_D rfl) (fun _ => rfl) rfl (by decide) (by decide) (by rw [hM.R]; exact ⟨Nat.le_of_ble_eq_true rfl, Nat.le_of_ble_eq_true rfl⟩) (h14.2.2.2.1 34 (by omega) (by omega)) (fun a14 => ?_)
  refine j_putFR (fty := tyX10 19) (x := 10) (j := 19) (q := 119) hO hIn CK_10 dX10_init_116 rfl mw_517 ((nO_Ao (by decide)).trans h14.2.1.1).symm (by rw [sC_nOo (by decide), h14.2.1.2, hc10]; decide) rfl rfl (by decide) rfl rfl (by decide +kernel) rfl rfl rfl (r := 0) rfl (show 0 < sC (nO T14 34 a14 4) 34 by rw [sC_nOs]; omega) ?_
  have h15 := h14.step (x := 34) (a := a14) (z := 4) (j := 19) (by omega) (by omega) rfl (by omega) (by intro i h1 h2; have hi : False := (by omega); exact hi.elim) hc10
  generalize pR (nO T14 34 a14 4) 10 0 19 (some 0) = T15 at h15 ⊢
  clear h14
  refine j_aload_n (q := 120) hO dX10_init_119 rfl rfl ?_
  refine j_iconst (v := 4) (q := 121) hO dX10_init_120 rfl (by decide) ?_
  refine j_newah (h := 0) (x := 35) (z := 4) (c0 := 0) (fty := .int) (row := (.inl (fun _ => 0))) (q := 123) hO dX10_init_121 rfl mw_47 rfl rfl rfl (fun _ => rfl) (fun a => sX_I (Or.inl rfl)) (fun _ => rfl) rfl (by decide) (by decide) (by rw [hM.R]; exact ⟨Nat.le_of_ble_eq_true rfl, Nat.le_of_ble_eq_true rfl⟩) (h15.2.2.2.1 35 (by omega) (by omega)) (fun a15 => ?_)
  refine j_putFR (fty := tyX10 21) (x := 10) (j := 21) (q := 126) hO hIn CK_10 dX10_init_123 rfl mw_519 ((nO_Ao (by decide)).trans h15.2.1.1).symm (by rw [sC_nOo (by decide), h15.2.1.2, hc10]; decide) rfl rfl (by decide) rfl rfl (by decide +kernel) rfl rfl rfl (r := 0) rfl (show 0 < sC (nO T15 35 a15 4) 35 by rw [sC_nOs]; omega) ?_
  have h16 := h15.step (x := 35) (a := a15) (z := 4) (j := 21) (by omega) (by omega) rfl (by omega) (by intro i h1 h2; have hi : i = 20 := (by omega); rcases hi with rfl <;> decide) hc10
  generalize pR (nO T15 35 a15 4) 10 0 21 (some 0) = T16 at h16 ⊢
  clear h15
  refine j_aload_n (q := 127) hO dX10_init_126 rfl rfl ?_
  refine j_iconst (v := 4) (q := 128) hO dX10_init_127 rfl (by decide) ?_
  refine j_newah (h := 0) (x := 36) (z := 4) (c0 := 2) (fty := .double) (row := (.inr (.inr (.inr (.inl (fun _ => 0)))))) (q := 130) hO dX10_init_128 rfl mw_634 rfl rfl rfl (fun _ => rfl) (fun a => sX_D rfl) (fun _ => rfl) rfl (by decide) (by decide) (by rw [hM.R]; exact ⟨Nat.le_of_ble_eq_true rfl, Nat.le_of_ble_eq_true rfl⟩) (h16.2.2.2.1 36 (by omega) (by omega)) (fun a16 => ?_)
  refine j_putFR (fty := tyX10 22) (x := 10) (j := 22) (q := 133) hO hIn CK_10 dX10_init_130 rfl mw_520 ((nO_Ao (by decide)).trans h16.2.1.1).symm (by rw [sC_nOo (by decide), h16.2.1.2, hc10]; decide) rfl rfl (by decide) rfl rfl (by decide +kernel) rfl rfl rfl (r := 0) rfl (show 0 < sC (nO T16 36 a16 4) 36 by rw [sC_nOs]; omega) ?_
  have h17 := h16.step (x := 36) (a := a16) (z := 4) (j := 22) (by omega) (by omega) rfl (by omega) (by intro i h1 h2; have hi : False := (by omega); exact hi.elim) hc10
  generalize pR (nO T16 36 a16 4) 10 0 22 (some 0) = T17 at h17 ⊢
  clear h16
  refine j_aload_n (q := 134) hO dX10_init_133 rfl rfl ?_
  refine j_iconst (v := 4) (q := 135) hO dX10_init_134 rfl (by decide) ?_
  refine j_newah (h := 0) (x := 37) (z := 4) (c0 := 2) (fty := .double) (row := (.inr (.inr (.inr (.inl (fun _ => 0)))))) (q := 137) hO dX10_init_135 rfl mw_634 rfl rfl rfl (fun _ => rfl) (fun a => sX_D rfl) (fun _ => rfl) rfl (by decide) (by decide) (by rw [hM.R]; exact ⟨Nat.le_of_ble_eq_true rfl, Nat.le_of_ble_eq_true rfl⟩) (h17.2.2.2.1 37 (by omega) (by omega)) (fun a17 => ?_)
  refine j_putFR (fty := tyX10 23) (x := 10) (j := 23) (q := 140) hO hIn CK_10 dX10_init_137 rfl mw_521 ((nO_Ao (by decide)).trans h17.2.1.1).symm (by rw [sC_nOo (by decide), h17.2.1.2, hc10]; decide) rfl rfl (by decide) rfl rfl (by decide +kernel) rfl rfl rfl (r := 0) rfl (show 0 < sC (nO T17 37 a17 4) 37 by rw [sC_nOs]; omega) ?_
  have h18 := h17.step (x := 37) (a := a17) (z := 4) (j := 23) (by omega) (by omega) rfl (by omega) (by intro i h1 h2; have hi : False := (by omega); exact hi.elim) hc10
  generalize pR (nO T17 37 a17 4) 10 0 23 (some 0) = T18 at h18 ⊢
  clear h17
  refine j_aload_n (q := 141) hO dX10_init_140 rfl rfl ?_
  refine j_iconst (v := 4) (q := 142) hO dX10_init_141 rfl (by decide) ?_
  refine j_newah (h := 0) (x := 38) (z := 4) (c0 := 0) (fty := .int) (row := (.inl (fun _ => 0))) (q := 144) hO dX10_init_142 rfl mw_47 rfl rfl rfl (fun _ => rfl) (fun a => sX_I (Or.inl rfl)) (fun _ => rfl) rfl (by decide) (by decide) (by rw [hM.R]; exact ⟨Nat.le_of_ble_eq_true rfl, Nat.le_of_ble_eq_true rfl⟩) (h18.2.2.2.1 38 (by omega) (by omega)) (fun a18 => ?_)
  refine j_putFR (fty := tyX10 24) (x := 10) (j := 24) (q := 147) hO hIn CK_10 dX10_init_144 rfl mw_522 ((nO_Ao (by decide)).trans h18.2.1.1).symm (by rw [sC_nOo (by decide), h18.2.1.2, hc10]; decide) rfl rfl (by decide) rfl rfl (by decide +kernel) rfl rfl rfl (r := 0) rfl (show 0 < sC (nO T18 38 a18 4) 38 by rw [sC_nOs]; omega) ?_
  have h19 := h18.step (x := 38) (a := a18) (z := 4) (j := 24) (by omega) (by omega) rfl (by omega) (by intro i h1 h2; have hi : False := (by omega); exact hi.elim) hc10
  generalize pR (nO T18 38 a18 4) 10 0 24 (some 0) = T19 at h19 ⊢
  clear h18
  refine j_aload_n (q := 148) hO dX10_init_147 rfl rfl ?_
  refine j_iconst (v := 4) (q := 149) hO dX10_init_148 rfl (by decide) ?_
  refine j_newah (h := 0) (x := 39) (z := 4) (c0 := 0) (fty := .int) (row := (.inl (fun _ => 0))) (q := 151) hO dX10_init_149 rfl mw_47 rfl rfl rfl (fun _ => rfl) (fun a => sX_I (Or.inl rfl)) (fun _ => rfl) rfl (by decide) (by decide) (by rw [hM.R]; exact ⟨Nat.le_of_ble_eq_true rfl, Nat.le_of_ble_eq_true rfl⟩) (h19.2.2.2.1 39 (by omega) (by omega)) (fun a19 => ?_)
  refine j_putFR (fty := tyX10 25) (x := 10) (j := 25) (q := 154) hO hIn CK_10 dX10_init_151 rfl mw_523 ((nO_Ao (by decide)).trans h19.2.1.1).symm (by rw [sC_nOo (by decide), h19.2.1.2, hc10]; decide) rfl rfl (by decide) rfl rfl (by decide +kernel) rfl rfl rfl (r := 0) rfl (show 0 < sC (nO T19 39 a19 4) 39 by rw [sC_nOs]; omega) ?_
  have h20 := h19.step (x := 39) (a := a19) (z := 4) (j := 25) (by omega) (by omega) rfl (by omega) (by intro i h1 h2; have hi : False := (by omega); exact hi.elim) hc10
  generalize pR (nO T19 39 a19 4) 10 0 25 (some 0) = T20 at h20 ⊢
  clear h19
  refine j_aload_n (q := 155) hO dX10_init_154 rfl rfl ?_
  refine j_bipush (v := 60) (q := 157) hO dX10_init_155 rfl (by decide) ?_
  refine j_newah (h := 0) (x := 40) (z := 60) (c0 := 0) (fty := .int) (row := (.inl (fun _ => 0))) (q := 159) hO dX10_init_157 rfl mw_47 rfl rfl rfl (fun _ => rfl) (fun a => sX_I (Or.inl rfl)) (fun _ => rfl) rfl (by decide) (by decide) (by rw [hM.R]; exact ⟨Nat.le_of_ble_eq_true rfl, Nat.le_of_ble_eq_true rfl⟩) (h20.2.2.2.1 40 (by omega) (by omega)) (fun a20 => ?_)
  refine j_putFR (fty := tyX10 27) (x := 10) (j := 27) (q := 162) hO hIn CK_10 dX10_init_159 rfl mw_525 ((nO_Ao (by decide)).trans h20.2.1.1).symm (by rw [sC_nOo (by decide), h20.2.1.2, hc10]; decide) rfl rfl (by decide) rfl rfl (by decide +kernel) rfl rfl rfl (r := 0) rfl (show 0 < sC (nO T20 40 a20 60) 40 by rw [sC_nOs]; omega) ?_
  have h21 := h20.step (x := 40) (a := a20) (z := 60) (j := 27) (by omega) (by omega) rfl (by omega) (by intro i h1 h2; have hi : i = 26 := (by omega); rcases hi with rfl <;> decide) hc10
  generalize pR (nO T20 40 a20 60) 10 0 27 (some 0) = T21 at h21 ⊢
  clear h20
  refine j_aload_n (q := 163) hO dX10_init_162 rfl rfl ?_
  refine j_bipush (v := 60) (q := 165) hO dX10_init_163 rfl (by decide) ?_
  refine j_newah (h := 0) (x := 41) (z := 60) (c0 := 2) (fty := .double) (row := (.inr (.inr (.inr (.inl (fun _ => 0)))))) (q := 167) hO dX10_init_165 rfl mw_634 rfl rfl rfl (fun _ => rfl) (fun a => sX_D rfl) (fun _ => rfl) rfl (by decide) (by decide) (by rw [hM.R]; exact ⟨Nat.le_of_ble_eq_true rfl, Nat.le_of_ble_eq_true rfl⟩) (h21.2.2.2.1 41 (by omega) (by omega)) (fun a21 => ?_)
  refine j_putFR (fty := tyX10 28) (x := 10) (j := 28) (q := 170) hO hIn CK_10 dX10_init_167 rfl mw_526 ((nO_Ao (by decide)).trans h21.2.1.1).symm (by rw [sC_nOo (by decide), h21.2.1.2, hc10]; decide) rfl rfl (by decide) rfl rfl (by decide +kernel) rfl rfl rfl (r := 0) rfl (show 0 < sC (nO T21 41 a21 60) 41 by rw [sC_nOs]; omega) ?_
  have h22 := h21.step (x := 41) (a := a21) (z := 60) (j := 28) (by omega) (by omega) rfl (by omega) (by intro i h1 h2; have hi : False := (by omega); exact hi.elim) hc10
  generalize pR (nO T21 41 a21 60) 10 0 28 (some 0) = T22 at h22 ⊢
  clear h21
  refine j_aload_n (q := 171) hO dX10_init_170 rfl rfl ?_
  refine j_bipush (v := 60) (q := 173) hO dX10_init_171 rfl (by decide) ?_
  refine j_newah (h := 0) (x := 42) (z := 60) (c0 := 0) (fty := .int) (row := (.inl (fun _ => 0))) (q := 175) hO dX10_init_173 rfl mw_47 rfl rfl rfl (fun _ => rfl) (fun a => sX_I (Or.inl rfl)) (fun _ => rfl) rfl (by decide) (by decide) (by rw [hM.R]; exact ⟨Nat.le_of_ble_eq_true rfl, Nat.le_of_ble_eq_true rfl⟩) (h22.2.2.2.1 42 (by omega) (by omega)) (fun a22 => ?_)
  refine j_putFR (fty := tyX10 29) (x := 10) (j := 29) (q := 178) hO hIn CK_10 dX10_init_175 rfl mw_527 ((nO_Ao (by decide)).trans h22.2.1.1).symm (by rw [sC_nOo (by decide), h22.2.1.2, hc10]; decide) rfl rfl (by decide) rfl rfl (by decide +kernel) rfl rfl rfl (r := 0) rfl (show 0 < sC (nO T22 42 a22 60) 42 by rw [sC_nOs]; omega) ?_
  have h23 := h22.step (x := 42) (a := a22) (z := 60) (j := 29) (by omega) (by omega) rfl (by omega) (by intro i h1 h2; have hi : False := (by omega); exact hi.elim) hc10
  generalize pR (nO T22 42 a22 60) 10 0 29 (some 0) = T23 at h23 ⊢
  clear h22
  refine j_aload_n (q := 179) hO dX10_init_178 rfl rfl ?_
  refine j_bipush (v := 60) (q := 181) hO dX10_init_179 rfl (by decide) ?_
  refine j_newah (h := 0) (x := 43) (z := 60) (c0 := 0) (fty := .int) (row := (.inl (fun _ => 0))) (q := 183) hO dX10_init_181 rfl mw_47 rfl rfl rfl (fun _ => rfl) (fun a => sX_I (Or.inl rfl)) (fun _ => rfl) rfl (by decide) (by decide) (by rw [hM.R]; exact ⟨Nat.le_of_ble_eq_true rfl, Nat.le_of_ble_eq_true rfl⟩) (h23.2.2.2.1 43 (by omega) (by omega)) (fun a23 => ?_)
  refine j_putFR (fty := tyX10 30) (x := 10) (j := 30) (q := 186) hO hIn CK_10 dX10_init_183 rfl mw_528 ((nO_Ao (by decide)).trans h23.2.1.1).symm (by rw [sC_nOo (by decide), h23.2.1.2, hc10]; decide) rfl rfl (by decide) rfl rfl (by decide +kernel) rfl rfl rfl (r := 0) rfl (show 0 < sC (nO T23 43 a23 60) 43 by rw [sC_nOs]; omega) ?_
  have h24 := h23.step (x := 43) (a := a23) (z := 60) (j := 30) (by omega) (by omega) rfl (by omega) (by intro i h1 h2; have hi : False := (by omega); exact hi.elim) hc10
  generalize pR (nO T23 43 a23 60) 10 0 30 (some 0) = T24 at h24 ⊢
  clear h23
  refine j_aload_n (q := 187) hO dX10_init_186 rfl rfl ?_
  refine j_bipush (v := 60) (q := 189) hO dX10_init_187 rfl (by decide) ?_
  refine j_newah (h := 0) (x := 44) (z := 60) (c0 := 0) (fty := .int) (row := (.inl (fun _ => 0))) (q := 191) hO dX10_init_189 rfl mw_47 rfl rfl rfl (fun _ => rfl) (fun a => sX_I (Or.inl rfl)) (fun _ => rfl) rfl (by decide) (by decide) (by rw [hM.R]; exact ⟨Nat.le_of_ble_eq_true rfl, Nat.le_of_ble_eq_true rfl⟩) (h24.2.2.2.1 44 (by omega) (by omega)) (fun a24 => ?_)
  refine j_putFR (fty := tyX10 31) (x := 10) (j := 31) (q := 194) hO hIn CK_10 dX10_init_191 rfl mw_529 ((nO_Ao (by decide)).trans h24.2.1.1).symm (by rw [sC_nOo (by decide), h24.2.1.2, hc10]; decide) rfl rfl (by decide) rfl rfl (by decide +kernel) rfl rfl rfl (r := 0) rfl (show 0 < sC (nO T24 44 a24 60) 44 by rw [sC_nOs]; omega) ?_
  have h25 := h24.step (x := 44) (a := a24) (z := 60) (j := 31) (by omega) (by omega) rfl (by omega) (by intro i h1 h2; have hi : False := (by omega); exact hi.elim) hc10
  generalize pR (nO T24 44 a24 60) 10 0 31 (some 0) = T25 at h25 ⊢
  clear h24
  refine j_aload_n (q := 195) hO dX10_init_194 rfl rfl ?_
  refine j_bipush (v := 60) (q := 197) hO dX10_init_195 rfl (by decide) ?_
  refine j_newah (h := 0) (x := 45) (z := 60) (c0 := 0) (fty := .int) (row := (.inl (fun _ => 0))) (q := 199) hO dX10_init_197 rfl mw_47 rfl rfl rfl (fun _ => rfl) (fun a => sX_I (Or.inl rfl)) (fun _ => rfl) rfl (by decide) (by decide) (by rw [hM.R]; exact ⟨Nat.le_of_ble_eq_true rfl, Nat.le_of_ble_eq_true rfl⟩) (h25.2.2.2.1 45 (by omega) (by omega)) (fun a25 => ?_)
  refine j_putFR (fty := tyX10 32) (x := 10) (j := 32) (q := 202) hO hIn CK_10 dX10_init_199 rfl mw_530 ((nO_Ao (by decide)).trans h25.2.1.1).symm (by rw [sC_nOo (by decide), h25.2.1.2, hc10]; decide) rfl rfl (by decide) rfl rfl (by decide +kernel) rfl rfl rfl (r := 0) rfl (show 0 < sC (nO T25 45 a25 60) 45 by rw [sC_nOs]; omega) ?_
  have h26 := h25.step (x := 45) (a := a25) (z := 60) (j := 32) (by omega) (by omega) rfl (by omega) (by intro i h1 h2; have hi : False := (by omega); exact hi.elim) hc10
  generalize pR (nO T25 45 a25 60) 10 0 32 (some 0) = T26 at h26 ⊢
  clear h25
  refine j_aload_n (q := 203) hO dX10_init_202 rfl rfl ?_
  refine j_bipush (v := 60) (q := 205) hO dX10_init_203 rfl (by decide) ?_
  refine j_newah (h := 0) (x := 46) (z := 60) (c0 := 0) (fty := .int) (row := (.inl (fun _ => 0))) (q := 207) hO dX10_init_205 rfl mw_47 rfl rfl rfl (fun _ => rfl) (fun a => sX_I (Or.inl rfl)) (fun _ => rfl) rfl (by decide) (by decide) (by rw [hM.R]; exact ⟨Nat.le_of_ble_eq_true rfl, Nat.le_of_ble_eq_true rfl⟩) (h26.2.2.2.1 46 (by omega) (by omega)) (fun a26 => ?_)
  refine j_putFR (fty := tyX10 33) (x := 10) (j := 33) (q := 210) hO hIn CK_10 dX10_init_207 rfl mw_531 ((nO_Ao (by decide)).trans h26.2.1.1).symm (by rw [sC_nOo (by decide), h26.2.1.2, hc10]; decide) rfl rfl (by decide) rfl rfl (by decide +kernel) rfl rfl rfl (r := 0) rfl (show 0 < sC (nO T26 46 a26 60) 46 by rw [sC_nOs]; omega) ?_
  have h27 := h26.step (x := 46) (a := a26) (z := 60) (j := 33) (by omega) (by omega) rfl (by omega) (by intro i h1 h2; have hi : False := (by omega); exact hi.elim) hc10
  generalize pR (nO T26 46 a26 60) 10 0 33 (some 0) = T27 at h27 ⊢
  clear h26
  refine j_aload_n (q := 211) hO dX10_init_210 rfl rfl ?_
  refine j_bipush (v := 60) (q := 213) hO dX10_init_211 rfl (by decide) ?_
  refine j_newah (h := 0) (x := 47) (z := 60) (c0 := 3) (fty := .boolean) (row := (.inl (fun _ => 0))) (q := 215) hO dX10_init_213 rfl mw_635 rfl rfl rfl (fun _ => rfl) (fun a => sX_I (Or.inr rfl)) (fun _ => rfl) rfl (by decide) (by decide) (by rw [hM.R]; exact ⟨Nat.le_of_ble_eq_true rfl, Nat.le_of_ble_eq_true rfl⟩) (h27.2.2.2.1 47 (by omega) (by omega)) (fun a27 => ?_)
  refine j_putFR (fty := tyX10 34) (x := 10) (j := 34) (q := 218) hO hIn CK_10 dX10_init_215 rfl mw_532 ((nO_Ao (by decide)).trans h27.2.1.1).symm (by rw [sC_nOo (by decide), h27.2.1.2, hc10]; decide) rfl rfl (by decide) rfl rfl (by decide +kernel) rfl rfl rfl (r := 0) rfl (show 0 < sC (nO T27 47 a27 60) 47 by rw [sC_nOs]; omega) ?_
  have h28 := h27.step (x := 47) (a := a27) (z := 60) (j := 34) (by omega) (by omega) rfl (by omega) (by intro i h1 h2; have hi : False := (by omega); exact hi.elim) hc10
  generalize pR (nO T27 47 a27 60) 10 0 34 (some 0) = T28 at h28 ⊢
  clear h27
  refine j_aload_n (q := 219) hO dX10_init_218 rfl rfl ?_
  refine j_sipush (v := 8000) (q := 222) hO dX10_init_219 rfl (by decide) ?_
  refine j_newah (h := 0) (x := 48) (z := 8000) (c0 := 0) (fty := .int) (row := (.inl (fun _ => 0))) (q := 224) hO dX10_init_222 rfl mw_47 rfl rfl rfl (fun _ => rfl) (fun a => sX_I (Or.inl rfl)) (fun _ => rfl) rfl (by decide) (by decide) (by rw [hM.R]; exact ⟨Nat.le_of_ble_eq_true rfl, Nat.le_of_ble_eq_true rfl⟩) (h28.2.2.2.1 48 (by omega) (by omega)) (fun a28 => ?_)
  refine j_putFR (fty := tyX10 37) (x := 10) (j := 37) (q := 227) hO hIn CK_10 dX10_init_224 rfl mw_535 ((nO_Ao (by decide)).trans h28.2.1.1).symm (by rw [sC_nOo (by decide), h28.2.1.2, hc10]; decide) rfl rfl (by decide) rfl rfl (by decide +kernel) rfl rfl rfl (r := 0) rfl (show 0 < sC (nO T28 48 a28 8000) 48 by rw [sC_nOs]; omega) ?_
  have h29 := h28.step (x := 48) (a := a28) (z := 8000) (j := 37) (by omega) (by omega) rfl (by omega) (by intro i h1 h2; have hi : i = 35 ∨ i = 36 := (by omega); rcases hi with rfl | rfl <;> decide) hc10
  generalize pR (nO T28 48 a28 8000) 10 0 37 (some 0) = T29 at h29 ⊢
  clear h28
  refine j_aload_n (q := 228) hO dX10_init_227 rfl rfl ?_
  refine j_sipush (v := 240) (q := 231) hO dX10_init_228 rfl (by decide) ?_
  refine j_newah (h := 0) (x := 49) (z := 240) (c0 := 0) (fty := .int) (row := (.inl (fun _ => 0))) (q := 233) hO dX10_init_231 rfl mw_47 rfl rfl rfl (fun _ => rfl) (fun a => sX_I (Or.inl rfl)) (fun _ => rfl) rfl (by decide) (by decide) (by rw [hM.R]; exact ⟨Nat.le_of_ble_eq_true rfl, Nat.le_of_ble_eq_true rfl⟩) (h29.2.2.2.1 49 (by omega) (by omega)) (fun a29 => ?_)
  refine j_putFR (fty := tyX10 39) (x := 10) (j := 39) (q := 236) hO hIn CK_10 dX10_init_233 rfl mw_537 ((nO_Ao (by decide)).trans h29.2.1.1).symm (by rw [sC_nOo (by decide), h29.2.1.2, hc10]; decide) rfl rfl (by decide) rfl rfl (by decide +kernel) rfl rfl rfl (r := 0) rfl (show 0 < sC (nO T29 49 a29 240) 49 by rw [sC_nOs]; omega) ?_
  have h30 := h29.step (x := 49) (a := a29) (z := 240) (j := 39) (by omega) (by omega) rfl (by omega) (by intro i h1 h2; have hi : i = 38 := (by omega); rcases hi with rfl <;> decide) hc10
  generalize pR (nO T29 49 a29 240) 10 0 39 (some 0) = T30 at h30 ⊢
  clear h29
  refine j_aload_n (q := 237) hO dX10_init_236 rfl rfl ?_
  refine j_iconst (v := 4) (q := 238) hO dX10_init_237 rfl (by decide) ?_
  refine j_newah (h := 0) (x := 50) (z := 4) (c0 := 1) (fty := .long) (row := (.inr (.inl (fun _ => 0)))) (q := 240) hO dX10_init_238 rfl mw_71 rfl rfl rfl (fun _ => rfl) (fun a => sX_J rfl) (fun _ => rfl) rfl (by decide) (by decide) (by rw [hM.R]; exact ⟨Nat.le_of_ble_eq_true rfl, Nat.le_of_ble_eq_true rfl⟩) (h30.2.2.2.1 50 (by omega) (by omega)) (fun a30 => ?_)
  refine j_putFR (fty := tyX10 40) (x := 10) (j := 40) (q := 243) hO hIn CK_10 dX10_init_240 rfl mw_538 ((nO_Ao (by decide)).trans h30.2.1.1).symm (by rw [sC_nOo (by decide), h30.2.1.2, hc10]; decide) rfl rfl (by decide) rfl rfl (by decide +kernel) rfl rfl rfl (r := 0) rfl (show 0 < sC (nO T30 50 a30 4) 50 by rw [sC_nOs]; omega) ?_
  have h31 := h30.step (x := 50) (a := a30) (z := 4) (j := 40) (by omega) (by omega) rfl (by omega) (by intro i h1 h2; have hi : False := (by omega); exact hi.elim) hc10
  generalize pR (nO T30 50 a30 4) 10 0 40 (some 0) = T31 at h31 ⊢
  clear h30
  refine j_aload_n (q := 244) hO dX10_init_243 rfl rfl ?_
  refine j_bipush (v := 30) (q := 246) hO dX10_init_244 rfl (by decide) ?_
  refine j_newah (h := 0) (x := 51) (z := 30) (c0 := 0) (fty := .int) (row := (.inl (fun _ => 0))) (q := 248) hO dX10_init_246 rfl mw_47 rfl rfl rfl (fun _ => rfl) (fun a => sX_I (Or.inl rfl)) (fun _ => rfl) rfl (by decide) (by decide) (by rw [hM.R]; exact ⟨Nat.le_of_ble_eq_true rfl, Nat.le_of_ble_eq_true rfl⟩) (h31.2.2.2.1 51 (by omega) (by omega)) (fun a31 => ?_)
  refine j_putFR (fty := tyX10 41) (x := 10) (j := 41) (q := 251) hO hIn CK_10 dX10_init_248 rfl mw_539 ((nO_Ao (by decide)).trans h31.2.1.1).symm (by rw [sC_nOo (by decide), h31.2.1.2, hc10]; decide) rfl rfl (by decide) rfl rfl (by decide +kernel) rfl rfl rfl (r := 0) rfl (show 0 < sC (nO T31 51 a31 30) 51 by rw [sC_nOs]; omega) ?_
  have h32 := h31.step (x := 51) (a := a31) (z := 30) (j := 41) (by omega) (by omega) rfl (by omega) (by intro i h1 h2; have hi : False := (by omega); exact hi.elim) hc10
  generalize pR (nO T31 51 a31 30) 10 0 41 (some 0) = T32 at h32 ⊢
  clear h31
  refine j_aload_n (q := 252) hO dX10_init_251 rfl rfl ?_
  refine j_bipush (v := 30) (q := 254) hO dX10_init_252 rfl (by decide) ?_
  refine j_newah (h := 0) (x := 52) (z := 30) (c0 := 0) (fty := .int) (row := (.inl (fun _ => 0))) (q := 256) hO dX10_init_254 rfl mw_47 rfl rfl rfl (fun _ => rfl) (fun a => sX_I (Or.inl rfl)) (fun _ => rfl) rfl (by decide) (by decide) (by rw [hM.R]; exact ⟨Nat.le_of_ble_eq_true rfl, Nat.le_of_ble_eq_true rfl⟩) (h32.2.2.2.1 52 (by omega) (by omega)) (fun a32 => ?_)
  refine j_putFR (fty := tyX10 42) (x := 10) (j := 42) (q := 259) hO hIn CK_10 dX10_init_256 rfl mw_540 ((nO_Ao (by decide)).trans h32.2.1.1).symm (by rw [sC_nOo (by decide), h32.2.1.2, hc10]; decide) rfl rfl (by decide) rfl rfl (by decide +kernel) rfl rfl rfl (r := 0) rfl (show 0 < sC (nO T32 52 a32 30) 52 by rw [sC_nOs]; omega) ?_
  have h33 := h32.step (x := 52) (a := a32) (z := 30) (j := 42) (by omega) (by omega) rfl (by omega) (by intro i h1 h2; have hi : False := (by omega); exact hi.elim) hc10
  generalize pR (nO T32 52 a32 30) 10 0 42 (some 0) = T33 at h33 ⊢
  clear h32
  refine j_aload_n (q := 260) hO dX10_init_259 rfl rfl ?_
  refine j_bipush (v := 30) (q := 262) hO dX10_init_260 rfl (by decide) ?_
  refine j_newah (h := 0) (x := 53) (z := 30) (c0 := 0) (fty := .int) (row := (.inl (fun _ => 0))) (q := 264) hO dX10_init_262 rfl mw_47 rfl rfl rfl (fun _ => rfl) (fun a => sX_I (Or.inl rfl)) (fun _ => rfl) rfl (by decide) (by decide) (by rw [hM.R]; exact ⟨Nat.le_of_ble_eq_true rfl, Nat.le_of_ble_eq_true rfl⟩) (h33.2.2.2.1 53 (by omega) (by omega)) (fun a33 => ?_)
  refine j_putFR (fty := tyX10 43) (x := 10) (j := 43) (q := 267) hO hIn CK_10 dX10_init_264 rfl mw_541 ((nO_Ao (by decide)).trans h33.2.1.1).symm (by rw [sC_nOo (by decide), h33.2.1.2, hc10]; decide) rfl rfl (by decide) rfl rfl (by decide +kernel) rfl rfl rfl (r := 0) rfl (show 0 < sC (nO T33 53 a33 30) 53 by rw [sC_nOs]; omega) ?_
  have h34 := h33.step (x := 53) (a := a33) (z := 30) (j := 43) (by omega) (by omega) rfl (by omega) (by intro i h1 h2; have hi : False := (by omega); exact hi.elim) hc10
  generalize pR (nO T33 53 a33 30) 10 0 43 (some 0) = T34 at h34 ⊢
  clear h33
  refine j_aload_n (q := 268) hO dX10_init_267 rfl rfl ?_
  refine j_bipush (v := 30) (q := 270) hO dX10_init_268 rfl (by decide) ?_
  refine j_newah (h := 0) (x := 54) (z := 30) (c0 := 0) (fty := .int) (row := (.inl (fun _ => 0))) (q := 272) hO dX10_init_270 rfl mw_47 rfl rfl rfl (fun _ => rfl) (fun a => sX_I (Or.inl rfl)) (fun _ => rfl) rfl (by decide) (by decide) (by rw [hM.R]; exact ⟨Nat.le_of_ble_eq_true rfl, Nat.le_of_ble_eq_true rfl⟩) (h34.2.2.2.1 54 (by omega) (by omega)) (fun a34 => ?_)
  refine j_putFR (fty := tyX10 44) (x := 10) (j := 44) (q := 275) hO hIn CK_10 dX10_init_272 rfl mw_542 ((nO_Ao (by decide)).trans h34.2.1.1).symm (by rw [sC_nOo (by decide), h34.2.1.2, hc10]; decide) rfl rfl (by decide) rfl rfl (by decide +kernel) rfl rfl rfl (r := 0) rfl (show 0 < sC (nO T34 54 a34 30) 54 by rw [sC_nOs]; omega) ?_
  have h35 := h34.step (x := 54) (a := a34) (z := 30) (j := 44) (by omega) (by omega) rfl (by omega) (by intro i h1 h2; have hi : False := (by omega); exact hi.elim) hc10
  generalize pR (nO T34 54 a34 30) 10 0 44 (some 0) = T35 at h35 ⊢
  clear h34
  refine j_aload_n (q := 276) hO dX10_init_275 rfl rfl ?_
  refine j_lload_n (q := 277) hO dX10_init_276 rfl rfl ?_
  refine j_putFJ (x := 10) (j := 0) (q := 280) hO hIn CK_10 dX10_init_277 rfl mw_498 h35.2.1.1.symm (by rw [h35.2.1.2, hc10]; decide) rfl rfl (by decide) rfl rfl (by decide +kernel) rfl ?_
  exact j_vret hM dX10_init_280 (Nat.le_of_ble_eq_true rfl) (Nat.le_of_ble_eq_true rfl) ⟨rfl, h35.end hc10 hz⟩
