set_option maxHeartbeats 4000000 in
set_option maxRecDepth 100000 in
theorem c_10_enter (l : Launch) (S : St) (α : Al) (n np nh jm p b : Nat) (hm : MSh S) (hnp : aI α 0 26 = nI np) (hn60 : np ≤ 60) (hnh : aI α 0 9 = nI nh) (hn8 : nh ≤ 8) (hjm : aI α 0 38 = nI jm) (hj60 : jm < 60) (hp : p < 60) (hb : b < 6) (hsz : ∀ j, j < np → dNn (aD α 22 j)) (hT : TT α n) (hn : n + 9 < 2 ^ 30) : Ct l yX10_enter cX10_enter 3 (none : Option Jvm.ClassFile.FieldType) (rm 2 0 0 48) [.ref (sA S 10 0), .int (nI p), .int (nI b)] (wr S α) (fun r S' => r = none ∧ S' = wr S (enterF α p b)) := by
  refine Ct.of (by decide) (Nat.le_of_ble_eq_true rfl) (fun X hM => ?_)
  have hO := hM.1
  obtain rfl := hM.l
  have e26 : nn (aI α 0 26) = np := by rw [hnp]; exact nn_nI (by omega)
  have e9 : nn (aI α 0 9) = nh := by rw [hnh]; exact nn_nI (by omega)
  have e38 : nn (aI α 0 38) = jm := by rw [hjm]; exact nn_nI (by omega)
  show Jg X 0 0 (wr S α) 0 [(0, .ref (sA S 10 0)), (1, .int (nI p)), (2, .int (nI b))] []
  refine j_aload_n (q := 1) hO dX10_enter_0 rfl rfl ?_
  refine m_getA (j := 31) (x := 44) (q := 4) hO hm dX10_enter_1 rfl mw_529 (by decide) rfl rfl ?_
  refine j_iload_n (q := 5) hO dX10_enter_4 rfl rfl ?_
  refine j_iconst (v := 0) (q := 6) hO dX10_enter_5 rfl (by decide) ?_
  refine m_iast (x := 44) (a := 25) (q := 7) hO hm MK_44 dX10_enter_6 rfl rfl rfl (by omega) ?_
  refine j_aload_n (q := 8) hO dX10_enter_7 rfl rfl ?_
  refine m_getI (j := 35) (q := 11) hO hm dX10_enter_8 rfl mw_533 (by decide) rfl ?_
  refine j_aload_n (q := 12) hO dX10_enter_11 rfl rfl ?_
  refine m_getA (j := 8) (x := 26) (q := 15) hO hm dX10_enter_12 rfl mw_506 (by decide) rfl rfl ?_
  refine j_iload_n (q := 16) hO dX10_enter_15 rfl rfl ?_
  refine m_iald (x := 26) (a := 7) (q := 17) hO hm MK_26 dX10_enter_16 rfl rfl rfl (by omega) ?_
  refine j_icmp_ge (tgt := 30) (q := 20) hO dX10_enter_17 rfl (by decide) (fun c17 => ?_) (fun c17 => ?_)
  · refine j_aload_n (q := 31) hO dX10_enter_30 rfl rfl ?_
    refine m_getA (j := 5) (x := 23) (q := 34) hO hm dX10_enter_31 rfl mw_503 (by decide) rfl rfl ?_
    refine j_iload_n (q := 35) hO dX10_enter_34 rfl rfl ?_
    refine m_zald (x := 23) (a := 4) (q := 36) hO hm MK_23 dX10_enter_35 rfl rfl rfl (by omega) ?_
    refine j_if_eq (tgt := 168) (q := 39) hO dX10_enter_36 rfl (by decide) (fun c36 => ?_) (fun c36 => ?_)
    · refine j_aload_n (q := 169) hO dX10_enter_168 rfl rfl ?_
      refine m_getA (j := 31) (x := 44) (q := 172) hO hm dX10_enter_169 rfl mw_529 (by decide) rfl rfl ?_
      refine j_iload_n (q := 173) hO dX10_enter_172 rfl rfl ?_
      refine j_iconst (v := 1) (q := 174) hO dX10_enter_173 rfl (by decide) ?_
      refine m_iast (x := 44) (a := 25) (q := 175) hO hm MK_44 dX10_enter_174 rfl rfl rfl (by omega) ?_
      refine j_aload_n (q := 176) hO dX10_enter_175 rfl rfl ?_
      refine m_getA (j := 32) (x := 45) (q := 179) hO hm dX10_enter_176 rfl mw_530 (by decide) rfl rfl ?_
      refine j_iload_n (q := 180) hO dX10_enter_179 rfl rfl ?_
      refine j_iload_n (q := 181) hO dX10_enter_180 rfl rfl ?_
      refine m_iast (x := 45) (a := 26) (q := 182) hO hm MK_45 dX10_enter_181 rfl rfl rfl (by omega) ?_
      refine j_aload_n (q := 183) hO dX10_enter_182 rfl rfl ?_
      refine m_getA (j := 33) (x := 46) (q := 186) hO hm dX10_enter_183 rfl mw_531 (by decide) rfl rfl ?_
      refine j_iload_n (q := 187) hO dX10_enter_186 rfl rfl ?_
      refine j_iconst (v := 0) (q := 188) hO dX10_enter_187 rfl (by decide) ?_
      refine m_iast (x := 46) (a := 27) (q := 189) hO hm MK_46 dX10_enter_188 rfl rfl rfl (by omega) ?_
      refine j_aload_n (q := 190) hO dX10_enter_189 rfl rfl ?_
      refine j_iload_n (q := 191) hO dX10_enter_190 rfl rfl ?_
      refine j_iconst (v := 0) (q := 192) hO dX10_enter_191 rfl (by decide) ?_
      refine j_iload_n (q := 193) hO dX10_enter_192 rfl rfl ?_
      refine j_callV (x := 10) (q := 196) hO (c_10_note (lx X) S _ n _ _ _ hm (hT.same rfl) (by omega)) M_10_note mw_701 CK_10 rfl hm.1 rfl rfl rfl (by unfold roomy; rw [hM.R]; exact ⟨⟨Nat.le_of_ble_eq_true rfl, Nat.le_of_ble_eq_true rfl⟩, ⟨Nat.le_of_ble_eq_true rfl, Nat.le_of_ble_eq_true rfl⟩, Nat.le_of_ble_eq_true rfl⟩) dX10_enter_193 rfl (fun v_193 S_193 hp_193 => ?_)
      obtain ⟨rfl, rfl⟩ := hp_193
      refine j_aload_n (q := 197) hO dX10_enter_196 rfl rfl ?_
      refine j_iload_n (q := 198) hO dX10_enter_197 rfl rfl ?_
      refine j_callV (x := 10) (q := 201) hO (c_10_pass (lx X) S _ (n + 1) nh p hm ((noteF_I (by decide) (by decide)).trans hnh) hn8 hp (TT.note (hT.same rfl)) (by omega)) M_10_pass mw_713 CK_10 rfl hm.1 rfl rfl rfl (by unfold roomy; rw [hM.R]; exact ⟨⟨Nat.le_of_ble_eq_true rfl, Nat.le_of_ble_eq_true rfl⟩, ⟨Nat.le_of_ble_eq_true rfl, Nat.le_of_ble_eq_true rfl⟩, Nat.le_of_ble_eq_true rfl⟩) dX10_enter_198 rfl (fun v_198 S_198 hp_198 => ?_)
      obtain ⟨rfl, rfl⟩ := hp_198
      exact j_vret hM dX10_enter_201 (Nat.le_of_ble_eq_true rfl) (Nat.le_of_ble_eq_true rfl) ⟨rfl, by unfold enterF; rw [if_pos (show aI α 7 b ≤ aI α 0 35 from c17), if_pos (Or.inl (show aI α 4 b = 0 from c36)), e9]; rfl⟩
    · refine j_aload_n (q := 40) hO dX10_enter_39 rfl rfl ?_
      refine j_iload_n (q := 41) hO dX10_enter_40 rfl rfl ?_
      refine j_iload_n (q := 42) hO dX10_enter_41 rfl rfl ?_
      refine j_callV (x := 10) (q := 45) hO (c_10_sizesOn (lx X) S _ np _ _ hm hnp hn60 hsz) M_10_sizesOn mw_705 CK_10 rfl hm.1 rfl rfl rfl (by unfold roomy; rw [hM.R]; exact ⟨⟨Nat.le_of_ble_eq_true rfl, Nat.le_of_ble_eq_true rfl⟩, ⟨Nat.le_of_ble_eq_true rfl, Nat.le_of_ble_eq_true rfl⟩, Nat.le_of_ble_eq_true rfl⟩) dX10_enter_42 rfl (fun v_42 S_42 hp_42 => ?_)
      obtain ⟨rfl, rfl⟩ := hp_42
      refine j_aload_n (q := 46) hO dX10_enter_45 rfl rfl ?_
      refine m_getA (j := 6) (x := 24) (q := 49) hO hm dX10_enter_46 rfl mw_504 (by decide) rfl rfl ?_
      refine j_iload_n (q := 50) hO dX10_enter_49 rfl rfl ?_
      refine m_dald (x := 24) (a := 5) (q := 51) hO hm MK_24 dX10_enter_50 rfl rfl rfl (by omega) ?_
      refine j_dcmp (q := 52) hO dX10_enter_51 rfl ?_
      refine j_if_le (tgt := 168) (q := 55) hO dX10_enter_52 rfl (by decide) (fun c52 => ?_) (fun c52 => ?_)
      · refine j_aload_n (q := 169) hO dX10_enter_168 rfl rfl ?_
        refine m_getA (j := 31) (x := 44) (q := 172) hO hm dX10_enter_169 rfl mw_529 (by decide) rfl rfl ?_
        refine j_iload_n (q := 173) hO dX10_enter_172 rfl rfl ?_
        refine j_iconst (v := 1) (q := 174) hO dX10_enter_173 rfl (by decide) ?_
        refine m_iast (x := 44) (a := 25) (q := 175) hO hm MK_44 dX10_enter_174 rfl rfl rfl (by omega) ?_
        refine j_aload_n (q := 176) hO dX10_enter_175 rfl rfl ?_
        refine m_getA (j := 32) (x := 45) (q := 179) hO hm dX10_enter_176 rfl mw_530 (by decide) rfl rfl ?_
        refine j_iload_n (q := 180) hO dX10_enter_179 rfl rfl ?_
        refine j_iload_n (q := 181) hO dX10_enter_180 rfl rfl ?_
        refine m_iast (x := 45) (a := 26) (q := 182) hO hm MK_45 dX10_enter_181 rfl rfl rfl (by omega) ?_
        refine j_aload_n (q := 183) hO dX10_enter_182 rfl rfl ?_
        refine m_getA (j := 33) (x := 46) (q := 186) hO hm dX10_enter_183 rfl mw_531 (by decide) rfl rfl ?_
        refine j_iload_n (q := 187) hO dX10_enter_186 rfl rfl ?_
        refine j_iconst (v := 0) (q := 188) hO dX10_enter_187 rfl (by decide) ?_
        refine m_iast (x := 46) (a := 27) (q := 189) hO hm MK_46 dX10_enter_188 rfl rfl rfl (by omega) ?_
        refine j_aload_n (q := 190) hO dX10_enter_189 rfl rfl ?_
        refine j_iload_n (q := 191) hO dX10_enter_190 rfl rfl ?_
        refine j_iconst (v := 0) (q := 192) hO dX10_enter_191 rfl (by decide) ?_
        refine j_iload_n (q := 193) hO dX10_enter_192 rfl rfl ?_
        refine j_callV (x := 10) (q := 196) hO (c_10_note (lx X) S _ n _ _ _ hm (hT.same rfl) (by omega)) M_10_note mw_701 CK_10 rfl hm.1 rfl rfl rfl (by unfold roomy; rw [hM.R]; exact ⟨⟨Nat.le_of_ble_eq_true rfl, Nat.le_of_ble_eq_true rfl⟩, ⟨Nat.le_of_ble_eq_true rfl, Nat.le_of_ble_eq_true rfl⟩, Nat.le_of_ble_eq_true rfl⟩) dX10_enter_193 rfl (fun v_193 S_193 hp_193 => ?_)
        obtain ⟨rfl, rfl⟩ := hp_193
        refine j_aload_n (q := 197) hO dX10_enter_196 rfl rfl ?_
        refine j_iload_n (q := 198) hO dX10_enter_197 rfl rfl ?_
        refine j_callV (x := 10) (q := 201) hO (c_10_pass (lx X) S _ (n + 1) nh p hm ((noteF_I (by decide) (by decide)).trans hnh) hn8 hp (TT.note (hT.same rfl)) (by omega)) M_10_pass mw_713 CK_10 rfl hm.1 rfl rfl rfl (by unfold roomy; rw [hM.R]; exact ⟨⟨Nat.le_of_ble_eq_true rfl, Nat.le_of_ble_eq_true rfl⟩, ⟨Nat.le_of_ble_eq_true rfl, Nat.le_of_ble_eq_true rfl⟩, Nat.le_of_ble_eq_true rfl⟩) dX10_enter_198 rfl (fun v_198 S_198 hp_198 => ?_)
        obtain ⟨rfl, rfl⟩ := hp_198
        exact j_vret hM dX10_enter_201 (Nat.le_of_ble_eq_true rfl) (Nat.le_of_ble_eq_true rfl) ⟨rfl, by unfold enterF; rw [if_pos (show aI α 7 b ≤ aI α 0 35 from c17), e26, if_pos (Or.inr (show Op.cmpValue (FP.dcmp (szF (qI α 25 p 0) (nI b) (nI p) np) (aD α 5 b)) .l ≤ 0 from c52)), e9]; rfl⟩
      · refine j_aload_n (q := 56) hO dX10_enter_55 rfl rfl ?_
        refine m_getA (j := 39) (x := 49) (q := 59) hO hm dX10_enter_56 rfl mw_537 (by decide) rfl rfl ?_
        refine j_iconst (v := 4) (q := 60) hO dX10_enter_59 rfl (by decide) ?_
        refine j_aload_n (q := 61) hO dX10_enter_60 rfl rfl ?_
        refine m_getI (j := 38) (q := 64) hO hm dX10_enter_61 rfl mw_536 (by decide) rfl ?_
        refine j_imul (q := 65) hO dX10_enter_64 rfl ?_
        refine j_aload_n (q := 66) hO dX10_enter_65 rfl rfl ?_
        refine m_getI (j := 35) (q := 69) hO hm dX10_enter_66 rfl mw_533 (by decide) rfl ?_
        refine m_iast (x := 49) (a := 30) (q := 70) hO hm MK_49 dX10_enter_69 rfl rfl (j := 4 * jm) (by show (4 : Int32) * aI α 0 38 = _; rw [hjm]; exact ix40 jm) (by omega) ?_
        refine j_aload_n (q := 71) hO dX10_enter_70 rfl rfl ?_
        refine m_getA (j := 39) (x := 49) (q := 74) hO hm dX10_enter_71 rfl mw_537 (by decide) rfl rfl ?_
        refine j_iconst (v := 4) (q := 75) hO dX10_enter_74 rfl (by decide) ?_
        refine j_aload_n (q := 76) hO dX10_enter_75 rfl rfl ?_
        refine m_getI (j := 38) (q := 79) hO hm dX10_enter_76 rfl mw_536 (by decide) rfl ?_
        refine j_imul (q := 80) hO dX10_enter_79 rfl ?_
        refine j_iconst (v := 1) (q := 81) hO dX10_enter_80 rfl (by decide) ?_
        refine j_iadd (q := 82) hO dX10_enter_81 rfl ?_
        refine j_iload_n (q := 83) hO dX10_enter_82 rfl rfl ?_
        refine m_iast (x := 49) (a := 30) (q := 84) hO hm MK_49 dX10_enter_83 rfl rfl (j := 4 * jm + 1) (by show (4 : Int32) * aI α 0 38 + nI 1 = _; rw [hjm]; exact ix4 jm 1) (by omega) ?_
        refine j_aload_n (q := 85) hO dX10_enter_84 rfl rfl ?_
        refine m_getA (j := 39) (x := 49) (q := 88) hO hm dX10_enter_85 rfl mw_537 (by decide) rfl rfl ?_
        refine j_iconst (v := 4) (q := 89) hO dX10_enter_88 rfl (by decide) ?_
        refine j_aload_n (q := 90) hO dX10_enter_89 rfl rfl ?_
        refine m_getI (j := 38) (q := 93) hO hm dX10_enter_90 rfl mw_536 (by decide) rfl ?_
        refine j_imul (q := 94) hO dX10_enter_93 rfl ?_
        refine j_iconst (v := 2) (q := 95) hO dX10_enter_94 rfl (by decide) ?_
        refine j_iadd (q := 96) hO dX10_enter_95 rfl ?_
        refine j_iload_n (q := 97) hO dX10_enter_96 rfl rfl ?_
        refine m_iast (x := 49) (a := 30) (q := 98) hO hm MK_49 dX10_enter_97 rfl rfl (j := 4 * jm + 2) (by show (4 : Int32) * aI α 0 38 + nI 2 = _; rw [hjm]; exact ix4 jm 2) (by omega) ?_
        refine j_aload_n (q := 99) hO dX10_enter_98 rfl rfl ?_
        refine m_getA (j := 39) (x := 49) (q := 102) hO hm dX10_enter_99 rfl mw_537 (by decide) rfl rfl ?_
        refine j_iconst (v := 4) (q := 103) hO dX10_enter_102 rfl (by decide) ?_
        refine j_aload_n (q := 104) hO dX10_enter_103 rfl rfl ?_
        refine m_getI (j := 38) (q := 107) hO hm dX10_enter_104 rfl mw_536 (by decide) rfl ?_
        refine j_imul (q := 108) hO dX10_enter_107 rfl ?_
        refine j_iconst (v := 3) (q := 109) hO dX10_enter_108 rfl (by decide) ?_
        refine j_iadd (q := 110) hO dX10_enter_109 rfl ?_
        refine j_aload_n (q := 111) hO dX10_enter_110 rfl rfl ?_
        refine j_iload_n (q := 112) hO dX10_enter_111 rfl rfl ?_
        refine j_callV (x := 10) (q := 115) hO (c_10_piecesOn (lx X) S _ np _ hm hnp hn60) M_10_piecesOn mw_709 CK_10 rfl hm.1 rfl rfl rfl (by unfold roomy; rw [hM.R]; exact ⟨⟨Nat.le_of_ble_eq_true rfl, Nat.le_of_ble_eq_true rfl⟩, ⟨Nat.le_of_ble_eq_true rfl, Nat.le_of_ble_eq_true rfl⟩, Nat.le_of_ble_eq_true rfl⟩) dX10_enter_112 rfl (fun v_112 S_112 hp_112 => ?_)
        obtain ⟨rfl, rfl⟩ := hp_112
        refine m_iast (x := 49) (a := 30) (q := 116) hO hm MK_49 dX10_enter_115 rfl rfl (j := 4 * jm + 3) (by show (4 : Int32) * aI α 0 38 + nI 3 = _; rw [hjm]; exact ix4 jm 3) (by omega) ?_
        refine j_aload_n (q := 117) hO dX10_enter_116 rfl rfl ?_
        refine j_dup (q := 118) hO dX10_enter_117 rfl rfl ?_
        refine m_getI (j := 38) (q := 121) hO hm dX10_enter_118 rfl mw_536 (by decide) rfl ?_
        refine j_iconst (v := 1) (q := 122) hO dX10_enter_121 rfl (by decide) ?_
        refine j_iadd (q := 123) hO dX10_enter_122 rfl ?_
        refine m_putI (j := 38) (q := 126) hO hm dX10_enter_123 rfl mw_536 (by decide) rfl rfl (by decide +kernel) ?_
        refine j_aload_n (q := 127) hO dX10_enter_126 rfl rfl ?_
        refine m_getA (j := 40) (x := 50) (q := 130) hO hm dX10_enter_127 rfl mw_538 (by decide) rfl rfl ?_
        refine j_iconst (v := 3) (q := 131) hO dX10_enter_130 rfl (by decide) ?_
        refine j_dup2_11 (q := 132) hO dX10_enter_131 rfl rfl rfl ?_
        refine m_lald (x := 50) (a := 31) (q := 133) hO hm MK_50 dX10_enter_132 rfl rfl (j := 3) rfl (by omega) ?_
        refine j_aload_n (q := 134) hO dX10_enter_133 rfl rfl ?_
        refine m_getA (j := 7) (x := 25) (q := 137) hO hm dX10_enter_134 rfl mw_505 (by decide) rfl rfl ?_
        refine j_iload_n (q := 138) hO dX10_enter_137 rfl rfl ?_
        refine m_iald (x := 25) (a := 6) (q := 139) hO hm MK_25 dX10_enter_138 rfl rfl rfl (by omega) ?_
        refine j_i2l (q := 140) hO dX10_enter_139 rfl ?_
        refine j_ladd (q := 141) hO dX10_enter_140 rfl ?_
        refine m_last (x := 50) (a := 31) (q := 142) hO hm MK_50 dX10_enter_141 rfl rfl (j := 3) rfl (by omega) ?_
        refine j_aload_n (q := 143) hO dX10_enter_142 rfl rfl ?_
        refine m_getA (j := 8) (x := 26) (q := 146) hO hm dX10_enter_143 rfl mw_506 (by decide) rfl rfl ?_
        refine j_iload_n (q := 147) hO dX10_enter_146 rfl rfl ?_
        refine j_aload_n (q := 148) hO dX10_enter_147 rfl rfl ?_
        refine m_getI (j := 35) (q := 151) hO hm dX10_enter_148 rfl mw_533 (by decide) rfl ?_
        refine j_aload_n (q := 152) hO dX10_enter_151 rfl rfl ?_
        refine m_getA (j := 7) (x := 25) (q := 155) hO hm dX10_enter_152 rfl mw_505 (by decide) rfl rfl ?_
        refine j_iload_n (q := 156) hO dX10_enter_155 rfl rfl ?_
        refine m_iald (x := 25) (a := 6) (q := 157) hO hm MK_25 dX10_enter_156 rfl rfl rfl (by omega) ?_
        refine j_iadd (q := 158) hO dX10_enter_157 rfl ?_
        refine m_iast (x := 26) (a := 7) (q := 159) hO hm MK_26 dX10_enter_158 rfl rfl rfl (by omega) ?_
        refine j_aload_n (q := 160) hO dX10_enter_159 rfl rfl ?_
        refine j_iload_n (q := 161) hO dX10_enter_160 rfl rfl ?_
        refine j_iconst (v := 0) (q := 162) hO dX10_enter_161 rfl (by decide) ?_
        refine j_iconst (v := 3) (q := 163) hO dX10_enter_162 rfl (by decide) ?_
        refine j_iload_n (q := 164) hO dX10_enter_163 rfl rfl ?_
        refine j_callV (x := 10) (q := 167) hO (c_10_lose (lx X) S _ n p 0 _ _ hm (hT.same rfl) (by omega) hp (by omega)) M_10_lose mw_697 CK_10 rfl hm.1 rfl rfl rfl (by unfold roomy; rw [hM.R]; exact ⟨⟨Nat.le_of_ble_eq_true rfl, Nat.le_of_ble_eq_true rfl⟩, ⟨Nat.le_of_ble_eq_true rfl, Nat.le_of_ble_eq_true rfl⟩, Nat.le_of_ble_eq_true rfl⟩) dX10_enter_164 rfl (fun v_164 S_164 hp_164 => ?_)
        obtain ⟨rfl, rfl⟩ := hp_164
        exact j_vret hM dX10_enter_167 (Nat.le_of_ble_eq_true rfl) (Nat.le_of_ble_eq_true rfl) ⟨rfl, by unfold enterF; rw [if_pos (show aI α 7 b ≤ aI α 0 35 from c17), e26, if_neg (show ¬ (aI α 4 b = 0 ∨ Op.cmpValue (FP.dcmp (szF (qI α 25 p 0) (nI b) (nI p) np) (aD α 5 b)) .l ≤ 0) from fun z => z.elim c36 c52)]; unfold jamF; rw [show nn (aI (qI α 25 p 0) 0 38) = jm from e38, ← pcF_congr (α := qI α 25 p 0) (β := qI (qI (qI (qI α 25 p 0) 30 (4 * jm) (aI α 0 35)) 30 (4 * jm + 1) (nI p)) 30 (4 * jm + 2) (nI b)) (fun _ => rfl) (fun _ => rfl) np]; rfl⟩
  · refine j_aload_n (q := 21) hO dX10_enter_20 rfl rfl ?_
    refine j_iload_n (q := 22) hO dX10_enter_21 rfl rfl ?_
    refine j_iconst (v := 1) (q := 23) hO dX10_enter_22 rfl (by decide) ?_
    refine j_bipush (v := 7) (q := 25) hO dX10_enter_23 rfl (by decide) ?_
    refine j_iload_n (q := 26) hO dX10_enter_25 rfl rfl ?_
    refine j_callV (x := 10) (q := 29) hO (c_10_lose (lx X) S _ n p 1 _ _ hm (hT.same rfl) (by omega) hp (by omega)) M_10_lose mw_697 CK_10 rfl hm.1 rfl rfl rfl (by unfold roomy; rw [hM.R]; exact ⟨⟨Nat.le_of_ble_eq_true rfl, Nat.le_of_ble_eq_true rfl⟩, ⟨Nat.le_of_ble_eq_true rfl, Nat.le_of_ble_eq_true rfl⟩, Nat.le_of_ble_eq_true rfl⟩) dX10_enter_26 rfl (fun v_26 S_26 hp_26 => ?_)
    obtain ⟨rfl, rfl⟩ := hp_26
    exact j_vret hM dX10_enter_29 (Nat.le_of_ble_eq_true rfl) (Nat.le_of_ble_eq_true rfl) ⟨rfl, by unfold enterF; rw [if_neg (show ¬ aI α 7 b ≤ aI α 0 35 from c17)]⟩
set_option maxHeartbeats 4000000 in
set_option maxRecDepth 100000 in
theorem c_10_goOut (l : Launch) (S : St) (α : Al) (n p b kd : Nat) (hm : MSh S) (hp : p < 60) (hbp : aI α 26 p = nI b) (hb : b < 6) (hkd : aI α 21 p = nI kd) (hk : kd < 5) (hT : TT α n) (hn : n < 2 ^ 30) : Ct l yX10_goOut cX10_goOut 4 (none : Option Jvm.ClassFile.FieldType) (rm 1 0 0 23) [.ref (sA S 10 0), .int (nI p)] (wr S α) (fun r S' => r = none ∧ S' = wr S (outF α p (5 * b + kd))) := by
  refine Ct.of (by decide) (Nat.le_of_ble_eq_true rfl) (fun X hM => ?_)
  have hO := hM.1
  obtain rfl := hM.l
  have hat : (5 : Int32) * aI α 26 p + aI α 21 p = nI (5 * b + kd) := by rw [hbp, hkd]; exact (congrArg (· + nI kd) (pk_mul 5 b)).trans (nI_add _ _)
  show Jg X 0 0 (wr S α) 0 [(0, .ref (sA S 10 0)), (1, .int (nI p))] []
  refine j_iconst (v := 5) (q := 1) hO dX10_goOut_0 rfl (by decide) ?_
  refine j_aload_n (q := 2) hO dX10_goOut_1 rfl rfl ?_
  refine m_getA (j := 32) (x := 45) (q := 5) hO hm dX10_goOut_2 rfl mw_530 (by decide) rfl rfl ?_
  refine j_iload_n (q := 6) hO dX10_goOut_5 rfl rfl ?_
  refine m_iald (x := 45) (a := 26) (q := 7) hO hm MK_45 dX10_goOut_6 rfl rfl rfl (by omega) ?_
  refine j_imul (q := 8) hO dX10_goOut_7 rfl ?_
  refine j_aload_n (q := 9) hO dX10_goOut_8 rfl rfl ?_
  refine m_getA (j := 27) (x := 40) (q := 12) hO hm dX10_goOut_9 rfl mw_525 (by decide) rfl rfl ?_
  refine j_iload_n (q := 13) hO dX10_goOut_12 rfl rfl ?_
  refine m_iald (x := 40) (a := 21) (q := 14) hO hm MK_40 dX10_goOut_13 rfl rfl rfl (by omega) ?_
  refine j_iadd (q := 15) hO dX10_goOut_14 rfl ?_
  refine j_istore_n (q := 16) hO dX10_goOut_15 rfl (by rw [hM.nL]; decide) rfl ?_
  refine j_aload_n (q := 17) hO dX10_goOut_16 rfl rfl ?_
  refine m_getA (j := 41) (x := 51) (q := 20) hO hm dX10_goOut_17 rfl mw_539 (by decide) rfl rfl ?_
  refine j_iload_n (q := 21) hO dX10_goOut_20 rfl rfl ?_
  refine m_iald (x := 51) (a := 32) (q := 22) hO hm MK_51 dX10_goOut_21 rfl rfl (j := 5 * b + kd) hat (by omega) ?_
  refine j_if_le (tgt := 109) (q := 25) hO dX10_goOut_22 rfl (by decide) (fun c22 => ?_) (fun c22 => ?_)
  · refine j_aload_n (q := 110) hO dX10_goOut_109 rfl rfl ?_
    refine m_getA (j := 41) (x := 51) (q := 113) hO hm dX10_goOut_110 rfl mw_539 (by decide) rfl rfl ?_
    refine j_iload_n (q := 114) hO dX10_goOut_113 rfl rfl ?_
    refine j_dup2_11 (q := 115) hO dX10_goOut_114 rfl rfl rfl ?_
    refine m_iald (x := 51) (a := 32) (q := 116) hO hm MK_51 dX10_goOut_115 rfl rfl (j := 5 * b + kd) hat (by omega) ?_
    refine j_iconst (v := 1) (q := 117) hO dX10_goOut_116 rfl (by decide) ?_
    refine j_iadd (q := 118) hO dX10_goOut_117 rfl ?_
    refine m_iast (x := 51) (a := 32) (q := 119) hO hm MK_51 dX10_goOut_118 rfl rfl (j := 5 * b + kd) hat (by omega) ?_
    refine j_aload_n (q := 120) hO dX10_goOut_119 rfl rfl ?_
    refine m_getA (j := 42) (x := 52) (q := 123) hO hm dX10_goOut_120 rfl mw_540 (by decide) rfl rfl ?_
    refine j_iload_n (q := 124) hO dX10_goOut_123 rfl rfl ?_
    refine j_aload_n (q := 125) hO dX10_goOut_124 rfl rfl ?_
    refine m_getI (j := 35) (q := 128) hO hm dX10_goOut_125 rfl mw_533 (by decide) rfl ?_
    refine m_iast (x := 52) (a := 33) (q := 129) hO hm MK_52 dX10_goOut_128 rfl rfl (j := 5 * b + kd) hat (by omega) ?_
    refine j_aload_n (q := 130) hO dX10_goOut_129 rfl rfl ?_
    refine m_getA (j := 31) (x := 44) (q := 133) hO hm dX10_goOut_130 rfl mw_529 (by decide) rfl rfl ?_
    refine j_iload_n (q := 134) hO dX10_goOut_133 rfl rfl ?_
    refine j_iconst (v := 3) (q := 135) hO dX10_goOut_134 rfl (by decide) ?_
    refine m_iast (x := 44) (a := 25) (q := 136) hO hm MK_44 dX10_goOut_135 rfl rfl rfl (by omega) ?_
    refine j_aload_n (q := 137) hO dX10_goOut_136 rfl rfl ?_
    refine j_iload_n (q := 138) hO dX10_goOut_137 rfl rfl ?_
    refine j_iconst (v := 4) (q := 139) hO dX10_goOut_138 rfl (by decide) ?_
    refine j_aload_n (q := 140) hO dX10_goOut_139 rfl rfl ?_
    refine m_getA (j := 32) (x := 45) (q := 143) hO hm dX10_goOut_140 rfl mw_530 (by decide) rfl rfl ?_
    refine j_iload_n (q := 144) hO dX10_goOut_143 rfl rfl ?_
    refine m_iald (x := 45) (a := 26) (q := 145) hO hm MK_45 dX10_goOut_144 rfl rfl rfl (by omega) ?_
    refine j_callV (x := 10) (q := 148) hO (c_10_note (lx X) S _ n _ _ _ hm (hT.same rfl) hn) M_10_note mw_701 CK_10 rfl hm.1 rfl rfl rfl (by unfold roomy; rw [hM.R]; exact ⟨⟨Nat.le_of_ble_eq_true rfl, Nat.le_of_ble_eq_true rfl⟩, ⟨Nat.le_of_ble_eq_true rfl, Nat.le_of_ble_eq_true rfl⟩, Nat.le_of_ble_eq_true rfl⟩) dX10_goOut_145 rfl (fun v_145 S_145 hp_145 => ?_)
    obtain ⟨rfl, rfl⟩ := hp_145
    exact j_vret hM dX10_goOut_148 (Nat.le_of_ble_eq_true rfl) (Nat.le_of_ble_eq_true rfl) ⟨rfl, by unfold outF gapF; rw [if_pos c22]; rfl⟩
  · refine j_aload_n (q := 26) hO dX10_goOut_25 rfl rfl ?_
    refine m_getI (j := 35) (q := 29) hO hm dX10_goOut_26 rfl mw_533 (by decide) rfl ?_
    refine j_aload_n (q := 30) hO dX10_goOut_29 rfl rfl ?_
    refine m_getA (j := 42) (x := 52) (q := 33) hO hm dX10_goOut_30 rfl mw_540 (by decide) rfl rfl ?_
    refine j_iload_n (q := 34) hO dX10_goOut_33 rfl rfl ?_
    refine m_iald (x := 52) (a := 33) (q := 35) hO hm MK_52 dX10_goOut_34 rfl rfl (j := 5 * b + kd) hat (by omega) ?_
    refine j_isub (q := 36) hO dX10_goOut_35 rfl ?_
    refine j_istore_n (q := 37) hO dX10_goOut_36 rfl (by rw [hM.nL]; decide) rfl ?_
    refine j_aload_n (q := 38) hO dX10_goOut_37 rfl rfl ?_
    refine m_getA (j := 43) (x := 53) (q := 41) hO hm dX10_goOut_38 rfl mw_541 (by decide) rfl rfl ?_
    refine j_iload_n (q := 42) hO dX10_goOut_41 rfl rfl ?_
    refine j_aload_n (q := 43) hO dX10_goOut_42 rfl rfl ?_
    refine m_getA (j := 41) (x := 51) (q := 46) hO hm dX10_goOut_43 rfl mw_539 (by decide) rfl rfl ?_
    refine j_iload_n (q := 47) hO dX10_goOut_46 rfl rfl ?_
    refine m_iald (x := 51) (a := 32) (q := 48) hO hm MK_51 dX10_goOut_47 rfl rfl (j := 5 * b + kd) hat (by omega) ?_
    refine j_iconst (v := 1) (q := 49) hO dX10_goOut_48 rfl (by decide) ?_
    refine j_icmp_eq (tgt := 62) (q := 52) hO dX10_goOut_49 rfl (by decide) (fun c49 => ?_) (fun c49 => ?_)
    · refine j_iload_n (q := 63) hO dX10_goOut_62 rfl rfl ?_
      refine j_goto (tgt := 72) hO dX10_goOut_63 (by decide) ?_
      refine m_iast (x := 53) (a := 34) (q := 73) hO hm MK_53 dX10_goOut_72 rfl rfl (j := 5 * b + kd) hat (by omega) ?_
      refine j_aload_n (q := 74) hO dX10_goOut_73 rfl rfl ?_
      refine m_getA (j := 44) (x := 54) (q := 77) hO hm dX10_goOut_74 rfl mw_542 (by decide) rfl rfl ?_
      refine j_iload_n (q := 78) hO dX10_goOut_77 rfl rfl ?_
      refine j_aload_n (q := 79) hO dX10_goOut_78 rfl rfl ?_
      refine m_getA (j := 41) (x := 51) (q := 82) hO hm dX10_goOut_79 rfl mw_539 (by decide) rfl rfl ?_
      refine j_iload_n (q := 83) hO dX10_goOut_82 rfl rfl ?_
      refine m_iald (x := 51) (a := 32) (q := 84) hO hm MK_51 dX10_goOut_83 rfl rfl (j := 5 * b + kd) hat (by omega) ?_
      refine j_iconst (v := 1) (q := 85) hO dX10_goOut_84 rfl (by decide) ?_
      refine j_icmp_eq (tgt := 98) (q := 88) hO dX10_goOut_85 rfl (by decide) (fun c85 => ?_) (fun c85 => ?_)
      · refine j_iload_n (q := 99) hO dX10_goOut_98 rfl rfl ?_
        refine j_goto (tgt := 108) hO dX10_goOut_99 (by decide) ?_
        refine m_iast (x := 54) (a := 35) (q := 109) hO hm MK_54 dX10_goOut_108 rfl rfl (j := 5 * b + kd) hat (by omega) ?_
        refine j_aload_n (q := 110) hO dX10_goOut_109 rfl rfl ?_
        refine m_getA (j := 41) (x := 51) (q := 113) hO hm dX10_goOut_110 rfl mw_539 (by decide) rfl rfl ?_
        refine j_iload_n (q := 114) hO dX10_goOut_113 rfl rfl ?_
        refine j_dup2_11 (q := 115) hO dX10_goOut_114 rfl rfl rfl ?_
        refine m_iald (x := 51) (a := 32) (q := 116) hO hm MK_51 dX10_goOut_115 rfl rfl (j := 5 * b + kd) hat (by omega) ?_
        refine j_iconst (v := 1) (q := 117) hO dX10_goOut_116 rfl (by decide) ?_
        refine j_iadd (q := 118) hO dX10_goOut_117 rfl ?_
        refine m_iast (x := 51) (a := 32) (q := 119) hO hm MK_51 dX10_goOut_118 rfl rfl (j := 5 * b + kd) hat (by omega) ?_
        refine j_aload_n (q := 120) hO dX10_goOut_119 rfl rfl ?_
        refine m_getA (j := 42) (x := 52) (q := 123) hO hm dX10_goOut_120 rfl mw_540 (by decide) rfl rfl ?_
        refine j_iload_n (q := 124) hO dX10_goOut_123 rfl rfl ?_
        refine j_aload_n (q := 125) hO dX10_goOut_124 rfl rfl ?_
        refine m_getI (j := 35) (q := 128) hO hm dX10_goOut_125 rfl mw_533 (by decide) rfl ?_
        refine m_iast (x := 52) (a := 33) (q := 129) hO hm MK_52 dX10_goOut_128 rfl rfl (j := 5 * b + kd) hat (by omega) ?_
        refine j_aload_n (q := 130) hO dX10_goOut_129 rfl rfl ?_
        refine m_getA (j := 31) (x := 44) (q := 133) hO hm dX10_goOut_130 rfl mw_529 (by decide) rfl rfl ?_
        refine j_iload_n (q := 134) hO dX10_goOut_133 rfl rfl ?_
        refine j_iconst (v := 3) (q := 135) hO dX10_goOut_134 rfl (by decide) ?_
        refine m_iast (x := 44) (a := 25) (q := 136) hO hm MK_44 dX10_goOut_135 rfl rfl rfl (by omega) ?_
        refine j_aload_n (q := 137) hO dX10_goOut_136 rfl rfl ?_
        refine j_iload_n (q := 138) hO dX10_goOut_137 rfl rfl ?_
        refine j_iconst (v := 4) (q := 139) hO dX10_goOut_138 rfl (by decide) ?_
        refine j_aload_n (q := 140) hO dX10_goOut_139 rfl rfl ?_
        refine m_getA (j := 32) (x := 45) (q := 143) hO hm dX10_goOut_140 rfl mw_530 (by decide) rfl rfl ?_
        refine j_iload_n (q := 144) hO dX10_goOut_143 rfl rfl ?_
        refine m_iald (x := 45) (a := 26) (q := 145) hO hm MK_45 dX10_goOut_144 rfl rfl rfl (by omega) ?_
        refine j_callV (x := 10) (q := 148) hO (c_10_note (lx X) S _ n _ _ _ hm (hT.same rfl) hn) M_10_note mw_701 CK_10 rfl hm.1 rfl rfl rfl (by unfold roomy; rw [hM.R]; exact ⟨⟨Nat.le_of_ble_eq_true rfl, Nat.le_of_ble_eq_true rfl⟩, ⟨Nat.le_of_ble_eq_true rfl, Nat.le_of_ble_eq_true rfl⟩, Nat.le_of_ble_eq_true rfl⟩) dX10_goOut_145 rfl (fun v_145 S_145 hp_145 => ?_)
        obtain ⟨rfl, rfl⟩ := hp_145
        exact j_vret hM dX10_goOut_148 (Nat.le_of_ble_eq_true rfl) (Nat.le_of_ble_eq_true rfl) ⟨rfl, by unfold outF gapF; rw [if_neg c22, if_pos (Or.inl c49), if_pos (Or.inl (show aI α 32 (5 * b + kd) = 1 from c85))]; rfl⟩
      · refine j_iload_n (q := 89) hO dX10_goOut_88 rfl rfl ?_
        refine j_aload_n (q := 90) hO dX10_goOut_89 rfl rfl ?_
        refine m_getA (j := 44) (x := 54) (q := 93) hO hm dX10_goOut_90 rfl mw_542 (by decide) rfl rfl ?_
        refine j_iload_n (q := 94) hO dX10_goOut_93 rfl rfl ?_
        refine m_iald (x := 54) (a := 35) (q := 95) hO hm MK_54 dX10_goOut_94 rfl rfl (j := 5 * b + kd) hat (by omega) ?_
        refine j_icmp_le (tgt := 102) (q := 98) hO dX10_goOut_95 rfl (by decide) (fun c95 => ?_) (fun c95 => ?_)
        · refine j_aload_n (q := 103) hO dX10_goOut_102 rfl rfl ?_
          refine m_getA (j := 44) (x := 54) (q := 106) hO hm dX10_goOut_103 rfl mw_542 (by decide) rfl rfl ?_
          refine j_iload_n (q := 107) hO dX10_goOut_106 rfl rfl ?_
          refine m_iald (x := 54) (a := 35) (q := 108) hO hm MK_54 dX10_goOut_107 rfl rfl (j := 5 * b + kd) hat (by omega) ?_
          refine m_iast (x := 54) (a := 35) (q := 109) hO hm MK_54 dX10_goOut_108 rfl rfl (j := 5 * b + kd) hat (by omega) ?_
          refine j_aload_n (q := 110) hO dX10_goOut_109 rfl rfl ?_
          refine m_getA (j := 41) (x := 51) (q := 113) hO hm dX10_goOut_110 rfl mw_539 (by decide) rfl rfl ?_
          refine j_iload_n (q := 114) hO dX10_goOut_113 rfl rfl ?_
          refine j_dup2_11 (q := 115) hO dX10_goOut_114 rfl rfl rfl ?_
          refine m_iald (x := 51) (a := 32) (q := 116) hO hm MK_51 dX10_goOut_115 rfl rfl (j := 5 * b + kd) hat (by omega) ?_
          refine j_iconst (v := 1) (q := 117) hO dX10_goOut_116 rfl (by decide) ?_
          refine j_iadd (q := 118) hO dX10_goOut_117 rfl ?_
          refine m_iast (x := 51) (a := 32) (q := 119) hO hm MK_51 dX10_goOut_118 rfl rfl (j := 5 * b + kd) hat (by omega) ?_
          refine j_aload_n (q := 120) hO dX10_goOut_119 rfl rfl ?_
          refine m_getA (j := 42) (x := 52) (q := 123) hO hm dX10_goOut_120 rfl mw_540 (by decide) rfl rfl ?_
          refine j_iload_n (q := 124) hO dX10_goOut_123 rfl rfl ?_
          refine j_aload_n (q := 125) hO dX10_goOut_124 rfl rfl ?_
          refine m_getI (j := 35) (q := 128) hO hm dX10_goOut_125 rfl mw_533 (by decide) rfl ?_
          refine m_iast (x := 52) (a := 33) (q := 129) hO hm MK_52 dX10_goOut_128 rfl rfl (j := 5 * b + kd) hat (by omega) ?_
          refine j_aload_n (q := 130) hO dX10_goOut_129 rfl rfl ?_
          refine m_getA (j := 31) (x := 44) (q := 133) hO hm dX10_goOut_130 rfl mw_529 (by decide) rfl rfl ?_
          refine j_iload_n (q := 134) hO dX10_goOut_133 rfl rfl ?_
          refine j_iconst (v := 3) (q := 135) hO dX10_goOut_134 rfl (by decide) ?_
          refine m_iast (x := 44) (a := 25) (q := 136) hO hm MK_44 dX10_goOut_135 rfl rfl rfl (by omega) ?_
          refine j_aload_n (q := 137) hO dX10_goOut_136 rfl rfl ?_
          refine j_iload_n (q := 138) hO dX10_goOut_137 rfl rfl ?_
          refine j_iconst (v := 4) (q := 139) hO dX10_goOut_138 rfl (by decide) ?_
          refine j_aload_n (q := 140) hO dX10_goOut_139 rfl rfl ?_
          refine m_getA (j := 32) (x := 45) (q := 143) hO hm dX10_goOut_140 rfl mw_530 (by decide) rfl rfl ?_
          refine j_iload_n (q := 144) hO dX10_goOut_143 rfl rfl ?_
          refine m_iald (x := 45) (a := 26) (q := 145) hO hm MK_45 dX10_goOut_144 rfl rfl rfl (by omega) ?_
          refine j_callV (x := 10) (q := 148) hO (c_10_note (lx X) S _ n _ _ _ hm (hT.same rfl) hn) M_10_note mw_701 CK_10 rfl hm.1 rfl rfl rfl (by unfold roomy; rw [hM.R]; exact ⟨⟨Nat.le_of_ble_eq_true rfl, Nat.le_of_ble_eq_true rfl⟩, ⟨Nat.le_of_ble_eq_true rfl, Nat.le_of_ble_eq_true rfl⟩, Nat.le_of_ble_eq_true rfl⟩) dX10_goOut_145 rfl (fun v_145 S_145 hp_145 => ?_)
          obtain ⟨rfl, rfl⟩ := hp_145
          exact j_vret hM dX10_goOut_148 (Nat.le_of_ble_eq_true rfl) (Nat.le_of_ble_eq_true rfl) ⟨rfl, by unfold outF gapF; rw [if_neg c22, if_pos (Or.inl c49), if_neg (show ¬ (aI α 32 (5 * b + kd) = 1 ∨ ¬ aI α 0 35 - aI α 33 (5 * b + kd) ≤ aI α 35 (5 * b + kd)) from fun z => z.elim c85 (fun q => q c95))]; rfl⟩
        · refine j_iload_n (q := 99) hO dX10_goOut_98 rfl rfl ?_
          refine j_goto (tgt := 108) hO dX10_goOut_99 (by decide) ?_
          refine m_iast (x := 54) (a := 35) (q := 109) hO hm MK_54 dX10_goOut_108 rfl rfl (j := 5 * b + kd) hat (by omega) ?_
          refine j_aload_n (q := 110) hO dX10_goOut_109 rfl rfl ?_
          refine m_getA (j := 41) (x := 51) (q := 113) hO hm dX10_goOut_110 rfl mw_539 (by decide) rfl rfl ?_
          refine j_iload_n (q := 114) hO dX10_goOut_113 rfl rfl ?_
          refine j_dup2_11 (q := 115) hO dX10_goOut_114 rfl rfl rfl ?_
          refine m_iald (x := 51) (a := 32) (q := 116) hO hm MK_51 dX10_goOut_115 rfl rfl (j := 5 * b + kd) hat (by omega) ?_
          refine j_iconst (v := 1) (q := 117) hO dX10_goOut_116 rfl (by decide) ?_
          refine j_iadd (q := 118) hO dX10_goOut_117 rfl ?_
          refine m_iast (x := 51) (a := 32) (q := 119) hO hm MK_51 dX10_goOut_118 rfl rfl (j := 5 * b + kd) hat (by omega) ?_
          refine j_aload_n (q := 120) hO dX10_goOut_119 rfl rfl ?_
          refine m_getA (j := 42) (x := 52) (q := 123) hO hm dX10_goOut_120 rfl mw_540 (by decide) rfl rfl ?_
          refine j_iload_n (q := 124) hO dX10_goOut_123 rfl rfl ?_
          refine j_aload_n (q := 125) hO dX10_goOut_124 rfl rfl ?_
          refine m_getI (j := 35) (q := 128) hO hm dX10_goOut_125 rfl mw_533 (by decide) rfl ?_
          refine m_iast (x := 52) (a := 33) (q := 129) hO hm MK_52 dX10_goOut_128 rfl rfl (j := 5 * b + kd) hat (by omega) ?_
          refine j_aload_n (q := 130) hO dX10_goOut_129 rfl rfl ?_
          refine m_getA (j := 31) (x := 44) (q := 133) hO hm dX10_goOut_130 rfl mw_529 (by decide) rfl rfl ?_
          refine j_iload_n (q := 134) hO dX10_goOut_133 rfl rfl ?_
          refine j_iconst (v := 3) (q := 135) hO dX10_goOut_134 rfl (by decide) ?_
          refine m_iast (x := 44) (a := 25) (q := 136) hO hm MK_44 dX10_goOut_135 rfl rfl rfl (by omega) ?_
          refine j_aload_n (q := 137) hO dX10_goOut_136 rfl rfl ?_
          refine j_iload_n (q := 138) hO dX10_goOut_137 rfl rfl ?_
          refine j_iconst (v := 4) (q := 139) hO dX10_goOut_138 rfl (by decide) ?_
          refine j_aload_n (q := 140) hO dX10_goOut_139 rfl rfl ?_
          refine m_getA (j := 32) (x := 45) (q := 143) hO hm dX10_goOut_140 rfl mw_530 (by decide) rfl rfl ?_
          refine j_iload_n (q := 144) hO dX10_goOut_143 rfl rfl ?_
          refine m_iald (x := 45) (a := 26) (q := 145) hO hm MK_45 dX10_goOut_144 rfl rfl rfl (by omega) ?_
          refine j_callV (x := 10) (q := 148) hO (c_10_note (lx X) S _ n _ _ _ hm (hT.same rfl) hn) M_10_note mw_701 CK_10 rfl hm.1 rfl rfl rfl (by unfold roomy; rw [hM.R]; exact ⟨⟨Nat.le_of_ble_eq_true rfl, Nat.le_of_ble_eq_true rfl⟩, ⟨Nat.le_of_ble_eq_true rfl, Nat.le_of_ble_eq_true rfl⟩, Nat.le_of_ble_eq_true rfl⟩) dX10_goOut_145 rfl (fun v_145 S_145 hp_145 => ?_)
          obtain ⟨rfl, rfl⟩ := hp_145
          exact j_vret hM dX10_goOut_148 (Nat.le_of_ble_eq_true rfl) (Nat.le_of_ble_eq_true rfl) ⟨rfl, by unfold outF gapF; rw [if_neg c22, if_pos (Or.inl c49), if_pos (Or.inr (show ¬ aI α 0 35 - aI α 33 (5 * b + kd) ≤ aI α 35 (5 * b + kd) from c95))]; rfl⟩
    · refine j_iload_n (q := 53) hO dX10_goOut_52 rfl rfl ?_
      refine j_aload_n (q := 54) hO dX10_goOut_53 rfl rfl ?_
      refine m_getA (j := 43) (x := 53) (q := 57) hO hm dX10_goOut_54 rfl mw_541 (by decide) rfl rfl ?_
      refine j_iload_n (q := 58) hO dX10_goOut_57 rfl rfl ?_
      refine m_iald (x := 53) (a := 34) (q := 59) hO hm MK_53 dX10_goOut_58 rfl rfl (j := 5 * b + kd) hat (by omega) ?_
      refine j_icmp_ge (tgt := 66) (q := 62) hO dX10_goOut_59 rfl (by decide) (fun c59 => ?_) (fun c59 => ?_)
      · refine j_aload_n (q := 67) hO dX10_goOut_66 rfl rfl ?_
        refine m_getA (j := 43) (x := 53) (q := 70) hO hm dX10_goOut_67 rfl mw_541 (by decide) rfl rfl ?_
        refine j_iload_n (q := 71) hO dX10_goOut_70 rfl rfl ?_
        refine m_iald (x := 53) (a := 34) (q := 72) hO hm MK_53 dX10_goOut_71 rfl rfl (j := 5 * b + kd) hat (by omega) ?_
        refine m_iast (x := 53) (a := 34) (q := 73) hO hm MK_53 dX10_goOut_72 rfl rfl (j := 5 * b + kd) hat (by omega) ?_
        refine j_aload_n (q := 74) hO dX10_goOut_73 rfl rfl ?_
        refine m_getA (j := 44) (x := 54) (q := 77) hO hm dX10_goOut_74 rfl mw_542 (by decide) rfl rfl ?_
        refine j_iload_n (q := 78) hO dX10_goOut_77 rfl rfl ?_
        refine j_aload_n (q := 79) hO dX10_goOut_78 rfl rfl ?_
        refine m_getA (j := 41) (x := 51) (q := 82) hO hm dX10_goOut_79 rfl mw_539 (by decide) rfl rfl ?_
        refine j_iload_n (q := 83) hO dX10_goOut_82 rfl rfl ?_
        refine m_iald (x := 51) (a := 32) (q := 84) hO hm MK_51 dX10_goOut_83 rfl rfl (j := 5 * b + kd) hat (by omega) ?_
        refine j_iconst (v := 1) (q := 85) hO dX10_goOut_84 rfl (by decide) ?_
        refine j_icmp_eq (tgt := 98) (q := 88) hO dX10_goOut_85 rfl (by decide) (fun c85 => ?_) (fun c85 => ?_)
        · refine j_iload_n (q := 99) hO dX10_goOut_98 rfl rfl ?_
          refine j_goto (tgt := 108) hO dX10_goOut_99 (by decide) ?_
          refine m_iast (x := 54) (a := 35) (q := 109) hO hm MK_54 dX10_goOut_108 rfl rfl (j := 5 * b + kd) hat (by omega) ?_
          refine j_aload_n (q := 110) hO dX10_goOut_109 rfl rfl ?_
          refine m_getA (j := 41) (x := 51) (q := 113) hO hm dX10_goOut_110 rfl mw_539 (by decide) rfl rfl ?_
          refine j_iload_n (q := 114) hO dX10_goOut_113 rfl rfl ?_
          refine j_dup2_11 (q := 115) hO dX10_goOut_114 rfl rfl rfl ?_
          refine m_iald (x := 51) (a := 32) (q := 116) hO hm MK_51 dX10_goOut_115 rfl rfl (j := 5 * b + kd) hat (by omega) ?_
          refine j_iconst (v := 1) (q := 117) hO dX10_goOut_116 rfl (by decide) ?_
          refine j_iadd (q := 118) hO dX10_goOut_117 rfl ?_
          refine m_iast (x := 51) (a := 32) (q := 119) hO hm MK_51 dX10_goOut_118 rfl rfl (j := 5 * b + kd) hat (by omega) ?_
          refine j_aload_n (q := 120) hO dX10_goOut_119 rfl rfl ?_
          refine m_getA (j := 42) (x := 52) (q := 123) hO hm dX10_goOut_120 rfl mw_540 (by decide) rfl rfl ?_
          refine j_iload_n (q := 124) hO dX10_goOut_123 rfl rfl ?_
          refine j_aload_n (q := 125) hO dX10_goOut_124 rfl rfl ?_
          refine m_getI (j := 35) (q := 128) hO hm dX10_goOut_125 rfl mw_533 (by decide) rfl ?_
          refine m_iast (x := 52) (a := 33) (q := 129) hO hm MK_52 dX10_goOut_128 rfl rfl (j := 5 * b + kd) hat (by omega) ?_
          refine j_aload_n (q := 130) hO dX10_goOut_129 rfl rfl ?_
          refine m_getA (j := 31) (x := 44) (q := 133) hO hm dX10_goOut_130 rfl mw_529 (by decide) rfl rfl ?_
          refine j_iload_n (q := 134) hO dX10_goOut_133 rfl rfl ?_
          refine j_iconst (v := 3) (q := 135) hO dX10_goOut_134 rfl (by decide) ?_
          refine m_iast (x := 44) (a := 25) (q := 136) hO hm MK_44 dX10_goOut_135 rfl rfl rfl (by omega) ?_
          refine j_aload_n (q := 137) hO dX10_goOut_136 rfl rfl ?_
          refine j_iload_n (q := 138) hO dX10_goOut_137 rfl rfl ?_
          refine j_iconst (v := 4) (q := 139) hO dX10_goOut_138 rfl (by decide) ?_
          refine j_aload_n (q := 140) hO dX10_goOut_139 rfl rfl ?_
          refine m_getA (j := 32) (x := 45) (q := 143) hO hm dX10_goOut_140 rfl mw_530 (by decide) rfl rfl ?_
          refine j_iload_n (q := 144) hO dX10_goOut_143 rfl rfl ?_
          refine m_iald (x := 45) (a := 26) (q := 145) hO hm MK_45 dX10_goOut_144 rfl rfl rfl (by omega) ?_
          refine j_callV (x := 10) (q := 148) hO (c_10_note (lx X) S _ n _ _ _ hm (hT.same rfl) hn) M_10_note mw_701 CK_10 rfl hm.1 rfl rfl rfl (by unfold roomy; rw [hM.R]; exact ⟨⟨Nat.le_of_ble_eq_true rfl, Nat.le_of_ble_eq_true rfl⟩, ⟨Nat.le_of_ble_eq_true rfl, Nat.le_of_ble_eq_true rfl⟩, Nat.le_of_ble_eq_true rfl⟩) dX10_goOut_145 rfl (fun v_145 S_145 hp_145 => ?_)
          obtain ⟨rfl, rfl⟩ := hp_145
          exact j_vret hM dX10_goOut_148 (Nat.le_of_ble_eq_true rfl) (Nat.le_of_ble_eq_true rfl) ⟨rfl, by unfold outF gapF; rw [if_neg c22, if_neg (fun z => z.elim c49 (fun q => q c59)), if_pos (Or.inl (show aI α 32 (5 * b + kd) = 1 from c85))]; rfl⟩
        · refine j_iload_n (q := 89) hO dX10_goOut_88 rfl rfl ?_
          refine j_aload_n (q := 90) hO dX10_goOut_89 rfl rfl ?_
          refine m_getA (j := 44) (x := 54) (q := 93) hO hm dX10_goOut_90 rfl mw_542 (by decide) rfl rfl ?_
          refine j_iload_n (q := 94) hO dX10_goOut_93 rfl rfl ?_
          refine m_iald (x := 54) (a := 35) (q := 95) hO hm MK_54 dX10_goOut_94 rfl rfl (j := 5 * b + kd) hat (by omega) ?_
          refine j_icmp_le (tgt := 102) (q := 98) hO dX10_goOut_95 rfl (by decide) (fun c95 => ?_) (fun c95 => ?_)
          · refine j_aload_n (q := 103) hO dX10_goOut_102 rfl rfl ?_
            refine m_getA (j := 44) (x := 54) (q := 106) hO hm dX10_goOut_103 rfl mw_542 (by decide) rfl rfl ?_
            refine j_iload_n (q := 107) hO dX10_goOut_106 rfl rfl ?_
            refine m_iald (x := 54) (a := 35) (q := 108) hO hm MK_54 dX10_goOut_107 rfl rfl (j := 5 * b + kd) hat (by omega) ?_
            refine m_iast (x := 54) (a := 35) (q := 109) hO hm MK_54 dX10_goOut_108 rfl rfl (j := 5 * b + kd) hat (by omega) ?_
            refine j_aload_n (q := 110) hO dX10_goOut_109 rfl rfl ?_
            refine m_getA (j := 41) (x := 51) (q := 113) hO hm dX10_goOut_110 rfl mw_539 (by decide) rfl rfl ?_
            refine j_iload_n (q := 114) hO dX10_goOut_113 rfl rfl ?_
            refine j_dup2_11 (q := 115) hO dX10_goOut_114 rfl rfl rfl ?_
            refine m_iald (x := 51) (a := 32) (q := 116) hO hm MK_51 dX10_goOut_115 rfl rfl (j := 5 * b + kd) hat (by omega) ?_
            refine j_iconst (v := 1) (q := 117) hO dX10_goOut_116 rfl (by decide) ?_
            refine j_iadd (q := 118) hO dX10_goOut_117 rfl ?_
            refine m_iast (x := 51) (a := 32) (q := 119) hO hm MK_51 dX10_goOut_118 rfl rfl (j := 5 * b + kd) hat (by omega) ?_
            refine j_aload_n (q := 120) hO dX10_goOut_119 rfl rfl ?_
            refine m_getA (j := 42) (x := 52) (q := 123) hO hm dX10_goOut_120 rfl mw_540 (by decide) rfl rfl ?_
            refine j_iload_n (q := 124) hO dX10_goOut_123 rfl rfl ?_
            refine j_aload_n (q := 125) hO dX10_goOut_124 rfl rfl ?_
            refine m_getI (j := 35) (q := 128) hO hm dX10_goOut_125 rfl mw_533 (by decide) rfl ?_
            refine m_iast (x := 52) (a := 33) (q := 129) hO hm MK_52 dX10_goOut_128 rfl rfl (j := 5 * b + kd) hat (by omega) ?_
            refine j_aload_n (q := 130) hO dX10_goOut_129 rfl rfl ?_
            refine m_getA (j := 31) (x := 44) (q := 133) hO hm dX10_goOut_130 rfl mw_529 (by decide) rfl rfl ?_
            refine j_iload_n (q := 134) hO dX10_goOut_133 rfl rfl ?_
            refine j_iconst (v := 3) (q := 135) hO dX10_goOut_134 rfl (by decide) ?_
            refine m_iast (x := 44) (a := 25) (q := 136) hO hm MK_44 dX10_goOut_135 rfl rfl rfl (by omega) ?_
            refine j_aload_n (q := 137) hO dX10_goOut_136 rfl rfl ?_
            refine j_iload_n (q := 138) hO dX10_goOut_137 rfl rfl ?_
            refine j_iconst (v := 4) (q := 139) hO dX10_goOut_138 rfl (by decide) ?_
            refine j_aload_n (q := 140) hO dX10_goOut_139 rfl rfl ?_
            refine m_getA (j := 32) (x := 45) (q := 143) hO hm dX10_goOut_140 rfl mw_530 (by decide) rfl rfl ?_
            refine j_iload_n (q := 144) hO dX10_goOut_143 rfl rfl ?_
            refine m_iald (x := 45) (a := 26) (q := 145) hO hm MK_45 dX10_goOut_144 rfl rfl rfl (by omega) ?_
            refine j_callV (x := 10) (q := 148) hO (c_10_note (lx X) S _ n _ _ _ hm (hT.same rfl) hn) M_10_note mw_701 CK_10 rfl hm.1 rfl rfl rfl (by unfold roomy; rw [hM.R]; exact ⟨⟨Nat.le_of_ble_eq_true rfl, Nat.le_of_ble_eq_true rfl⟩, ⟨Nat.le_of_ble_eq_true rfl, Nat.le_of_ble_eq_true rfl⟩, Nat.le_of_ble_eq_true rfl⟩) dX10_goOut_145 rfl (fun v_145 S_145 hp_145 => ?_)
            obtain ⟨rfl, rfl⟩ := hp_145
            exact j_vret hM dX10_goOut_148 (Nat.le_of_ble_eq_true rfl) (Nat.le_of_ble_eq_true rfl) ⟨rfl, by unfold outF gapF; rw [if_neg c22, if_neg (fun z => z.elim c49 (fun q => q c59)), if_neg (show ¬ (aI α 32 (5 * b + kd) = 1 ∨ ¬ aI α 0 35 - aI α 33 (5 * b + kd) ≤ aI α 35 (5 * b + kd)) from fun z => z.elim c85 (fun q => q c95))]; rfl⟩
          · refine j_iload_n (q := 99) hO dX10_goOut_98 rfl rfl ?_
            refine j_goto (tgt := 108) hO dX10_goOut_99 (by decide) ?_
            refine m_iast (x := 54) (a := 35) (q := 109) hO hm MK_54 dX10_goOut_108 rfl rfl (j := 5 * b + kd) hat (by omega) ?_
            refine j_aload_n (q := 110) hO dX10_goOut_109 rfl rfl ?_
            refine m_getA (j := 41) (x := 51) (q := 113) hO hm dX10_goOut_110 rfl mw_539 (by decide) rfl rfl ?_
            refine j_iload_n (q := 114) hO dX10_goOut_113 rfl rfl ?_
            refine j_dup2_11 (q := 115) hO dX10_goOut_114 rfl rfl rfl ?_
            refine m_iald (x := 51) (a := 32) (q := 116) hO hm MK_51 dX10_goOut_115 rfl rfl (j := 5 * b + kd) hat (by omega) ?_
            refine j_iconst (v := 1) (q := 117) hO dX10_goOut_116 rfl (by decide) ?_
            refine j_iadd (q := 118) hO dX10_goOut_117 rfl ?_
            refine m_iast (x := 51) (a := 32) (q := 119) hO hm MK_51 dX10_goOut_118 rfl rfl (j := 5 * b + kd) hat (by omega) ?_
            refine j_aload_n (q := 120) hO dX10_goOut_119 rfl rfl ?_
            refine m_getA (j := 42) (x := 52) (q := 123) hO hm dX10_goOut_120 rfl mw_540 (by decide) rfl rfl ?_
            refine j_iload_n (q := 124) hO dX10_goOut_123 rfl rfl ?_
            refine j_aload_n (q := 125) hO dX10_goOut_124 rfl rfl ?_
            refine m_getI (j := 35) (q := 128) hO hm dX10_goOut_125 rfl mw_533 (by decide) rfl ?_
            refine m_iast (x := 52) (a := 33) (q := 129) hO hm MK_52 dX10_goOut_128 rfl rfl (j := 5 * b + kd) hat (by omega) ?_
            refine j_aload_n (q := 130) hO dX10_goOut_129 rfl rfl ?_
            refine m_getA (j := 31) (x := 44) (q := 133) hO hm dX10_goOut_130 rfl mw_529 (by decide) rfl rfl ?_
            refine j_iload_n (q := 134) hO dX10_goOut_133 rfl rfl ?_
            refine j_iconst (v := 3) (q := 135) hO dX10_goOut_134 rfl (by decide) ?_
            refine m_iast (x := 44) (a := 25) (q := 136) hO hm MK_44 dX10_goOut_135 rfl rfl rfl (by omega) ?_
            refine j_aload_n (q := 137) hO dX10_goOut_136 rfl rfl ?_
            refine j_iload_n (q := 138) hO dX10_goOut_137 rfl rfl ?_
            refine j_iconst (v := 4) (q := 139) hO dX10_goOut_138 rfl (by decide) ?_
            refine j_aload_n (q := 140) hO dX10_goOut_139 rfl rfl ?_
            refine m_getA (j := 32) (x := 45) (q := 143) hO hm dX10_goOut_140 rfl mw_530 (by decide) rfl rfl ?_
            refine j_iload_n (q := 144) hO dX10_goOut_143 rfl rfl ?_
            refine m_iald (x := 45) (a := 26) (q := 145) hO hm MK_45 dX10_goOut_144 rfl rfl rfl (by omega) ?_
            refine j_callV (x := 10) (q := 148) hO (c_10_note (lx X) S _ n _ _ _ hm (hT.same rfl) hn) M_10_note mw_701 CK_10 rfl hm.1 rfl rfl rfl (by unfold roomy; rw [hM.R]; exact ⟨⟨Nat.le_of_ble_eq_true rfl, Nat.le_of_ble_eq_true rfl⟩, ⟨Nat.le_of_ble_eq_true rfl, Nat.le_of_ble_eq_true rfl⟩, Nat.le_of_ble_eq_true rfl⟩) dX10_goOut_145 rfl (fun v_145 S_145 hp_145 => ?_)
            obtain ⟨rfl, rfl⟩ := hp_145
            exact j_vret hM dX10_goOut_148 (Nat.le_of_ble_eq_true rfl) (Nat.le_of_ble_eq_true rfl) ⟨rfl, by unfold outF gapF; rw [if_neg c22, if_neg (fun z => z.elim c49 (fun q => q c59)), if_pos (Or.inr (show ¬ aI α 0 35 - aI α 33 (5 * b + kd) ≤ aI α 35 (5 * b + kd) from c95))]; rfl⟩
      · refine j_iload_n (q := 63) hO dX10_goOut_62 rfl rfl ?_
        refine j_goto (tgt := 72) hO dX10_goOut_63 (by decide) ?_
        refine m_iast (x := 53) (a := 34) (q := 73) hO hm MK_53 dX10_goOut_72 rfl rfl (j := 5 * b + kd) hat (by omega) ?_
        refine j_aload_n (q := 74) hO dX10_goOut_73 rfl rfl ?_
        refine m_getA (j := 44) (x := 54) (q := 77) hO hm dX10_goOut_74 rfl mw_542 (by decide) rfl rfl ?_
        refine j_iload_n (q := 78) hO dX10_goOut_77 rfl rfl ?_
        refine j_aload_n (q := 79) hO dX10_goOut_78 rfl rfl ?_
        refine m_getA (j := 41) (x := 51) (q := 82) hO hm dX10_goOut_79 rfl mw_539 (by decide) rfl rfl ?_
        refine j_iload_n (q := 83) hO dX10_goOut_82 rfl rfl ?_
        refine m_iald (x := 51) (a := 32) (q := 84) hO hm MK_51 dX10_goOut_83 rfl rfl (j := 5 * b + kd) hat (by omega) ?_
        refine j_iconst (v := 1) (q := 85) hO dX10_goOut_84 rfl (by decide) ?_
        refine j_icmp_eq (tgt := 98) (q := 88) hO dX10_goOut_85 rfl (by decide) (fun c85 => ?_) (fun c85 => ?_)
        · refine j_iload_n (q := 99) hO dX10_goOut_98 rfl rfl ?_
          refine j_goto (tgt := 108) hO dX10_goOut_99 (by decide) ?_
          refine m_iast (x := 54) (a := 35) (q := 109) hO hm MK_54 dX10_goOut_108 rfl rfl (j := 5 * b + kd) hat (by omega) ?_
          refine j_aload_n (q := 110) hO dX10_goOut_109 rfl rfl ?_
          refine m_getA (j := 41) (x := 51) (q := 113) hO hm dX10_goOut_110 rfl mw_539 (by decide) rfl rfl ?_
          refine j_iload_n (q := 114) hO dX10_goOut_113 rfl rfl ?_
          refine j_dup2_11 (q := 115) hO dX10_goOut_114 rfl rfl rfl ?_
          refine m_iald (x := 51) (a := 32) (q := 116) hO hm MK_51 dX10_goOut_115 rfl rfl (j := 5 * b + kd) hat (by omega) ?_
          refine j_iconst (v := 1) (q := 117) hO dX10_goOut_116 rfl (by decide) ?_
          refine j_iadd (q := 118) hO dX10_goOut_117 rfl ?_
          refine m_iast (x := 51) (a := 32) (q := 119) hO hm MK_51 dX10_goOut_118 rfl rfl (j := 5 * b + kd) hat (by omega) ?_
          refine j_aload_n (q := 120) hO dX10_goOut_119 rfl rfl ?_
          refine m_getA (j := 42) (x := 52) (q := 123) hO hm dX10_goOut_120 rfl mw_540 (by decide) rfl rfl ?_
          refine j_iload_n (q := 124) hO dX10_goOut_123 rfl rfl ?_
          refine j_aload_n (q := 125) hO dX10_goOut_124 rfl rfl ?_
          refine m_getI (j := 35) (q := 128) hO hm dX10_goOut_125 rfl mw_533 (by decide) rfl ?_
          refine m_iast (x := 52) (a := 33) (q := 129) hO hm MK_52 dX10_goOut_128 rfl rfl (j := 5 * b + kd) hat (by omega) ?_
          refine j_aload_n (q := 130) hO dX10_goOut_129 rfl rfl ?_
          refine m_getA (j := 31) (x := 44) (q := 133) hO hm dX10_goOut_130 rfl mw_529 (by decide) rfl rfl ?_
          refine j_iload_n (q := 134) hO dX10_goOut_133 rfl rfl ?_
          refine j_iconst (v := 3) (q := 135) hO dX10_goOut_134 rfl (by decide) ?_
          refine m_iast (x := 44) (a := 25) (q := 136) hO hm MK_44 dX10_goOut_135 rfl rfl rfl (by omega) ?_
          refine j_aload_n (q := 137) hO dX10_goOut_136 rfl rfl ?_
          refine j_iload_n (q := 138) hO dX10_goOut_137 rfl rfl ?_
          refine j_iconst (v := 4) (q := 139) hO dX10_goOut_138 rfl (by decide) ?_
          refine j_aload_n (q := 140) hO dX10_goOut_139 rfl rfl ?_
          refine m_getA (j := 32) (x := 45) (q := 143) hO hm dX10_goOut_140 rfl mw_530 (by decide) rfl rfl ?_
          refine j_iload_n (q := 144) hO dX10_goOut_143 rfl rfl ?_
          refine m_iald (x := 45) (a := 26) (q := 145) hO hm MK_45 dX10_goOut_144 rfl rfl rfl (by omega) ?_
          refine j_callV (x := 10) (q := 148) hO (c_10_note (lx X) S _ n _ _ _ hm (hT.same rfl) hn) M_10_note mw_701 CK_10 rfl hm.1 rfl rfl rfl (by unfold roomy; rw [hM.R]; exact ⟨⟨Nat.le_of_ble_eq_true rfl, Nat.le_of_ble_eq_true rfl⟩, ⟨Nat.le_of_ble_eq_true rfl, Nat.le_of_ble_eq_true rfl⟩, Nat.le_of_ble_eq_true rfl⟩) dX10_goOut_145 rfl (fun v_145 S_145 hp_145 => ?_)
          obtain ⟨rfl, rfl⟩ := hp_145
          exact j_vret hM dX10_goOut_148 (Nat.le_of_ble_eq_true rfl) (Nat.le_of_ble_eq_true rfl) ⟨rfl, by unfold outF gapF; rw [if_neg c22, if_pos (Or.inr c59), if_pos (Or.inl (show aI α 32 (5 * b + kd) = 1 from c85))]; rfl⟩
        · refine j_iload_n (q := 89) hO dX10_goOut_88 rfl rfl ?_
          refine j_aload_n (q := 90) hO dX10_goOut_89 rfl rfl ?_
          refine m_getA (j := 44) (x := 54) (q := 93) hO hm dX10_goOut_90 rfl mw_542 (by decide) rfl rfl ?_
          refine j_iload_n (q := 94) hO dX10_goOut_93 rfl rfl ?_
          refine m_iald (x := 54) (a := 35) (q := 95) hO hm MK_54 dX10_goOut_94 rfl rfl (j := 5 * b + kd) hat (by omega) ?_
          refine j_icmp_le (tgt := 102) (q := 98) hO dX10_goOut_95 rfl (by decide) (fun c95 => ?_) (fun c95 => ?_)
          · refine j_aload_n (q := 103) hO dX10_goOut_102 rfl rfl ?_
            refine m_getA (j := 44) (x := 54) (q := 106) hO hm dX10_goOut_103 rfl mw_542 (by decide) rfl rfl ?_
            refine j_iload_n (q := 107) hO dX10_goOut_106 rfl rfl ?_
            refine m_iald (x := 54) (a := 35) (q := 108) hO hm MK_54 dX10_goOut_107 rfl rfl (j := 5 * b + kd) hat (by omega) ?_
            refine m_iast (x := 54) (a := 35) (q := 109) hO hm MK_54 dX10_goOut_108 rfl rfl (j := 5 * b + kd) hat (by omega) ?_
            refine j_aload_n (q := 110) hO dX10_goOut_109 rfl rfl ?_
            refine m_getA (j := 41) (x := 51) (q := 113) hO hm dX10_goOut_110 rfl mw_539 (by decide) rfl rfl ?_
            refine j_iload_n (q := 114) hO dX10_goOut_113 rfl rfl ?_
            refine j_dup2_11 (q := 115) hO dX10_goOut_114 rfl rfl rfl ?_
            refine m_iald (x := 51) (a := 32) (q := 116) hO hm MK_51 dX10_goOut_115 rfl rfl (j := 5 * b + kd) hat (by omega) ?_
            refine j_iconst (v := 1) (q := 117) hO dX10_goOut_116 rfl (by decide) ?_
            refine j_iadd (q := 118) hO dX10_goOut_117 rfl ?_
            refine m_iast (x := 51) (a := 32) (q := 119) hO hm MK_51 dX10_goOut_118 rfl rfl (j := 5 * b + kd) hat (by omega) ?_
            refine j_aload_n (q := 120) hO dX10_goOut_119 rfl rfl ?_
            refine m_getA (j := 42) (x := 52) (q := 123) hO hm dX10_goOut_120 rfl mw_540 (by decide) rfl rfl ?_
            refine j_iload_n (q := 124) hO dX10_goOut_123 rfl rfl ?_
            refine j_aload_n (q := 125) hO dX10_goOut_124 rfl rfl ?_
            refine m_getI (j := 35) (q := 128) hO hm dX10_goOut_125 rfl mw_533 (by decide) rfl ?_
            refine m_iast (x := 52) (a := 33) (q := 129) hO hm MK_52 dX10_goOut_128 rfl rfl (j := 5 * b + kd) hat (by omega) ?_
            refine j_aload_n (q := 130) hO dX10_goOut_129 rfl rfl ?_
            refine m_getA (j := 31) (x := 44) (q := 133) hO hm dX10_goOut_130 rfl mw_529 (by decide) rfl rfl ?_
            refine j_iload_n (q := 134) hO dX10_goOut_133 rfl rfl ?_
            refine j_iconst (v := 3) (q := 135) hO dX10_goOut_134 rfl (by decide) ?_
            refine m_iast (x := 44) (a := 25) (q := 136) hO hm MK_44 dX10_goOut_135 rfl rfl rfl (by omega) ?_
            refine j_aload_n (q := 137) hO dX10_goOut_136 rfl rfl ?_
            refine j_iload_n (q := 138) hO dX10_goOut_137 rfl rfl ?_
            refine j_iconst (v := 4) (q := 139) hO dX10_goOut_138 rfl (by decide) ?_
            refine j_aload_n (q := 140) hO dX10_goOut_139 rfl rfl ?_
            refine m_getA (j := 32) (x := 45) (q := 143) hO hm dX10_goOut_140 rfl mw_530 (by decide) rfl rfl ?_
            refine j_iload_n (q := 144) hO dX10_goOut_143 rfl rfl ?_
            refine m_iald (x := 45) (a := 26) (q := 145) hO hm MK_45 dX10_goOut_144 rfl rfl rfl (by omega) ?_
            refine j_callV (x := 10) (q := 148) hO (c_10_note (lx X) S _ n _ _ _ hm (hT.same rfl) hn) M_10_note mw_701 CK_10 rfl hm.1 rfl rfl rfl (by unfold roomy; rw [hM.R]; exact ⟨⟨Nat.le_of_ble_eq_true rfl, Nat.le_of_ble_eq_true rfl⟩, ⟨Nat.le_of_ble_eq_true rfl, Nat.le_of_ble_eq_true rfl⟩, Nat.le_of_ble_eq_true rfl⟩) dX10_goOut_145 rfl (fun v_145 S_145 hp_145 => ?_)
            obtain ⟨rfl, rfl⟩ := hp_145
            exact j_vret hM dX10_goOut_148 (Nat.le_of_ble_eq_true rfl) (Nat.le_of_ble_eq_true rfl) ⟨rfl, by unfold outF gapF; rw [if_neg c22, if_pos (Or.inr c59), if_neg (show ¬ (aI α 32 (5 * b + kd) = 1 ∨ ¬ aI α 0 35 - aI α 33 (5 * b + kd) ≤ aI α 35 (5 * b + kd)) from fun z => z.elim c85 (fun q => q c95))]; rfl⟩
          · refine j_iload_n (q := 99) hO dX10_goOut_98 rfl rfl ?_
            refine j_goto (tgt := 108) hO dX10_goOut_99 (by decide) ?_
            refine m_iast (x := 54) (a := 35) (q := 109) hO hm MK_54 dX10_goOut_108 rfl rfl (j := 5 * b + kd) hat (by omega) ?_
            refine j_aload_n (q := 110) hO dX10_goOut_109 rfl rfl ?_
            refine m_getA (j := 41) (x := 51) (q := 113) hO hm dX10_goOut_110 rfl mw_539 (by decide) rfl rfl ?_
            refine j_iload_n (q := 114) hO dX10_goOut_113 rfl rfl ?_
            refine j_dup2_11 (q := 115) hO dX10_goOut_114 rfl rfl rfl ?_
            refine m_iald (x := 51) (a := 32) (q := 116) hO hm MK_51 dX10_goOut_115 rfl rfl (j := 5 * b + kd) hat (by omega) ?_
            refine j_iconst (v := 1) (q := 117) hO dX10_goOut_116 rfl (by decide) ?_
            refine j_iadd (q := 118) hO dX10_goOut_117 rfl ?_
            refine m_iast (x := 51) (a := 32) (q := 119) hO hm MK_51 dX10_goOut_118 rfl rfl (j := 5 * b + kd) hat (by omega) ?_
            refine j_aload_n (q := 120) hO dX10_goOut_119 rfl rfl ?_
            refine m_getA (j := 42) (x := 52) (q := 123) hO hm dX10_goOut_120 rfl mw_540 (by decide) rfl rfl ?_
            refine j_iload_n (q := 124) hO dX10_goOut_123 rfl rfl ?_
            refine j_aload_n (q := 125) hO dX10_goOut_124 rfl rfl ?_
            refine m_getI (j := 35) (q := 128) hO hm dX10_goOut_125 rfl mw_533 (by decide) rfl ?_
            refine m_iast (x := 52) (a := 33) (q := 129) hO hm MK_52 dX10_goOut_128 rfl rfl (j := 5 * b + kd) hat (by omega) ?_
            refine j_aload_n (q := 130) hO dX10_goOut_129 rfl rfl ?_
            refine m_getA (j := 31) (x := 44) (q := 133) hO hm dX10_goOut_130 rfl mw_529 (by decide) rfl rfl ?_
            refine j_iload_n (q := 134) hO dX10_goOut_133 rfl rfl ?_
            refine j_iconst (v := 3) (q := 135) hO dX10_goOut_134 rfl (by decide) ?_
            refine m_iast (x := 44) (a := 25) (q := 136) hO hm MK_44 dX10_goOut_135 rfl rfl rfl (by omega) ?_
            refine j_aload_n (q := 137) hO dX10_goOut_136 rfl rfl ?_
            refine j_iload_n (q := 138) hO dX10_goOut_137 rfl rfl ?_
            refine j_iconst (v := 4) (q := 139) hO dX10_goOut_138 rfl (by decide) ?_
            refine j_aload_n (q := 140) hO dX10_goOut_139 rfl rfl ?_
            refine m_getA (j := 32) (x := 45) (q := 143) hO hm dX10_goOut_140 rfl mw_530 (by decide) rfl rfl ?_
            refine j_iload_n (q := 144) hO dX10_goOut_143 rfl rfl ?_
            refine m_iald (x := 45) (a := 26) (q := 145) hO hm MK_45 dX10_goOut_144 rfl rfl rfl (by omega) ?_
            refine j_callV (x := 10) (q := 148) hO (c_10_note (lx X) S _ n _ _ _ hm (hT.same rfl) hn) M_10_note mw_701 CK_10 rfl hm.1 rfl rfl rfl (by unfold roomy; rw [hM.R]; exact ⟨⟨Nat.le_of_ble_eq_true rfl, Nat.le_of_ble_eq_true rfl⟩, ⟨Nat.le_of_ble_eq_true rfl, Nat.le_of_ble_eq_true rfl⟩, Nat.le_of_ble_eq_true rfl⟩) dX10_goOut_145 rfl (fun v_145 S_145 hp_145 => ?_)
            obtain ⟨rfl, rfl⟩ := hp_145
            exact j_vret hM dX10_goOut_148 (Nat.le_of_ble_eq_true rfl) (Nat.le_of_ble_eq_true rfl) ⟨rfl, by unfold outF gapF; rw [if_neg c22, if_pos (Or.inr c59), if_pos (Or.inr (show ¬ aI α 0 35 - aI α 33 (5 * b + kd) ≤ aI α 35 (5 * b + kd) from c95))]; rfl⟩
