section CASES6
set_option maxRecDepth 100000 in
set_option maxHeartbeats 4000000 in
theorem cs_22 {xs : Nat → Int32} {rc : mS → Nat → Nat → Nat → Nat → Int32 → Option (Rs Int32)} {Q : Rs Int32 → Prop} (hrc : ∀ S, WP Q (rc S 1 149 173 174 8)) : WP Q (f_L_law_1843 8 xs rc (M3I, M3L, M3R, M3D, M3K, M3Z, 174) 1 149 173 174 0) := by
  obtain ⟨y1, hy1⟩ : ∃ y, xs 1 = y := ⟨_, rfl⟩
  obtain ⟨y2, hy2⟩ : ∃ y, xs 2 = y := ⟨_, rfl⟩
  refine wp_of (f_L_law_1843.eq_1 ..) ?_
  refine wp_gd qf_0 ?_
  refine wp_lt (xsk qf_1 hy1) ?_
  refine wp_gd qf_2 ?_
  refine wp_lt (xsk qf_3 hy2) ?_
  obtain ⟨wy2, hwy2⟩ : ∃ w, (((y2).toUInt32 % (65536 : UInt32))).toInt32 = w := ⟨_, rfl⟩
  have hwy2c := chq hwy2
  have hwy2a := hwy2c.1.2
  have hwy2b := hwy2c.2
  refine wp_lt hwy2 ?_
  refine wp_bd ?_
  refine wp_of (f_L_setSide.eq_1 ..) ?_
  refine wp_gd ql_K_1 ?_
  refine wp_bdc ?_
  refine wp_of (f_X10_setSide.eq_1 ..) ?_
  refine wp_gd ql_K_1 ?_
  refine wp_bd ?_
  refine wp_of (f_X10_deckOf.eq_1 ..) ?_
  refine wp_gd ql_K_1 ?_
  refine wp_lt ql_R_1_0 ?_
  refine wp_gd ql_K_2 ?_
  refine wp_bd ?_
  refine wp_of (f_X8_deckAt.eq_1 ..) ?_
  refine wp_if (fun c1 => ?_) (fun c1 => ?_)
  · skip
    refine wp_of (f_X8_deckAt_22.eq_1 ..) ?_
    refine wp_of (f_X8_deckAt_23.eq_1 ..) ?_
    refine wp_ret_bd ?_
    refine wp_ifp qf_87 ?_
    refine wp_rs_bd ?_
    refine wp_rs_bdc ?_
    refine wp_ifp qf_88 ?_
    refine wp_ret_bd ?_
    refine wp_gd qf_0 ?_
    refine wp_lt (xsk qf_1 hy1) ?_
    refine wp_gd qf_2 ?_
    refine wp_lt (xsk qf_3 hy2) ?_
    refine wp_lt hwy2 ?_
    refine wp_gd ql_K_149 ?_
    refine wp_bd ?_
    refine wp_of (f2_X13_setSide.eq_1 ..) ?_
    refine wp_bd ?_
    refine wp_of (f_X13_isDeck.eq_1 ..) ?_
    refine wp_bd ?_
    refine wp_of (f_X13_isBetween.eq_1 ..) ?_
    refine wp_ifp c1 ?_
    refine wp_of (f_X13_isBetween_14.eq_1 ..) ?_
    refine wp_of (f_X13_isBetween_15.eq_1 ..) ?_
    refine wp_gd qf_14 ?_
    refine wp_ret_bd ?_
    refine wp_gd qf_14 ?_
    refine wp_ret_bd ?_
    refine wp_ifp qf_15 ?_
    refine wp_of (f2_X13_setSide_26.eq_1 ..) ?_
    refine wp_gd ql_K_149 ?_
    refine wp_bd ?_
    refine wp_of (f_X13_isWrong.eq_1 ..) ?_
    refine wp_gd ql_K_149 ?_
    refine wp_zI ?_
    refine wp_ifn qf_17 ?_
    refine wp_of (f_X13_isWrong_14.eq_1 ..) ?_
    refine wp_gd qf_18 ?_
    refine wp_ret_bd ?_
    refine wp_ifn qf_19 ?_
    refine wp_ret_bd ?_
    refine wp_gd ql_K_149 ?_
    refine wp_bd ?_
    refine wp_of (f_X13_thrown.eq_1 ..) ?_
    refine wp_gd ql_K_149 ?_
    refine wp_lt gI_s ?_
    refine wp_ret_bd ?_
    refine wp_ifp qf_20 ?_
    refine wp_ifn qf_19 ?_
    refine wp_of (f_L_law_1910.eq_1 ..) ?_
    refine wp_of (f_L_law_3632.eq_1 ..) ?_
    refine wp_lt qf_21 ?_
    exact hrc _
  · skip
    refine wp_gd ql_K_2 ?_
    refine wp_lt ql_R_2_1 ?_
    refine wp_gd ql_K_16 ?_
    refine wp_lt (gZo ql_Z_16 qf_92) ?_
    refine wp_if (fun c2 => ?_) (fun c2 => ?_)
    · skip
      refine wp_of (f_X8_deckAt_22.eq_1 ..) ?_
      refine wp_of (f_X8_deckAt_23.eq_1 ..) ?_
      refine wp_ret_bd ?_
      refine wp_ifp qf_87 ?_
      refine wp_rs_bd ?_
      refine wp_rs_bdc ?_
      refine wp_ifp qf_88 ?_
      refine wp_ret_bd ?_
      refine wp_gd qf_0 ?_
      refine wp_lt (xsk qf_1 hy1) ?_
      refine wp_gd qf_2 ?_
      refine wp_lt (xsk qf_3 hy2) ?_
      refine wp_lt hwy2 ?_
      refine wp_gd ql_K_149 ?_
      refine wp_bd ?_
      refine wp_of (f2_X13_setSide.eq_1 ..) ?_
      refine wp_bd ?_
      refine wp_of (f_X13_isDeck.eq_1 ..) ?_
      refine wp_bd ?_
      refine wp_of (f_X13_isBetween.eq_1 ..) ?_
      refine wp_ifn c1 ?_
      refine wp_ifp (show ((3 : Int32) < y1) from by have e0 := qf_90; have e1 := qf_93; have e2 := qf_94; simp only [Int32.lt_iff_toInt_lt, Int32.le_iff_toInt_le, ← Int32.toInt_inj] at c1 c2 ⊢; omega) ?_
      refine wp_of (f_X13_isBetween_14.eq_1 ..) ?_
      refine wp_of (f_X13_isBetween_15.eq_1 ..) ?_
      refine wp_gd qf_14 ?_
      refine wp_ret_bd ?_
      refine wp_gd qf_14 ?_
      refine wp_ret_bd ?_
      refine wp_ifp qf_15 ?_
      refine wp_of (f2_X13_setSide_26.eq_1 ..) ?_
      refine wp_gd ql_K_149 ?_
      refine wp_bd ?_
      refine wp_of (f_X13_isWrong.eq_1 ..) ?_
      refine wp_gd ql_K_149 ?_
      refine wp_zI ?_
      refine wp_ifn qf_17 ?_
      refine wp_of (f_X13_isWrong_14.eq_1 ..) ?_
      refine wp_gd qf_18 ?_
      refine wp_ret_bd ?_
      refine wp_ifn qf_19 ?_
      refine wp_ret_bd ?_
      refine wp_gd ql_K_149 ?_
      refine wp_bd ?_
      refine wp_of (f_X13_thrown.eq_1 ..) ?_
      refine wp_gd ql_K_149 ?_
      refine wp_lt gI_s ?_
      refine wp_ret_bd ?_
      refine wp_ifp qf_20 ?_
      refine wp_ifn qf_19 ?_
      refine wp_of (f_L_law_1910.eq_1 ..) ?_
      refine wp_of (f_L_law_3632.eq_1 ..) ?_
      refine wp_lt qf_21 ?_
      exact hrc _
    · skip
      refine wp_lt ql_R_2_1 ?_
      refine wp_gd ql_K_16 ?_
      rcases (show y1 = (0 : Int32) ∨ y1 = (1 : Int32) ∨ y1 = (2 : Int32) ∨ y1 = (3 : Int32) from by have e0 := qf_90; have e1 := qf_95; have e2 := qf_96; have e3 := qf_93; have e4 := qf_94; simp only [Int32.lt_iff_toInt_lt, Int32.le_iff_toInt_le] at c1 c2; simp only [← Int32.toInt_inj]; omega) with rfl | rfl | rfl | rfl
      · skip
        refine wp_gd (gZi ql_Z_16 qf_97) ?_
        refine wp_lt (gRk qf_32 ql_R_16_0) ?_
        refine wp_of (f_X8_deckAt_23.eq_1 ..) ?_
        refine wp_ret_bd ?_
        refine wp_ifn qf_98 ?_
        refine wp_ret_bd ?_
        refine wp_if (fun c3 => ?_) (fun c3 => ?_)
        · skip
          subst c3
          refine wp_of (f_X10_setSide_24.eq_1 ..) ?_
          refine wp_of (f_X10_setSide_29.eq_1 ..) ?_
          refine wp_bd ?_
          refine wp_of (f_X10_demand.eq_1 ..) ?_
          refine wp_ifn qf_19 ?_
          refine wp_ret_bd ?_
          refine wp_gd ql_K_1 ?_
          refine wp_lt ql_R_1_2 ?_
          refine wp_gd ql_K_106 ?_
          refine wp_bd ?_
          refine wp_of (f_X6_note.eq_1 ..) ?_
          refine wp_gd ql_K_106 ?_
          refine wp_bd ?_
          refine wp_of (f_X6_open.eq_1 ..) ?_
          refine wp_gd ql_K_106 ?_
          refine wp_lt ql_I_106_2 ?_
          refine wp_lt qf_25 ?_
          refine wp_zI ?_
          refine wp_lt (Eq.trans (gI_b rfl) ql_I_106_2) ?_
          refine wp_ifn qf_26 ?_
          refine wp_lt (Eq.trans (gI_b rfl) ql_I_106_2) ?_
          refine wp_lt qf_27 ?_
          refine wp_zI ?_
          refine wp_of (f_X6_open_31.eq_1 ..) ?_
          refine wp_gd ql_K_106 ?_
          refine wp_bd ?_
          refine wp_of (f_X6_put.eq_1 ..) ?_
          refine wp_gd ql_K_106 ?_
          refine wp_lt (Eq.trans (gI_b rfl) gI_s) ?_
          refine wp_ifn qf_28 ?_
          refine wp_lt (Eq.trans (gI_b rfl) gI_s) ?_
          refine wp_lt ql_R_106_0 ?_
          refine wp_gd ql_K_107 ?_
          refine wp_lt (gZo ql_Z_107 qf_29) ?_
          refine wp_ifn qf_30 ?_
          refine wp_lt ql_R_106_0 ?_
          refine wp_lt (Eq.trans (gI_b rfl) gI_s) ?_
          refine wp_gd ql_K_107 ?_
          refine wp_gd (gZi ql_Z_107 qf_31) ?_
          refine wp_zIk qf_32 ?_
          refine wp_lt (Eq.trans (gI_a rfl) (Eq.trans (gI_b rfl) gI_s)) ?_
          refine wp_lt qf_27 ?_
          refine wp_zI ?_
          refine wp_of (f_X6_put_39.eq_1 ..) ?_
          refine wp_ret_bd ?_
          refine wp_ret_bd ?_
          refine wp_gd ql_K_106 ?_
          refine wp_bd ?_
          refine wp_of (f_X6_put.eq_1 ..) ?_
          refine wp_gd ql_K_106 ?_
          refine wp_lt gI_s ?_
          refine wp_ifn qf_33 ?_
          refine wp_lt gI_s ?_
          refine wp_lt ql_R_106_0 ?_
          refine wp_gd ql_K_107 ?_
          refine wp_lt (gZo ql_Z_107 qf_29) ?_
          refine wp_ifn qf_34 ?_
          refine wp_lt ql_R_106_0 ?_
          refine wp_lt gI_s ?_
          refine wp_gd ql_K_107 ?_
          refine wp_gd (gZi ql_Z_107 qf_35) ?_
          refine wp_zIk qf_36 ?_
          refine wp_lt (Eq.trans (gI_a rfl) gI_s) ?_
          refine wp_lt qf_37 ?_
          refine wp_zI ?_
          refine wp_of (f_X6_put_39.eq_1 ..) ?_
          refine wp_ret_bd ?_
          refine wp_gd ql_K_106 ?_
          refine wp_bd ?_
          refine wp_of (f_X6_put.eq_1 ..) ?_
          refine wp_gd ql_K_106 ?_
          refine wp_lt gI_s ?_
          refine wp_ifn qf_38 ?_
          refine wp_lt gI_s ?_
          refine wp_lt ql_R_106_0 ?_
          refine wp_gd ql_K_107 ?_
          refine wp_lt (gZo ql_Z_107 qf_29) ?_
          refine wp_ifn qf_39 ?_
          refine wp_lt ql_R_106_0 ?_
          refine wp_lt gI_s ?_
          refine wp_gd ql_K_107 ?_
          refine wp_gd (gZi ql_Z_107 qf_40) ?_
          refine wp_zIk qf_41 ?_
          refine wp_lt (Eq.trans (gI_a rfl) gI_s) ?_
          refine wp_lt qf_42 ?_
          refine wp_zI ?_
          refine wp_of (f_X6_put_39.eq_1 ..) ?_
          refine wp_ret_bd ?_
          refine wp_gd ql_K_106 ?_
          refine wp_bd ?_
          refine wp_of (f_X6_put.eq_1 ..) ?_
          refine wp_gd ql_K_106 ?_
          refine wp_lt gI_s ?_
          refine wp_ifn qf_43 ?_
          refine wp_lt gI_s ?_
          refine wp_lt ql_R_106_0 ?_
          refine wp_gd ql_K_107 ?_
          refine wp_lt (gZo ql_Z_107 qf_29) ?_
          refine wp_ifn qf_44 ?_
          refine wp_lt ql_R_106_0 ?_
          refine wp_lt gI_s ?_
          refine wp_gd ql_K_107 ?_
          refine wp_gd (gZi ql_Z_107 qf_45) ?_
          refine wp_zIk qf_46 ?_
          refine wp_lt (Eq.trans (gI_a rfl) gI_s) ?_
          refine wp_lt qf_47 ?_
          refine wp_zI ?_
          refine wp_of (f_X6_put_39.eq_1 ..) ?_
          refine wp_ret_bd ?_
          refine wp_ret_bd ?_
          refine wp_gd ql_K_17 ?_
          refine wp_lt ql_R_17_0 ?_
          refine wp_gd ql_K_18 ?_
          refine wp_bd ?_
          refine wp_of (f_X0_changeSide.eq_1 ..) ?_
          refine wp_gd ql_K_18 ?_
          refine wp_lt (Eq.trans (gI_a rfl) (Eq.trans (gI_a rfl) (Eq.trans (gI_a rfl) (Eq.trans (gI_a rfl) (Eq.trans (gI_a rfl) (Eq.trans (gI_a rfl) (Eq.trans (gI_a rfl) (Eq.trans (gI_a rfl) (Eq.trans (gI_a rfl) (Eq.trans (gI_a rfl) ql_I_18_4)))))))))) ?_
          refine wp_gd qf_129 ?_
          refine wp_zI ?_
          refine wp_gd qf_130 ?_
          refine wp_ret_bd ?_
          refine wp_gd qf_130 ?_
          refine wp_ret_bdc ?_
          refine wp_lt qf_131 ?_
          refine wp_gd ql_K_173 ?_
          refine wp_gd (gZi ql_Z_173 qf_71) ?_
          refine wp_zLk qf_32 ?_
          refine wp_ret_bd ?_
          refine wp_gd qf_0 ?_
          refine wp_lt (xsk qf_1 hy1) ?_
          refine wp_gd qf_2 ?_
          refine wp_lt (xsk qf_3 hy2) ?_
          refine wp_lt hwy2 ?_
          refine wp_gd ql_K_149 ?_
          refine wp_bd ?_
          refine wp_of (f2_X13_setSide.eq_1 ..) ?_
          refine wp_bd ?_
          refine wp_of (f_X13_isDeck.eq_1 ..) ?_
          refine wp_bd ?_
          refine wp_of (f_X13_isBetween.eq_1 ..) ?_
          refine wp_ifn qf_28 ?_
          refine wp_ifn qf_43 ?_
          refine wp_of (f_X13_isBetween_15.eq_1 ..) ?_
          refine wp_gd qf_18 ?_
          refine wp_ret_bd ?_
          refine wp_gd qf_18 ?_
          refine wp_ret_bd ?_
          refine wp_ifn qf_19 ?_
          refine wp_gd (Or.inr qf_132) ?_
          refine wp_bd ?_
          refine wp_of (f2_J0_indexOf_0f7a4.eq_1 ..) ?_
          refine wp_gd (Or.inr qf_132) ?_
          refine wp_bd ?_
          refine wp_of (f2_J0_indexOf_7cf53.eq_1 ..) ?_
          refine wp_gd (Or.inr qf_132) ?_
          refine wp_bd ?_
          refine wp_of (f2_J0_isLatin1_aae02.eq_1 ..) ?_
          refine wp_ifn qf_19 ?_
          refine wp_gd (Or.inr qf_132) ?_
          refine wp_lt (ifR qf_133 rfl) ?_
          refine wp_ifp qf_15 ?_
          refine wp_of (f2_J0_isLatin1_aae02_18.eq_1 ..) ?_
          refine wp_gd qf_18 ?_
          refine wp_ret_bd ?_
          refine wp_ifn qf_19 ?_
          refine wp_gd (Or.inr qf_132) ?_
          refine wp_lt (ifR qf_133 qf_134) ?_
          refine wp_gd (Or.inr qf_132) ?_
          refine wp_bd ?_
          refine wp_of (f2_J0_length_8abf5.eq_1 ..) ?_
          refine wp_gd (Or.inr qf_132) ?_
          refine wp_lt (ifR qf_133 qf_134) ?_
          refine wp_gd (Or.inr qf_135) ?_
          refine wp_lt (zbo (zbK qf_136 qf_137) qf_121) ?_
          refine wp_gd (Or.inr qf_132) ?_
          refine wp_bd ?_
          refine wp_of (f2_J0_coder_7d493.eq_1 ..) ?_
          refine wp_ifn qf_19 ?_
          refine wp_gd (Or.inr qf_132) ?_
          refine wp_lt (ifR qf_133 rfl) ?_
          refine wp_of (f2_J0_coder_7d493_14.eq_1 ..) ?_
          refine wp_gd qf_138 ?_
          refine wp_ret_bd ?_
          refine wp_lt qf_139 ?_
          refine wp_ret_bd ?_
          refine wp_bd ?_
          refine wp_of (f2_J1_indexOf_4cfef.eq_1 ..) ?_
          refine wp_bd ?_
          refine wp_of (f_J1_canEncode_9a6ad.eq_1 ..) ?_
          refine wp_ifn qf_140 ?_
          refine wp_ifn qf_141 ?_
          refine wp_of (f_J1_canEncode_9a6ad_16.eq_1 ..) ?_
          refine wp_gd qf_18 ?_
          refine wp_ret_bd ?_
          refine wp_ifn qf_19 ?_
          refine wp_lt qf_142 ?_
          refine wp_gd (Or.inr qf_135) ?_
          refine wp_lt (zbo (zbK qf_136 qf_137) qf_121) ?_
          refine wp_lt qf_143 ?_
          refine wp_ifp qf_144 ?_
          refine wp_bd ?_
          refine wp_of (f2_J1_indexOfChar_4cfef.eq_1 ..) ?_
          refine wp_lt qf_145 ?_
          refine wp_of (f2_J1_indexOfChar_4cfef_7.eq_2 ..) ?_
          refine wp_ifn qf_115 ?_
          refine wp_gd (Or.inr qf_135) ?_
          refine wp_gd (zbi (zbK qf_136 qf_137) qf_122) ?_
          refine wp_lt (ibk qf_32 (ibK qf_136 qf_146)) ?_
          refine wp_ifp qf_147 ?_
          refine wp_ret_bd ?_
          refine wp_ret_bd ?_
          refine wp_of (f2_J0_indexOf_7cf53_36.eq_1 ..) ?_
          refine wp_ret_bd ?_
          refine wp_ret_bd ?_
          refine wp_ifp qf_73 ?_
          refine wp_of (f2_X13_setSide_26.eq_1 ..) ?_
          refine wp_gd ql_K_149 ?_
          refine wp_bd ?_
          refine wp_of (f_X13_isWrong.eq_1 ..) ?_
          refine wp_gd ql_K_149 ?_
          refine wp_zI ?_
          refine wp_ifp qf_73 ?_
          refine wp_of (f_X13_isWrong_14.eq_1 ..) ?_
          refine wp_gd qf_14 ?_
          refine wp_ret_bd ?_
          refine wp_ifp qf_15 ?_
          refine wp_gd ql_K_149 ?_
          refine wp_lt ql_R_149_2 ?_
          refine wp_gd ql_K_151 ?_
          refine wp_gd (gZi ql_Z_151 qf_97) ?_
          refine wp_lt (gRk qf_32 ql_R_151_0) ?_
          refine wp_gd ql_K_152 ?_
          refine wp_lt (Eq.trans (gI_a rfl) (Eq.trans (gI_a rfl) (Eq.trans (gI_a rfl) (Eq.trans (gI_a rfl) (Eq.trans (gI_a rfl) (Eq.trans (gI_a rfl) (Eq.trans (gI_a rfl) (Eq.trans (gI_a rfl) (Eq.trans (gI_a rfl) (Eq.trans (gI_a rfl) (Eq.trans (gI_a rfl) (Eq.trans (gI_a rfl) ql_I_152_15)))))))))))) ?_
          refine wp_lt ql_R_149_2 ?_
          refine wp_gd ql_K_151 ?_
          refine wp_gd (gZi ql_Z_151 qf_97) ?_
          refine wp_lt (gRk qf_32 ql_R_151_0) ?_
          refine wp_gd ql_K_152 ?_
          refine wp_gd qf_129 ?_
          refine wp_zI ?_
          refine wp_bd ?_
          refine wp_of (f_X13_logs.eq_1 ..) ?_
          refine wp_gd ql_K_149 ?_
          refine wp_lt (Eq.trans (gI_a rfl) (Eq.trans (gI_b rfl) (Eq.trans (gI_a rfl) (Eq.trans (gI_a rfl) (Eq.trans (gI_a rfl) (Eq.trans (gI_a rfl) (Eq.trans (gI_a rfl) (Eq.trans (gI_a rfl) (Eq.trans (gI_a rfl) (Eq.trans (gI_a rfl) (Eq.trans (gI_a rfl) (Eq.trans (gI_a rfl) (Eq.trans (gI_a rfl) ql_I_149_16))))))))))))) ?_
          refine wp_lt qf_27 ?_
          refine wp_zI ?_
          refine wp_ret_bd ?_
          refine wp_gd qf_130 ?_
          refine wp_ret_bd ?_
          refine wp_gd ql_K_149 ?_
          refine wp_bd ?_
          refine wp_of (f_X13_thrown.eq_1 ..) ?_
          refine wp_gd ql_K_149 ?_
          refine wp_lt (Eq.trans (gI_b rfl) (Eq.trans (gI_a rfl) gI_s)) ?_
          refine wp_ret_bd ?_
          refine wp_ifp qf_15 ?_
          refine wp_ifp qf_15 ?_
          refine wp_gd ql_K_173 ?_
          refine wp_gd (gZi ql_Z_173 qf_71) ?_
          refine wp_lt (gLk qf_32 gL_s) ?_
          refine wp_lt qf_131 ?_
          refine wp_lt qf_148 ?_
          refine wp_ifp qf_15 ?_
          refine wp_of (f_L_law_1910.eq_1 ..) ?_
          refine wp_of (f_L_law_3632.eq_1 ..) ?_
          refine wp_lt qf_21 ?_
          exact hrc _
        · skip
          refine wp_if (fun c4 => ?_) (fun c4 => ?_)
          · skip
            subst c4
            refine wp_of (f_X10_setSide_24.eq_1 ..) ?_
            refine wp_of (f_X10_setSide_29.eq_1 ..) ?_
            refine wp_bd ?_
            refine wp_of (f_X10_demand.eq_1 ..) ?_
            refine wp_ifn qf_19 ?_
            refine wp_ret_bd ?_
            refine wp_gd ql_K_1 ?_
            refine wp_lt ql_R_1_2 ?_
            refine wp_gd ql_K_106 ?_
            refine wp_bd ?_
            refine wp_of (f_X6_note.eq_1 ..) ?_
            refine wp_gd ql_K_106 ?_
            refine wp_bd ?_
            refine wp_of (f_X6_open.eq_1 ..) ?_
            refine wp_gd ql_K_106 ?_
            refine wp_lt ql_I_106_2 ?_
            refine wp_lt qf_25 ?_
            refine wp_zI ?_
            refine wp_lt (Eq.trans (gI_b rfl) ql_I_106_2) ?_
            refine wp_ifn qf_26 ?_
            refine wp_lt (Eq.trans (gI_b rfl) ql_I_106_2) ?_
            refine wp_lt qf_27 ?_
            refine wp_zI ?_
            refine wp_of (f_X6_open_31.eq_1 ..) ?_
            refine wp_gd ql_K_106 ?_
            refine wp_bd ?_
            refine wp_of (f_X6_put.eq_1 ..) ?_
            refine wp_gd ql_K_106 ?_
            refine wp_lt (Eq.trans (gI_b rfl) gI_s) ?_
            refine wp_ifn qf_28 ?_
            refine wp_lt (Eq.trans (gI_b rfl) gI_s) ?_
            refine wp_lt ql_R_106_0 ?_
            refine wp_gd ql_K_107 ?_
            refine wp_lt (gZo ql_Z_107 qf_29) ?_
            refine wp_ifn qf_30 ?_
            refine wp_lt ql_R_106_0 ?_
            refine wp_lt (Eq.trans (gI_b rfl) gI_s) ?_
            refine wp_gd ql_K_107 ?_
            refine wp_gd (gZi ql_Z_107 qf_31) ?_
            refine wp_zIk qf_32 ?_
            refine wp_lt (Eq.trans (gI_a rfl) (Eq.trans (gI_b rfl) gI_s)) ?_
            refine wp_lt qf_27 ?_
            refine wp_zI ?_
            refine wp_of (f_X6_put_39.eq_1 ..) ?_
            refine wp_ret_bd ?_
            refine wp_ret_bd ?_
            refine wp_gd ql_K_106 ?_
            refine wp_bd ?_
            refine wp_of (f_X6_put.eq_1 ..) ?_
            refine wp_gd ql_K_106 ?_
            refine wp_lt gI_s ?_
            refine wp_ifn qf_33 ?_
            refine wp_lt gI_s ?_
            refine wp_lt ql_R_106_0 ?_
            refine wp_gd ql_K_107 ?_
            refine wp_lt (gZo ql_Z_107 qf_29) ?_
            refine wp_ifn qf_34 ?_
            refine wp_lt ql_R_106_0 ?_
            refine wp_lt gI_s ?_
            refine wp_gd ql_K_107 ?_
            refine wp_gd (gZi ql_Z_107 qf_35) ?_
            refine wp_zIk qf_36 ?_
            refine wp_lt (Eq.trans (gI_a rfl) gI_s) ?_
            refine wp_lt qf_37 ?_
            refine wp_zI ?_
            refine wp_of (f_X6_put_39.eq_1 ..) ?_
            refine wp_ret_bd ?_
            refine wp_gd ql_K_106 ?_
            refine wp_bd ?_
            refine wp_of (f_X6_put.eq_1 ..) ?_
            refine wp_gd ql_K_106 ?_
            refine wp_lt gI_s ?_
            refine wp_ifn qf_38 ?_
            refine wp_lt gI_s ?_
            refine wp_lt ql_R_106_0 ?_
            refine wp_gd ql_K_107 ?_
            refine wp_lt (gZo ql_Z_107 qf_29) ?_
            refine wp_ifn qf_39 ?_
            refine wp_lt ql_R_106_0 ?_
            refine wp_lt gI_s ?_
            refine wp_gd ql_K_107 ?_
            refine wp_gd (gZi ql_Z_107 qf_40) ?_
            refine wp_zIk qf_41 ?_
            refine wp_lt (Eq.trans (gI_a rfl) gI_s) ?_
            refine wp_lt qf_42 ?_
            refine wp_zI ?_
            refine wp_of (f_X6_put_39.eq_1 ..) ?_
            refine wp_ret_bd ?_
            refine wp_gd ql_K_106 ?_
            refine wp_bd ?_
            refine wp_of (f_X6_put.eq_1 ..) ?_
            refine wp_gd ql_K_106 ?_
            refine wp_lt gI_s ?_
            refine wp_ifn qf_43 ?_
            refine wp_lt gI_s ?_
            refine wp_lt ql_R_106_0 ?_
            refine wp_gd ql_K_107 ?_
            refine wp_lt (gZo ql_Z_107 qf_29) ?_
            refine wp_ifn qf_44 ?_
            refine wp_lt ql_R_106_0 ?_
            refine wp_lt gI_s ?_
            refine wp_gd ql_K_107 ?_
            refine wp_gd (gZi ql_Z_107 qf_45) ?_
            refine wp_zIk qf_46 ?_
            refine wp_lt (Eq.trans (gI_a rfl) gI_s) ?_
            refine wp_lt qf_47 ?_
            refine wp_zI ?_
            refine wp_of (f_X6_put_39.eq_1 ..) ?_
            refine wp_ret_bd ?_
            refine wp_ret_bd ?_
            refine wp_gd ql_K_17 ?_
            refine wp_lt ql_R_17_0 ?_
            refine wp_gd ql_K_18 ?_
            refine wp_bd ?_
            refine wp_of (f_X0_changeSide.eq_1 ..) ?_
            refine wp_gd ql_K_18 ?_
            refine wp_lt (Eq.trans (gI_a rfl) (Eq.trans (gI_a rfl) (Eq.trans (gI_a rfl) (Eq.trans (gI_a rfl) (Eq.trans (gI_a rfl) (Eq.trans (gI_a rfl) (Eq.trans (gI_a rfl) (Eq.trans (gI_a rfl) (Eq.trans (gI_a rfl) (Eq.trans (gI_a rfl) ql_I_18_4)))))))))) ?_
            refine wp_gd qf_130 ?_
            refine wp_zI ?_
            refine wp_gd qf_130 ?_
            refine wp_ret_bd ?_
            refine wp_gd qf_130 ?_
            refine wp_ret_bdc ?_
            refine wp_lt qf_131 ?_
            refine wp_gd ql_K_173 ?_
            refine wp_gd (gZi ql_Z_173 qf_71) ?_
            refine wp_zLk qf_32 ?_
            refine wp_ret_bd ?_
            refine wp_gd qf_0 ?_
            refine wp_lt (xsk qf_1 hy1) ?_
            refine wp_gd qf_2 ?_
            refine wp_lt (xsk qf_3 hy2) ?_
            refine wp_lt hwy2 ?_
            refine wp_gd ql_K_149 ?_
            refine wp_bd ?_
            refine wp_of (f2_X13_setSide.eq_1 ..) ?_
            refine wp_bd ?_
            refine wp_of (f_X13_isDeck.eq_1 ..) ?_
            refine wp_bd ?_
            refine wp_of (f_X13_isBetween.eq_1 ..) ?_
            refine wp_ifn qf_28 ?_
            refine wp_ifn qf_43 ?_
            refine wp_of (f_X13_isBetween_15.eq_1 ..) ?_
            refine wp_gd qf_18 ?_
            refine wp_ret_bd ?_
            refine wp_gd qf_18 ?_
            refine wp_ret_bd ?_
            refine wp_ifn qf_19 ?_
            refine wp_gd (Or.inr qf_132) ?_
            refine wp_bd ?_
            refine wp_of (f2_J0_indexOf_0f7a4.eq_1 ..) ?_
            refine wp_gd (Or.inr qf_132) ?_
            refine wp_bd ?_
            refine wp_of (f2_J0_indexOf_7cf53.eq_1 ..) ?_
            refine wp_gd (Or.inr qf_132) ?_
            refine wp_bd ?_
            refine wp_of (f2_J0_isLatin1_aae02.eq_1 ..) ?_
            refine wp_ifn qf_19 ?_
            refine wp_gd (Or.inr qf_132) ?_
            refine wp_lt (ifR qf_133 rfl) ?_
            refine wp_ifp qf_15 ?_
            refine wp_of (f2_J0_isLatin1_aae02_18.eq_1 ..) ?_
            refine wp_gd qf_18 ?_
            refine wp_ret_bd ?_
            refine wp_ifn qf_19 ?_
            refine wp_gd (Or.inr qf_132) ?_
            refine wp_lt (ifR qf_133 qf_134) ?_
            refine wp_gd (Or.inr qf_132) ?_
            refine wp_bd ?_
            refine wp_of (f2_J0_length_8abf5.eq_1 ..) ?_
            refine wp_gd (Or.inr qf_132) ?_
            refine wp_lt (ifR qf_133 qf_134) ?_
            refine wp_gd (Or.inr qf_135) ?_
            refine wp_lt (zbo (zbK qf_136 qf_137) qf_121) ?_
            refine wp_gd (Or.inr qf_132) ?_
            refine wp_bd ?_
            refine wp_of (f2_J0_coder_7d493.eq_1 ..) ?_
            refine wp_ifn qf_19 ?_
            refine wp_gd (Or.inr qf_132) ?_
            refine wp_lt (ifR qf_133 rfl) ?_
            refine wp_of (f2_J0_coder_7d493_14.eq_1 ..) ?_
            refine wp_gd qf_138 ?_
            refine wp_ret_bd ?_
            refine wp_lt qf_139 ?_
            refine wp_ret_bd ?_
            refine wp_bd ?_
            refine wp_of (f2_J1_indexOf_4cfef.eq_1 ..) ?_
            refine wp_bd ?_
            refine wp_of (f_J1_canEncode_9a6ad.eq_1 ..) ?_
            refine wp_ifn qf_149 ?_
            refine wp_ifn qf_150 ?_
            refine wp_of (f_J1_canEncode_9a6ad_16.eq_1 ..) ?_
            refine wp_gd qf_18 ?_
            refine wp_ret_bd ?_
            refine wp_ifn qf_19 ?_
            refine wp_lt qf_142 ?_
            refine wp_gd (Or.inr qf_135) ?_
            refine wp_lt (zbo (zbK qf_136 qf_137) qf_121) ?_
            refine wp_lt qf_143 ?_
            refine wp_ifp qf_144 ?_
            refine wp_bd ?_
            refine wp_of (f2_J1_indexOfChar_4cfef.eq_1 ..) ?_
            refine wp_lt qf_151 ?_
            refine wp_of (f2_J1_indexOfChar_4cfef_7.eq_2 ..) ?_
            refine wp_ifn qf_115 ?_
            refine wp_gd (Or.inr qf_135) ?_
            refine wp_gd (zbi (zbK qf_136 qf_137) qf_122) ?_
            refine wp_lt (ibk qf_32 (ibK qf_136 qf_146)) ?_
            refine wp_ifn qf_152 ?_
            refine wp_lt qf_153 ?_
            refine wp_of (f2_J1_indexOfChar_4cfef_7.eq_2 ..) ?_
            refine wp_ifn qf_154 ?_
            refine wp_gd (Or.inr qf_135) ?_
            refine wp_gd (zbi (zbK qf_136 qf_137) qf_125) ?_
            refine wp_lt (ibk qf_36 (ibK qf_136 qf_155)) ?_
            refine wp_ifp qf_156 ?_
            refine wp_ret_bd ?_
            refine wp_ret_bd ?_
            refine wp_of (f2_J0_indexOf_7cf53_36.eq_1 ..) ?_
            refine wp_ret_bd ?_
            refine wp_ret_bd ?_
            refine wp_ifp qf_157 ?_
            refine wp_of (f2_X13_setSide_26.eq_1 ..) ?_
            refine wp_gd ql_K_149 ?_
            refine wp_bd ?_
            refine wp_of (f_X13_isWrong.eq_1 ..) ?_
            refine wp_gd ql_K_149 ?_
            refine wp_zI ?_
            refine wp_ifp qf_73 ?_
            refine wp_of (f_X13_isWrong_14.eq_1 ..) ?_
            refine wp_gd qf_14 ?_
            refine wp_ret_bd ?_
            refine wp_ifp qf_15 ?_
            refine wp_gd ql_K_149 ?_
            refine wp_lt ql_R_149_2 ?_
            refine wp_gd ql_K_151 ?_
            refine wp_gd (gZi ql_Z_151 qf_97) ?_
            refine wp_lt (gRk qf_32 ql_R_151_0) ?_
            refine wp_gd ql_K_152 ?_
            refine wp_lt (Eq.trans (gI_a rfl) (Eq.trans (gI_a rfl) (Eq.trans (gI_a rfl) (Eq.trans (gI_a rfl) (Eq.trans (gI_a rfl) (Eq.trans (gI_a rfl) (Eq.trans (gI_a rfl) (Eq.trans (gI_a rfl) (Eq.trans (gI_a rfl) (Eq.trans (gI_a rfl) (Eq.trans (gI_a rfl) (Eq.trans (gI_a rfl) ql_I_152_15)))))))))))) ?_
            refine wp_lt ql_R_149_2 ?_
            refine wp_gd ql_K_151 ?_
            refine wp_gd (gZi ql_Z_151 qf_97) ?_
            refine wp_lt (gRk qf_32 ql_R_151_0) ?_
            refine wp_gd ql_K_152 ?_
            refine wp_gd qf_130 ?_
            refine wp_zI ?_
            refine wp_bd ?_
            refine wp_of (f_X13_logs.eq_1 ..) ?_
            refine wp_gd ql_K_149 ?_
            refine wp_lt (Eq.trans (gI_a rfl) (Eq.trans (gI_b rfl) (Eq.trans (gI_a rfl) (Eq.trans (gI_a rfl) (Eq.trans (gI_a rfl) (Eq.trans (gI_a rfl) (Eq.trans (gI_a rfl) (Eq.trans (gI_a rfl) (Eq.trans (gI_a rfl) (Eq.trans (gI_a rfl) (Eq.trans (gI_a rfl) (Eq.trans (gI_a rfl) (Eq.trans (gI_a rfl) ql_I_149_16))))))))))))) ?_
            refine wp_lt qf_27 ?_
            refine wp_zI ?_
            refine wp_ret_bd ?_
            refine wp_gd qf_130 ?_
            refine wp_ret_bd ?_
            refine wp_gd ql_K_149 ?_
            refine wp_bd ?_
            refine wp_of (f_X13_thrown.eq_1 ..) ?_
            refine wp_gd ql_K_149 ?_
            refine wp_lt (Eq.trans (gI_b rfl) (Eq.trans (gI_a rfl) gI_s)) ?_
            refine wp_ret_bd ?_
            refine wp_ifp qf_15 ?_
            refine wp_ifp qf_15 ?_
            refine wp_gd ql_K_173 ?_
            refine wp_gd (gZi ql_Z_173 qf_71) ?_
            refine wp_lt (gLk qf_32 gL_s) ?_
            refine wp_lt qf_131 ?_
            refine wp_lt qf_148 ?_
            refine wp_ifp qf_15 ?_
            refine wp_of (f_L_law_1910.eq_1 ..) ?_
            refine wp_of (f_L_law_3632.eq_1 ..) ?_
            refine wp_lt qf_21 ?_
            exact hrc _
          · skip
            refine wp_if (fun c5 => ?_) (fun c5 => ?_)
            · skip
              subst c5
              refine wp_of (f_X10_setSide_24.eq_1 ..) ?_
              refine wp_of (f_X10_setSide_29.eq_1 ..) ?_
              refine wp_bd ?_
              refine wp_of (f_X10_demand.eq_1 ..) ?_
              refine wp_ifn qf_19 ?_
              refine wp_ret_bd ?_
              refine wp_gd ql_K_1 ?_
              refine wp_lt ql_R_1_2 ?_
              refine wp_gd ql_K_106 ?_
              refine wp_bd ?_
              refine wp_of (f_X6_note.eq_1 ..) ?_
              refine wp_gd ql_K_106 ?_
              refine wp_bd ?_
              refine wp_of (f_X6_open.eq_1 ..) ?_
              refine wp_gd ql_K_106 ?_
              refine wp_lt ql_I_106_2 ?_
              refine wp_lt qf_25 ?_
              refine wp_zI ?_
              refine wp_lt (Eq.trans (gI_b rfl) ql_I_106_2) ?_
              refine wp_ifn qf_26 ?_
              refine wp_lt (Eq.trans (gI_b rfl) ql_I_106_2) ?_
              refine wp_lt qf_27 ?_
              refine wp_zI ?_
              refine wp_of (f_X6_open_31.eq_1 ..) ?_
              refine wp_gd ql_K_106 ?_
              refine wp_bd ?_
              refine wp_of (f_X6_put.eq_1 ..) ?_
              refine wp_gd ql_K_106 ?_
              refine wp_lt (Eq.trans (gI_b rfl) gI_s) ?_
              refine wp_ifn qf_28 ?_
              refine wp_lt (Eq.trans (gI_b rfl) gI_s) ?_
              refine wp_lt ql_R_106_0 ?_
              refine wp_gd ql_K_107 ?_
              refine wp_lt (gZo ql_Z_107 qf_29) ?_
              refine wp_ifn qf_30 ?_
              refine wp_lt ql_R_106_0 ?_
              refine wp_lt (Eq.trans (gI_b rfl) gI_s) ?_
              refine wp_gd ql_K_107 ?_
              refine wp_gd (gZi ql_Z_107 qf_31) ?_
              refine wp_zIk qf_32 ?_
              refine wp_lt (Eq.trans (gI_a rfl) (Eq.trans (gI_b rfl) gI_s)) ?_
              refine wp_lt qf_27 ?_
              refine wp_zI ?_
              refine wp_of (f_X6_put_39.eq_1 ..) ?_
              refine wp_ret_bd ?_
              refine wp_ret_bd ?_
              refine wp_gd ql_K_106 ?_
              refine wp_bd ?_
              refine wp_of (f_X6_put.eq_1 ..) ?_
              refine wp_gd ql_K_106 ?_
              refine wp_lt gI_s ?_
              refine wp_ifn qf_33 ?_
              refine wp_lt gI_s ?_
              refine wp_lt ql_R_106_0 ?_
              refine wp_gd ql_K_107 ?_
              refine wp_lt (gZo ql_Z_107 qf_29) ?_
              refine wp_ifn qf_34 ?_
              refine wp_lt ql_R_106_0 ?_
              refine wp_lt gI_s ?_
              refine wp_gd ql_K_107 ?_
              refine wp_gd (gZi ql_Z_107 qf_35) ?_
              refine wp_zIk qf_36 ?_
              refine wp_lt (Eq.trans (gI_a rfl) gI_s) ?_
              refine wp_lt qf_37 ?_
              refine wp_zI ?_
              refine wp_of (f_X6_put_39.eq_1 ..) ?_
              refine wp_ret_bd ?_
              refine wp_gd ql_K_106 ?_
              refine wp_bd ?_
              refine wp_of (f_X6_put.eq_1 ..) ?_
              refine wp_gd ql_K_106 ?_
              refine wp_lt gI_s ?_
              refine wp_ifn qf_38 ?_
              refine wp_lt gI_s ?_
              refine wp_lt ql_R_106_0 ?_
              refine wp_gd ql_K_107 ?_
              refine wp_lt (gZo ql_Z_107 qf_29) ?_
              refine wp_ifn qf_39 ?_
              refine wp_lt ql_R_106_0 ?_
              refine wp_lt gI_s ?_
              refine wp_gd ql_K_107 ?_
              refine wp_gd (gZi ql_Z_107 qf_40) ?_
              refine wp_zIk qf_41 ?_
              refine wp_lt (Eq.trans (gI_a rfl) gI_s) ?_
              refine wp_lt qf_42 ?_
              refine wp_zI ?_
              refine wp_of (f_X6_put_39.eq_1 ..) ?_
              refine wp_ret_bd ?_
              refine wp_gd ql_K_106 ?_
              refine wp_bd ?_
              refine wp_of (f_X6_put.eq_1 ..) ?_
              refine wp_gd ql_K_106 ?_
              refine wp_lt gI_s ?_
              refine wp_ifn qf_43 ?_
              refine wp_lt gI_s ?_
              refine wp_lt ql_R_106_0 ?_
              refine wp_gd ql_K_107 ?_
              refine wp_lt (gZo ql_Z_107 qf_29) ?_
              refine wp_ifn qf_44 ?_
              refine wp_lt ql_R_106_0 ?_
              refine wp_lt gI_s ?_
              refine wp_gd ql_K_107 ?_
              refine wp_gd (gZi ql_Z_107 qf_45) ?_
              refine wp_zIk qf_46 ?_
              refine wp_lt (Eq.trans (gI_a rfl) gI_s) ?_
              refine wp_lt qf_47 ?_
              refine wp_zI ?_
              refine wp_of (f_X6_put_39.eq_1 ..) ?_
              refine wp_ret_bd ?_
              refine wp_ret_bd ?_
              refine wp_gd ql_K_17 ?_
              refine wp_lt ql_R_17_0 ?_
              refine wp_gd ql_K_18 ?_
              refine wp_bd ?_
              refine wp_of (f_X0_changeSide.eq_1 ..) ?_
              refine wp_gd ql_K_18 ?_
              refine wp_lt (Eq.trans (gI_a rfl) (Eq.trans (gI_a rfl) (Eq.trans (gI_a rfl) (Eq.trans (gI_a rfl) (Eq.trans (gI_a rfl) (Eq.trans (gI_a rfl) (Eq.trans (gI_a rfl) (Eq.trans (gI_a rfl) (Eq.trans (gI_a rfl) (Eq.trans (gI_a rfl) ql_I_18_4)))))))))) ?_
              refine wp_gd qf_158 ?_
              refine wp_zI ?_
              refine wp_gd qf_130 ?_
              refine wp_ret_bd ?_
              refine wp_gd qf_130 ?_
              refine wp_ret_bdc ?_
              refine wp_lt qf_131 ?_
              refine wp_gd ql_K_173 ?_
              refine wp_gd (gZi ql_Z_173 qf_71) ?_
              refine wp_zLk qf_32 ?_
              refine wp_ret_bd ?_
              refine wp_gd qf_0 ?_
              refine wp_lt (xsk qf_1 hy1) ?_
              refine wp_gd qf_2 ?_
              refine wp_lt (xsk qf_3 hy2) ?_
              refine wp_lt hwy2 ?_
              refine wp_gd ql_K_149 ?_
              refine wp_bd ?_
              refine wp_of (f2_X13_setSide.eq_1 ..) ?_
              refine wp_bd ?_
              refine wp_of (f_X13_isDeck.eq_1 ..) ?_
              refine wp_bd ?_
              refine wp_of (f_X13_isBetween.eq_1 ..) ?_
              refine wp_ifn qf_28 ?_
              refine wp_ifn qf_43 ?_
              refine wp_of (f_X13_isBetween_15.eq_1 ..) ?_
              refine wp_gd qf_18 ?_
              refine wp_ret_bd ?_
              refine wp_gd qf_18 ?_
              refine wp_ret_bd ?_
              refine wp_ifn qf_19 ?_
              refine wp_gd (Or.inr qf_132) ?_
              refine wp_bd ?_
              refine wp_of (f2_J0_indexOf_0f7a4.eq_1 ..) ?_
              refine wp_gd (Or.inr qf_132) ?_
              refine wp_bd ?_
              refine wp_of (f2_J0_indexOf_7cf53.eq_1 ..) ?_
              refine wp_gd (Or.inr qf_132) ?_
              refine wp_bd ?_
              refine wp_of (f2_J0_isLatin1_aae02.eq_1 ..) ?_
              refine wp_ifn qf_19 ?_
              refine wp_gd (Or.inr qf_132) ?_
              refine wp_lt (ifR qf_133 rfl) ?_
              refine wp_ifp qf_15 ?_
              refine wp_of (f2_J0_isLatin1_aae02_18.eq_1 ..) ?_
              refine wp_gd qf_18 ?_
              refine wp_ret_bd ?_
              refine wp_ifn qf_19 ?_
              refine wp_gd (Or.inr qf_132) ?_
              refine wp_lt (ifR qf_133 qf_134) ?_
              refine wp_gd (Or.inr qf_132) ?_
              refine wp_bd ?_
              refine wp_of (f2_J0_length_8abf5.eq_1 ..) ?_
              refine wp_gd (Or.inr qf_132) ?_
              refine wp_lt (ifR qf_133 qf_134) ?_
              refine wp_gd (Or.inr qf_135) ?_
              refine wp_lt (zbo (zbK qf_136 qf_137) qf_121) ?_
              refine wp_gd (Or.inr qf_132) ?_
              refine wp_bd ?_
              refine wp_of (f2_J0_coder_7d493.eq_1 ..) ?_
              refine wp_ifn qf_19 ?_
              refine wp_gd (Or.inr qf_132) ?_
              refine wp_lt (ifR qf_133 rfl) ?_
              refine wp_of (f2_J0_coder_7d493_14.eq_1 ..) ?_
              refine wp_gd qf_138 ?_
              refine wp_ret_bd ?_
              refine wp_lt qf_139 ?_
              refine wp_ret_bd ?_
              refine wp_bd ?_
              refine wp_of (f2_J1_indexOf_4cfef.eq_1 ..) ?_
              refine wp_bd ?_
              refine wp_of (f_J1_canEncode_9a6ad.eq_1 ..) ?_
              refine wp_ifn qf_159 ?_
              refine wp_ifn qf_160 ?_
              refine wp_of (f_J1_canEncode_9a6ad_16.eq_1 ..) ?_
              refine wp_gd qf_18 ?_
              refine wp_ret_bd ?_
              refine wp_ifn qf_19 ?_
              refine wp_lt qf_142 ?_
              refine wp_gd (Or.inr qf_135) ?_
              refine wp_lt (zbo (zbK qf_136 qf_137) qf_121) ?_
              refine wp_lt qf_143 ?_
              refine wp_ifp qf_144 ?_
              refine wp_bd ?_
              refine wp_of (f2_J1_indexOfChar_4cfef.eq_1 ..) ?_
              refine wp_lt qf_161 ?_
              refine wp_of (f2_J1_indexOfChar_4cfef_7.eq_2 ..) ?_
              refine wp_ifn qf_115 ?_
              refine wp_gd (Or.inr qf_135) ?_
              refine wp_gd (zbi (zbK qf_136 qf_137) qf_122) ?_
              refine wp_lt (ibk qf_32 (ibK qf_136 qf_146)) ?_
              refine wp_ifn qf_162 ?_
              refine wp_lt qf_153 ?_
              refine wp_of (f2_J1_indexOfChar_4cfef_7.eq_2 ..) ?_
              refine wp_ifn qf_154 ?_
              refine wp_gd (Or.inr qf_135) ?_
              refine wp_gd (zbi (zbK qf_136 qf_137) qf_125) ?_
              refine wp_lt (ibk qf_36 (ibK qf_136 qf_155)) ?_
              refine wp_ifn qf_163 ?_
              refine wp_lt qf_164 ?_
              refine wp_of (f2_J1_indexOfChar_4cfef_7.eq_2 ..) ?_
              refine wp_ifn qf_165 ?_
              refine wp_gd (Or.inr qf_135) ?_
              refine wp_gd (zbi (zbK qf_136 qf_137) qf_127) ?_
              refine wp_lt (ibk qf_41 (ibK qf_136 qf_166)) ?_
              refine wp_ifp qf_167 ?_
              refine wp_ret_bd ?_
              refine wp_ret_bd ?_
              refine wp_of (f2_J0_indexOf_7cf53_36.eq_1 ..) ?_
              refine wp_ret_bd ?_
              refine wp_ret_bd ?_
              refine wp_ifp qf_168 ?_
              refine wp_of (f2_X13_setSide_26.eq_1 ..) ?_
              refine wp_gd ql_K_149 ?_
              refine wp_bd ?_
              refine wp_of (f_X13_isWrong.eq_1 ..) ?_
              refine wp_gd ql_K_149 ?_
              refine wp_zI ?_
              refine wp_ifp qf_73 ?_
              refine wp_of (f_X13_isWrong_14.eq_1 ..) ?_
              refine wp_gd qf_14 ?_
              refine wp_ret_bd ?_
              refine wp_ifp qf_15 ?_
              refine wp_gd ql_K_149 ?_
              refine wp_lt ql_R_149_2 ?_
              refine wp_gd ql_K_151 ?_
              refine wp_gd (gZi ql_Z_151 qf_97) ?_
              refine wp_lt (gRk qf_32 ql_R_151_0) ?_
              refine wp_gd ql_K_152 ?_
              refine wp_lt (Eq.trans (gI_a rfl) (Eq.trans (gI_a rfl) (Eq.trans (gI_a rfl) (Eq.trans (gI_a rfl) (Eq.trans (gI_a rfl) (Eq.trans (gI_a rfl) (Eq.trans (gI_a rfl) (Eq.trans (gI_a rfl) (Eq.trans (gI_a rfl) (Eq.trans (gI_a rfl) (Eq.trans (gI_a rfl) (Eq.trans (gI_a rfl) ql_I_152_15)))))))))))) ?_
              refine wp_lt ql_R_149_2 ?_
              refine wp_gd ql_K_151 ?_
              refine wp_gd (gZi ql_Z_151 qf_97) ?_
              refine wp_lt (gRk qf_32 ql_R_151_0) ?_
              refine wp_gd ql_K_152 ?_
              refine wp_gd qf_158 ?_
              refine wp_zI ?_
              refine wp_bd ?_
              refine wp_of (f_X13_logs.eq_1 ..) ?_
              refine wp_gd ql_K_149 ?_
              refine wp_lt (Eq.trans (gI_a rfl) (Eq.trans (gI_b rfl) (Eq.trans (gI_a rfl) (Eq.trans (gI_a rfl) (Eq.trans (gI_a rfl) (Eq.trans (gI_a rfl) (Eq.trans (gI_a rfl) (Eq.trans (gI_a rfl) (Eq.trans (gI_a rfl) (Eq.trans (gI_a rfl) (Eq.trans (gI_a rfl) (Eq.trans (gI_a rfl) (Eq.trans (gI_a rfl) ql_I_149_16))))))))))))) ?_
              refine wp_lt qf_27 ?_
              refine wp_zI ?_
              refine wp_ret_bd ?_
              refine wp_gd qf_130 ?_
              refine wp_ret_bd ?_
              refine wp_gd ql_K_149 ?_
              refine wp_bd ?_
              refine wp_of (f_X13_thrown.eq_1 ..) ?_
              refine wp_gd ql_K_149 ?_
              refine wp_lt (Eq.trans (gI_b rfl) (Eq.trans (gI_a rfl) gI_s)) ?_
              refine wp_ret_bd ?_
              refine wp_ifp qf_15 ?_
              refine wp_ifp qf_15 ?_
              refine wp_gd ql_K_173 ?_
              refine wp_gd (gZi ql_Z_173 qf_71) ?_
              refine wp_lt (gLk qf_32 gL_s) ?_
              refine wp_lt qf_131 ?_
              refine wp_lt qf_148 ?_
              refine wp_ifp qf_15 ?_
              refine wp_of (f_L_law_1910.eq_1 ..) ?_
              refine wp_of (f_L_law_3632.eq_1 ..) ?_
              refine wp_lt qf_21 ?_
              exact hrc _
            · skip
              refine wp_of (f_X10_setSide_29.eq_1 ..) ?_
              refine wp_bd ?_
              refine wp_of (f_X10_demand.eq_1 ..) ?_
              refine wp_ifp qf_15 ?_
              refine wp_rs_bd ?_
              refine wp_rs_bdc ?_
              refine wp_ifn qf_113 ?_
              refine wp_ifp qf_16 ?_
              refine wp_ret_bd ?_
              refine wp_gd qf_0 ?_
              refine wp_lt (xsk qf_1 hy1) ?_
              refine wp_gd qf_2 ?_
              refine wp_lt (xsk qf_3 hy2) ?_
              refine wp_lt hwy2 ?_
              refine wp_gd ql_K_149 ?_
              refine wp_bd ?_
              refine wp_of (f2_X13_setSide.eq_1 ..) ?_
              refine wp_bd ?_
              refine wp_of (f_X13_isDeck.eq_1 ..) ?_
              refine wp_bd ?_
              refine wp_of (f_X13_isBetween.eq_1 ..) ?_
              refine wp_ifn qf_28 ?_
              refine wp_ifn qf_43 ?_
              refine wp_of (f_X13_isBetween_15.eq_1 ..) ?_
              refine wp_gd qf_18 ?_
              refine wp_ret_bd ?_
              refine wp_gd qf_18 ?_
              refine wp_ret_bd ?_
              refine wp_ifn qf_19 ?_
              refine wp_gd (Or.inr qf_132) ?_
              refine wp_bd ?_
              refine wp_of (f2_J0_indexOf_0f7a4.eq_1 ..) ?_
              refine wp_gd (Or.inr qf_132) ?_
              refine wp_bd ?_
              refine wp_of (f2_J0_indexOf_7cf53.eq_1 ..) ?_
              refine wp_gd (Or.inr qf_132) ?_
              refine wp_bd ?_
              refine wp_of (f2_J0_isLatin1_aae02.eq_1 ..) ?_
              refine wp_ifn qf_19 ?_
              refine wp_gd (Or.inr qf_132) ?_
              refine wp_lt (ifR qf_133 rfl) ?_
              refine wp_ifp qf_15 ?_
              refine wp_of (f2_J0_isLatin1_aae02_18.eq_1 ..) ?_
              refine wp_gd qf_18 ?_
              refine wp_ret_bd ?_
              refine wp_ifn qf_19 ?_
              refine wp_gd (Or.inr qf_132) ?_
              refine wp_lt (ifR qf_133 qf_134) ?_
              refine wp_gd (Or.inr qf_132) ?_
              refine wp_bd ?_
              refine wp_of (f2_J0_length_8abf5.eq_1 ..) ?_
              refine wp_gd (Or.inr qf_132) ?_
              refine wp_lt (ifR qf_133 qf_134) ?_
              refine wp_gd (Or.inr qf_135) ?_
              refine wp_lt (zbo (zbK qf_136 qf_137) qf_121) ?_
              refine wp_gd (Or.inr qf_132) ?_
              refine wp_bd ?_
              refine wp_of (f2_J0_coder_7d493.eq_1 ..) ?_
              refine wp_ifn qf_19 ?_
              refine wp_gd (Or.inr qf_132) ?_
              refine wp_lt (ifR qf_133 rfl) ?_
              refine wp_of (f2_J0_coder_7d493_14.eq_1 ..) ?_
              refine wp_gd qf_138 ?_
              refine wp_ret_bd ?_
              refine wp_lt qf_139 ?_
              refine wp_ret_bd ?_
              refine wp_bd ?_
              refine wp_of (f2_J1_indexOf_4cfef.eq_1 ..) ?_
              refine wp_bd ?_
              refine wp_of (f_J1_canEncode_9a6ad.eq_1 ..) ?_
              refine wp_ifn (show ¬ (wy2 < (0 : Int32)) from by have e0 := qf_90; have e1 := qf_169; have e2 := qf_170; have e3 := qf_171; have e4 := qf_172; simp only [Int32.lt_iff_toInt_lt, Int32.le_iff_toInt_le, ← Int32.toInt_inj] at hwy2a hwy2b ⊢; omega) ?_
              refine wp_if (fun c6 => ?_) (fun c6 => ?_)
              · skip
                refine wp_of (f_J1_canEncode_9a6ad_15.eq_1 ..) ?_
                refine wp_of (f_J1_canEncode_9a6ad_16.eq_1 ..) ?_
                refine wp_gd qf_14 ?_
                refine wp_ret_bd ?_
                refine wp_ifp qf_15 ?_
                refine wp_ret_bd ?_
                refine wp_of (f2_J0_indexOf_7cf53_36.eq_1 ..) ?_
                refine wp_ret_bd ?_
                refine wp_ret_bd ?_
                refine wp_ifn qf_173 ?_
                refine wp_of (f2_X13_setSide_26.eq_1 ..) ?_
                refine wp_gd ql_K_149 ?_
                refine wp_bd ?_
                refine wp_of (f_X13_isWrong.eq_1 ..) ?_
                refine wp_gd ql_K_149 ?_
                refine wp_zI ?_
                refine wp_ifn qf_110 ?_
                refine wp_of (f_X13_isWrong_14.eq_1 ..) ?_
                refine wp_gd qf_18 ?_
                refine wp_ret_bd ?_
                refine wp_ifn qf_19 ?_
                refine wp_ret_bd ?_
                refine wp_gd ql_K_149 ?_
                refine wp_bd ?_
                refine wp_of (f_X13_thrown.eq_1 ..) ?_
                refine wp_gd ql_K_149 ?_
                refine wp_lt gI_s ?_
                refine wp_ret_bd ?_
                refine wp_ifp qf_111 ?_
                refine wp_ifn qf_112 ?_
                refine wp_of (f_L_law_1910.eq_1 ..) ?_
                refine wp_of (f_L_law_3632.eq_1 ..) ?_
                refine wp_lt qf_21 ?_
                exact hrc _
              · skip
                refine wp_of (f_J1_canEncode_9a6ad_16.eq_1 ..) ?_
                refine wp_gd qf_18 ?_
                refine wp_ret_bd ?_
                refine wp_ifn qf_19 ?_
                refine wp_lt qf_142 ?_
                refine wp_gd (Or.inr qf_135) ?_
                refine wp_lt (zbo (zbK qf_136 qf_137) qf_121) ?_
                refine wp_lt qf_143 ?_
                refine wp_ifp qf_144 ?_
                refine wp_bd ?_
                refine wp_of (f2_J1_indexOfChar_4cfef.eq_1 ..) ?_
                refine wp_ltr ?_
                refine wp_of (f2_J1_indexOfChar_4cfef_7.eq_2 ..) ?_
                refine wp_ifn qf_115 ?_
                refine wp_gd (Or.inr qf_135) ?_
                refine wp_gd (zbi (zbK qf_136 qf_137) qf_122) ?_
                refine wp_lt (ibk qf_32 (ibK qf_136 qf_146)) ?_
                refine wp_ifn (Ne.symm (i2b_ne hwy2a c6 qf_174 c3)) ?_
                refine wp_lt qf_153 ?_
                refine wp_of (f2_J1_indexOfChar_4cfef_7.eq_2 ..) ?_
                refine wp_ifn qf_154 ?_
                refine wp_gd (Or.inr qf_135) ?_
                refine wp_gd (zbi (zbK qf_136 qf_137) qf_125) ?_
                refine wp_lt (ibk qf_36 (ibK qf_136 qf_155)) ?_
                refine wp_ifn (Ne.symm (i2b_ne hwy2a c6 qf_175 c4)) ?_
                refine wp_lt qf_164 ?_
                refine wp_of (f2_J1_indexOfChar_4cfef_7.eq_2 ..) ?_
                refine wp_ifn qf_165 ?_
                refine wp_gd (Or.inr qf_135) ?_
                refine wp_gd (zbi (zbK qf_136 qf_137) qf_127) ?_
                refine wp_lt (ibk qf_41 (ibK qf_136 qf_166)) ?_
                refine wp_ifn (Ne.symm (i2b_ne hwy2a c6 qf_176 c5)) ?_
                refine wp_lt qf_177 ?_
                refine wp_of (f2_J1_indexOfChar_4cfef_7.eq_2 ..) ?_
                refine wp_ifp qf_178 ?_
                refine wp_ret_bd ?_
                refine wp_ret_bd ?_
                refine wp_of (f2_J0_indexOf_7cf53_36.eq_1 ..) ?_
                refine wp_ret_bd ?_
                refine wp_ret_bd ?_
                refine wp_ifn qf_173 ?_
                refine wp_of (f2_X13_setSide_26.eq_1 ..) ?_
                refine wp_gd ql_K_149 ?_
                refine wp_bd ?_
                refine wp_of (f_X13_isWrong.eq_1 ..) ?_
                refine wp_gd ql_K_149 ?_
                refine wp_zI ?_
                refine wp_ifn qf_110 ?_
                refine wp_of (f_X13_isWrong_14.eq_1 ..) ?_
                refine wp_gd qf_18 ?_
                refine wp_ret_bd ?_
                refine wp_ifn qf_19 ?_
                refine wp_ret_bd ?_
                refine wp_gd ql_K_149 ?_
                refine wp_bd ?_
                refine wp_of (f_X13_thrown.eq_1 ..) ?_
                refine wp_gd ql_K_149 ?_
                refine wp_lt gI_s ?_
                refine wp_ret_bd ?_
                refine wp_ifp qf_111 ?_
                refine wp_ifn qf_112 ?_
                refine wp_of (f_L_law_1910.eq_1 ..) ?_
                refine wp_of (f_L_law_3632.eq_1 ..) ?_
                refine wp_lt qf_21 ?_
                exact hrc _
      · skip
        refine wp_gd (gZi ql_Z_16 qf_99) ?_
        refine wp_lt (gRk qf_36 ql_R_16_1) ?_
        refine wp_of (f_X8_deckAt_23.eq_1 ..) ?_
        refine wp_ret_bd ?_
        refine wp_ifn qf_100 ?_
        refine wp_ret_bd ?_
        refine wp_if (fun c3 => ?_) (fun c3 => ?_)
        · skip
          subst c3
          refine wp_of (f_X10_setSide_24.eq_1 ..) ?_
          refine wp_of (f_X10_setSide_29.eq_1 ..) ?_
          refine wp_bd ?_
          refine wp_of (f_X10_demand.eq_1 ..) ?_
          refine wp_ifn qf_19 ?_
          refine wp_ret_bd ?_
          refine wp_gd ql_K_1 ?_
          refine wp_lt ql_R_1_2 ?_
          refine wp_gd ql_K_106 ?_
          refine wp_bd ?_
          refine wp_of (f_X6_note.eq_1 ..) ?_
          refine wp_gd ql_K_106 ?_
          refine wp_bd ?_
          refine wp_of (f_X6_open.eq_1 ..) ?_
          refine wp_gd ql_K_106 ?_
          refine wp_lt ql_I_106_2 ?_
          refine wp_lt qf_25 ?_
          refine wp_zI ?_
          refine wp_lt (Eq.trans (gI_b rfl) ql_I_106_2) ?_
          refine wp_ifn qf_26 ?_
          refine wp_lt (Eq.trans (gI_b rfl) ql_I_106_2) ?_
          refine wp_lt qf_27 ?_
          refine wp_zI ?_
          refine wp_of (f_X6_open_31.eq_1 ..) ?_
          refine wp_gd ql_K_106 ?_
          refine wp_bd ?_
          refine wp_of (f_X6_put.eq_1 ..) ?_
          refine wp_gd ql_K_106 ?_
          refine wp_lt (Eq.trans (gI_b rfl) gI_s) ?_
          refine wp_ifn qf_28 ?_
          refine wp_lt (Eq.trans (gI_b rfl) gI_s) ?_
          refine wp_lt ql_R_106_0 ?_
          refine wp_gd ql_K_107 ?_
          refine wp_lt (gZo ql_Z_107 qf_29) ?_
          refine wp_ifn qf_30 ?_
          refine wp_lt ql_R_106_0 ?_
          refine wp_lt (Eq.trans (gI_b rfl) gI_s) ?_
          refine wp_gd ql_K_107 ?_
          refine wp_gd (gZi ql_Z_107 qf_31) ?_
          refine wp_zIk qf_32 ?_
          refine wp_lt (Eq.trans (gI_a rfl) (Eq.trans (gI_b rfl) gI_s)) ?_
          refine wp_lt qf_27 ?_
          refine wp_zI ?_
          refine wp_of (f_X6_put_39.eq_1 ..) ?_
          refine wp_ret_bd ?_
          refine wp_ret_bd ?_
          refine wp_gd ql_K_106 ?_
          refine wp_bd ?_
          refine wp_of (f_X6_put.eq_1 ..) ?_
          refine wp_gd ql_K_106 ?_
          refine wp_lt gI_s ?_
          refine wp_ifn qf_33 ?_
          refine wp_lt gI_s ?_
          refine wp_lt ql_R_106_0 ?_
          refine wp_gd ql_K_107 ?_
          refine wp_lt (gZo ql_Z_107 qf_29) ?_
          refine wp_ifn qf_34 ?_
          refine wp_lt ql_R_106_0 ?_
          refine wp_lt gI_s ?_
          refine wp_gd ql_K_107 ?_
          refine wp_gd (gZi ql_Z_107 qf_35) ?_
          refine wp_zIk qf_36 ?_
          refine wp_lt (Eq.trans (gI_a rfl) gI_s) ?_
          refine wp_lt qf_37 ?_
          refine wp_zI ?_
          refine wp_of (f_X6_put_39.eq_1 ..) ?_
          refine wp_ret_bd ?_
          refine wp_gd ql_K_106 ?_
          refine wp_bd ?_
          refine wp_of (f_X6_put.eq_1 ..) ?_
          refine wp_gd ql_K_106 ?_
          refine wp_lt gI_s ?_
          refine wp_ifn qf_38 ?_
          refine wp_lt gI_s ?_
          refine wp_lt ql_R_106_0 ?_
          refine wp_gd ql_K_107 ?_
          refine wp_lt (gZo ql_Z_107 qf_29) ?_
          refine wp_ifn qf_39 ?_
          refine wp_lt ql_R_106_0 ?_
          refine wp_lt gI_s ?_
          refine wp_gd ql_K_107 ?_
          refine wp_gd (gZi ql_Z_107 qf_40) ?_
          refine wp_zIk qf_41 ?_
          refine wp_lt (Eq.trans (gI_a rfl) gI_s) ?_
          refine wp_lt qf_42 ?_
          refine wp_zI ?_
          refine wp_of (f_X6_put_39.eq_1 ..) ?_
          refine wp_ret_bd ?_
          refine wp_gd ql_K_106 ?_
          refine wp_bd ?_
          refine wp_of (f_X6_put.eq_1 ..) ?_
          refine wp_gd ql_K_106 ?_
          refine wp_lt gI_s ?_
          refine wp_ifn qf_43 ?_
          refine wp_lt gI_s ?_
          refine wp_lt ql_R_106_0 ?_
          refine wp_gd ql_K_107 ?_
          refine wp_lt (gZo ql_Z_107 qf_29) ?_
          refine wp_ifn qf_44 ?_
          refine wp_lt ql_R_106_0 ?_
          refine wp_lt gI_s ?_
          refine wp_gd ql_K_107 ?_
          refine wp_gd (gZi ql_Z_107 qf_45) ?_
          refine wp_zIk qf_46 ?_
          refine wp_lt (Eq.trans (gI_a rfl) gI_s) ?_
          refine wp_lt qf_47 ?_
          refine wp_zI ?_
          refine wp_of (f_X6_put_39.eq_1 ..) ?_
          refine wp_ret_bd ?_
          refine wp_ret_bd ?_
          refine wp_gd ql_K_25 ?_
          refine wp_lt ql_R_25_0 ?_
          refine wp_gd ql_K_26 ?_
          refine wp_bd ?_
          refine wp_of (f_X0_changeSide.eq_1 ..) ?_
          refine wp_gd ql_K_26 ?_
          refine wp_lt (Eq.trans (gI_a rfl) (Eq.trans (gI_a rfl) (Eq.trans (gI_a rfl) (Eq.trans (gI_a rfl) (Eq.trans (gI_a rfl) (Eq.trans (gI_a rfl) (Eq.trans (gI_a rfl) (Eq.trans (gI_a rfl) (Eq.trans (gI_a rfl) (Eq.trans (gI_a rfl) ql_I_26_4)))))))))) ?_
          refine wp_gd qf_129 ?_
          refine wp_zI ?_
          refine wp_gd qf_130 ?_
          refine wp_ret_bd ?_
          refine wp_gd qf_130 ?_
          refine wp_ret_bdc ?_
          refine wp_lt qf_131 ?_
          refine wp_gd ql_K_173 ?_
          refine wp_gd (gZi ql_Z_173 qf_71) ?_
          refine wp_zLk qf_32 ?_
          refine wp_ret_bd ?_
          refine wp_gd qf_0 ?_
          refine wp_lt (xsk qf_1 hy1) ?_
          refine wp_gd qf_2 ?_
          refine wp_lt (xsk qf_3 hy2) ?_
          refine wp_lt hwy2 ?_
          refine wp_gd ql_K_149 ?_
          refine wp_bd ?_
          refine wp_of (f2_X13_setSide.eq_1 ..) ?_
          refine wp_bd ?_
          refine wp_of (f_X13_isDeck.eq_1 ..) ?_
          refine wp_bd ?_
          refine wp_of (f_X13_isBetween.eq_1 ..) ?_
          refine wp_ifn qf_33 ?_
          refine wp_ifn qf_101 ?_
          refine wp_of (f_X13_isBetween_15.eq_1 ..) ?_
          refine wp_gd qf_18 ?_
          refine wp_ret_bd ?_
          refine wp_gd qf_18 ?_
          refine wp_ret_bd ?_
          refine wp_ifn qf_19 ?_
          refine wp_gd (Or.inr qf_132) ?_
          refine wp_bd ?_
          refine wp_of (f2_J0_indexOf_0f7a4.eq_1 ..) ?_
          refine wp_gd (Or.inr qf_132) ?_
          refine wp_bd ?_
          refine wp_of (f2_J0_indexOf_7cf53.eq_1 ..) ?_
          refine wp_gd (Or.inr qf_132) ?_
          refine wp_bd ?_
          refine wp_of (f2_J0_isLatin1_aae02.eq_1 ..) ?_
          refine wp_ifn qf_19 ?_
          refine wp_gd (Or.inr qf_132) ?_
          refine wp_lt (ifR qf_133 rfl) ?_
          refine wp_ifp qf_15 ?_
          refine wp_of (f2_J0_isLatin1_aae02_18.eq_1 ..) ?_
          refine wp_gd qf_18 ?_
          refine wp_ret_bd ?_
          refine wp_ifn qf_19 ?_
          refine wp_gd (Or.inr qf_132) ?_
          refine wp_lt (ifR qf_133 qf_134) ?_
          refine wp_gd (Or.inr qf_132) ?_
          refine wp_bd ?_
          refine wp_of (f2_J0_length_8abf5.eq_1 ..) ?_
          refine wp_gd (Or.inr qf_132) ?_
          refine wp_lt (ifR qf_133 qf_134) ?_
          refine wp_gd (Or.inr qf_135) ?_
          refine wp_lt (zbo (zbK qf_136 qf_137) qf_121) ?_
          refine wp_gd (Or.inr qf_132) ?_
          refine wp_bd ?_
          refine wp_of (f2_J0_coder_7d493.eq_1 ..) ?_
          refine wp_ifn qf_19 ?_
          refine wp_gd (Or.inr qf_132) ?_
          refine wp_lt (ifR qf_133 rfl) ?_
          refine wp_of (f2_J0_coder_7d493_14.eq_1 ..) ?_
          refine wp_gd qf_138 ?_
          refine wp_ret_bd ?_
          refine wp_lt qf_139 ?_
          refine wp_ret_bd ?_
          refine wp_bd ?_
          refine wp_of (f2_J1_indexOf_4cfef.eq_1 ..) ?_
          refine wp_bd ?_
          refine wp_of (f_J1_canEncode_9a6ad.eq_1 ..) ?_
          refine wp_ifn qf_140 ?_
          refine wp_ifn qf_141 ?_
          refine wp_of (f_J1_canEncode_9a6ad_16.eq_1 ..) ?_
          refine wp_gd qf_18 ?_
          refine wp_ret_bd ?_
          refine wp_ifn qf_19 ?_
          refine wp_lt qf_142 ?_
          refine wp_gd (Or.inr qf_135) ?_
          refine wp_lt (zbo (zbK qf_136 qf_137) qf_121) ?_
          refine wp_lt qf_143 ?_
          refine wp_ifp qf_144 ?_
          refine wp_bd ?_
          refine wp_of (f2_J1_indexOfChar_4cfef.eq_1 ..) ?_
          refine wp_lt qf_145 ?_
          refine wp_of (f2_J1_indexOfChar_4cfef_7.eq_2 ..) ?_
          refine wp_ifn qf_115 ?_
          refine wp_gd (Or.inr qf_135) ?_
          refine wp_gd (zbi (zbK qf_136 qf_137) qf_122) ?_
          refine wp_lt (ibk qf_32 (ibK qf_136 qf_146)) ?_
          refine wp_ifp qf_147 ?_
          refine wp_ret_bd ?_
          refine wp_ret_bd ?_
          refine wp_of (f2_J0_indexOf_7cf53_36.eq_1 ..) ?_
          refine wp_ret_bd ?_
          refine wp_ret_bd ?_
          refine wp_ifp qf_73 ?_
          refine wp_of (f2_X13_setSide_26.eq_1 ..) ?_
          refine wp_gd ql_K_149 ?_
          refine wp_bd ?_
          refine wp_of (f_X13_isWrong.eq_1 ..) ?_
          refine wp_gd ql_K_149 ?_
          refine wp_zI ?_
          refine wp_ifp qf_73 ?_
          refine wp_of (f_X13_isWrong_14.eq_1 ..) ?_
          refine wp_gd qf_14 ?_
          refine wp_ret_bd ?_
          refine wp_ifp qf_15 ?_
          refine wp_gd ql_K_149 ?_
          refine wp_lt ql_R_149_2 ?_
          refine wp_gd ql_K_151 ?_
          refine wp_gd (gZi ql_Z_151 qf_99) ?_
          refine wp_lt (gRk qf_36 ql_R_151_1) ?_
          refine wp_gd ql_K_156 ?_
          refine wp_lt (Eq.trans (gI_a rfl) (Eq.trans (gI_a rfl) (Eq.trans (gI_a rfl) (Eq.trans (gI_a rfl) (Eq.trans (gI_a rfl) (Eq.trans (gI_a rfl) (Eq.trans (gI_a rfl) (Eq.trans (gI_a rfl) (Eq.trans (gI_a rfl) (Eq.trans (gI_a rfl) (Eq.trans (gI_a rfl) (Eq.trans (gI_a rfl) ql_I_156_15)))))))))))) ?_
          refine wp_lt ql_R_149_2 ?_
          refine wp_gd ql_K_151 ?_
          refine wp_gd (gZi ql_Z_151 qf_99) ?_
          refine wp_lt (gRk qf_36 ql_R_151_1) ?_
          refine wp_gd ql_K_156 ?_
          refine wp_gd qf_129 ?_
          refine wp_zI ?_
          refine wp_bd ?_
          refine wp_of (f_X13_logs.eq_1 ..) ?_
          refine wp_gd ql_K_149 ?_
          refine wp_lt (Eq.trans (gI_a rfl) (Eq.trans (gI_b rfl) (Eq.trans (gI_a rfl) (Eq.trans (gI_a rfl) (Eq.trans (gI_a rfl) (Eq.trans (gI_a rfl) (Eq.trans (gI_a rfl) (Eq.trans (gI_a rfl) (Eq.trans (gI_a rfl) (Eq.trans (gI_a rfl) (Eq.trans (gI_a rfl) (Eq.trans (gI_a rfl) (Eq.trans (gI_a rfl) ql_I_149_16))))))))))))) ?_
          refine wp_lt qf_27 ?_
          refine wp_zI ?_
          refine wp_ret_bd ?_
          refine wp_gd qf_130 ?_
          refine wp_ret_bd ?_
          refine wp_gd ql_K_149 ?_
          refine wp_bd ?_
          refine wp_of (f_X13_thrown.eq_1 ..) ?_
          refine wp_gd ql_K_149 ?_
          refine wp_lt (Eq.trans (gI_b rfl) (Eq.trans (gI_a rfl) gI_s)) ?_
          refine wp_ret_bd ?_
          refine wp_ifp qf_15 ?_
          refine wp_ifp qf_15 ?_
          refine wp_gd ql_K_173 ?_
          refine wp_gd (gZi ql_Z_173 qf_71) ?_
          refine wp_lt (gLk qf_32 gL_s) ?_
          refine wp_lt qf_131 ?_
          refine wp_lt qf_148 ?_
          refine wp_ifp qf_15 ?_
          refine wp_of (f_L_law_1910.eq_1 ..) ?_
          refine wp_of (f_L_law_3632.eq_1 ..) ?_
          refine wp_lt qf_21 ?_
          exact hrc _
        · skip
          refine wp_if (fun c4 => ?_) (fun c4 => ?_)
          · skip
            subst c4
            refine wp_of (f_X10_setSide_24.eq_1 ..) ?_
            refine wp_of (f_X10_setSide_29.eq_1 ..) ?_
            refine wp_bd ?_
            refine wp_of (f_X10_demand.eq_1 ..) ?_
            refine wp_ifn qf_19 ?_
            refine wp_ret_bd ?_
            refine wp_gd ql_K_1 ?_
            refine wp_lt ql_R_1_2 ?_
            refine wp_gd ql_K_106 ?_
            refine wp_bd ?_
            refine wp_of (f_X6_note.eq_1 ..) ?_
            refine wp_gd ql_K_106 ?_
            refine wp_bd ?_
            refine wp_of (f_X6_open.eq_1 ..) ?_
            refine wp_gd ql_K_106 ?_
            refine wp_lt ql_I_106_2 ?_
            refine wp_lt qf_25 ?_
            refine wp_zI ?_
            refine wp_lt (Eq.trans (gI_b rfl) ql_I_106_2) ?_
            refine wp_ifn qf_26 ?_
            refine wp_lt (Eq.trans (gI_b rfl) ql_I_106_2) ?_
            refine wp_lt qf_27 ?_
            refine wp_zI ?_
            refine wp_of (f_X6_open_31.eq_1 ..) ?_
            refine wp_gd ql_K_106 ?_
            refine wp_bd ?_
            refine wp_of (f_X6_put.eq_1 ..) ?_
            refine wp_gd ql_K_106 ?_
            refine wp_lt (Eq.trans (gI_b rfl) gI_s) ?_
            refine wp_ifn qf_28 ?_
            refine wp_lt (Eq.trans (gI_b rfl) gI_s) ?_
            refine wp_lt ql_R_106_0 ?_
            refine wp_gd ql_K_107 ?_
            refine wp_lt (gZo ql_Z_107 qf_29) ?_
            refine wp_ifn qf_30 ?_
            refine wp_lt ql_R_106_0 ?_
            refine wp_lt (Eq.trans (gI_b rfl) gI_s) ?_
            refine wp_gd ql_K_107 ?_
            refine wp_gd (gZi ql_Z_107 qf_31) ?_
            refine wp_zIk qf_32 ?_
            refine wp_lt (Eq.trans (gI_a rfl) (Eq.trans (gI_b rfl) gI_s)) ?_
            refine wp_lt qf_27 ?_
            refine wp_zI ?_
            refine wp_of (f_X6_put_39.eq_1 ..) ?_
            refine wp_ret_bd ?_
            refine wp_ret_bd ?_
            refine wp_gd ql_K_106 ?_
            refine wp_bd ?_
            refine wp_of (f_X6_put.eq_1 ..) ?_
            refine wp_gd ql_K_106 ?_
            refine wp_lt gI_s ?_
            refine wp_ifn qf_33 ?_
            refine wp_lt gI_s ?_
            refine wp_lt ql_R_106_0 ?_
            refine wp_gd ql_K_107 ?_
            refine wp_lt (gZo ql_Z_107 qf_29) ?_
            refine wp_ifn qf_34 ?_
            refine wp_lt ql_R_106_0 ?_
            refine wp_lt gI_s ?_
            refine wp_gd ql_K_107 ?_
            refine wp_gd (gZi ql_Z_107 qf_35) ?_
            refine wp_zIk qf_36 ?_
            refine wp_lt (Eq.trans (gI_a rfl) gI_s) ?_
            refine wp_lt qf_37 ?_
            refine wp_zI ?_
            refine wp_of (f_X6_put_39.eq_1 ..) ?_
            refine wp_ret_bd ?_
            refine wp_gd ql_K_106 ?_
            refine wp_bd ?_
            refine wp_of (f_X6_put.eq_1 ..) ?_
            refine wp_gd ql_K_106 ?_
            refine wp_lt gI_s ?_
            refine wp_ifn qf_38 ?_
            refine wp_lt gI_s ?_
            refine wp_lt ql_R_106_0 ?_
            refine wp_gd ql_K_107 ?_
            refine wp_lt (gZo ql_Z_107 qf_29) ?_
            refine wp_ifn qf_39 ?_
            refine wp_lt ql_R_106_0 ?_
            refine wp_lt gI_s ?_
            refine wp_gd ql_K_107 ?_
            refine wp_gd (gZi ql_Z_107 qf_40) ?_
            refine wp_zIk qf_41 ?_
            refine wp_lt (Eq.trans (gI_a rfl) gI_s) ?_
            refine wp_lt qf_42 ?_
            refine wp_zI ?_
            refine wp_of (f_X6_put_39.eq_1 ..) ?_
            refine wp_ret_bd ?_
            refine wp_gd ql_K_106 ?_
            refine wp_bd ?_
            refine wp_of (f_X6_put.eq_1 ..) ?_
            refine wp_gd ql_K_106 ?_
            refine wp_lt gI_s ?_
            refine wp_ifn qf_43 ?_
            refine wp_lt gI_s ?_
            refine wp_lt ql_R_106_0 ?_
            refine wp_gd ql_K_107 ?_
            refine wp_lt (gZo ql_Z_107 qf_29) ?_
            refine wp_ifn qf_44 ?_
            refine wp_lt ql_R_106_0 ?_
            refine wp_lt gI_s ?_
            refine wp_gd ql_K_107 ?_
            refine wp_gd (gZi ql_Z_107 qf_45) ?_
            refine wp_zIk qf_46 ?_
            refine wp_lt (Eq.trans (gI_a rfl) gI_s) ?_
            refine wp_lt qf_47 ?_
            refine wp_zI ?_
            refine wp_of (f_X6_put_39.eq_1 ..) ?_
            refine wp_ret_bd ?_
            refine wp_ret_bd ?_
            refine wp_gd ql_K_25 ?_
            refine wp_lt ql_R_25_0 ?_
            refine wp_gd ql_K_26 ?_
            refine wp_bd ?_
            refine wp_of (f_X0_changeSide.eq_1 ..) ?_
            refine wp_gd ql_K_26 ?_
            refine wp_lt (Eq.trans (gI_a rfl) (Eq.trans (gI_a rfl) (Eq.trans (gI_a rfl) (Eq.trans (gI_a rfl) (Eq.trans (gI_a rfl) (Eq.trans (gI_a rfl) (Eq.trans (gI_a rfl) (Eq.trans (gI_a rfl) (Eq.trans (gI_a rfl) (Eq.trans (gI_a rfl) ql_I_26_4)))))))))) ?_
            refine wp_gd qf_130 ?_
            refine wp_zI ?_
            refine wp_gd qf_130 ?_
            refine wp_ret_bd ?_
            refine wp_gd qf_130 ?_
            refine wp_ret_bdc ?_
            refine wp_lt qf_131 ?_
            refine wp_gd ql_K_173 ?_
            refine wp_gd (gZi ql_Z_173 qf_71) ?_
            refine wp_zLk qf_32 ?_
            refine wp_ret_bd ?_
            refine wp_gd qf_0 ?_
            refine wp_lt (xsk qf_1 hy1) ?_
            refine wp_gd qf_2 ?_
            refine wp_lt (xsk qf_3 hy2) ?_
            refine wp_lt hwy2 ?_
            refine wp_gd ql_K_149 ?_
            refine wp_bd ?_
            refine wp_of (f2_X13_setSide.eq_1 ..) ?_
            refine wp_bd ?_
            refine wp_of (f_X13_isDeck.eq_1 ..) ?_
            refine wp_bd ?_
            refine wp_of (f_X13_isBetween.eq_1 ..) ?_
            refine wp_ifn qf_33 ?_
            refine wp_ifn qf_101 ?_
            refine wp_of (f_X13_isBetween_15.eq_1 ..) ?_
            refine wp_gd qf_18 ?_
            refine wp_ret_bd ?_
            refine wp_gd qf_18 ?_
            refine wp_ret_bd ?_
            refine wp_ifn qf_19 ?_
            refine wp_gd (Or.inr qf_132) ?_
            refine wp_bd ?_
            refine wp_of (f2_J0_indexOf_0f7a4.eq_1 ..) ?_
            refine wp_gd (Or.inr qf_132) ?_
            refine wp_bd ?_
            refine wp_of (f2_J0_indexOf_7cf53.eq_1 ..) ?_
            refine wp_gd (Or.inr qf_132) ?_
            refine wp_bd ?_
            refine wp_of (f2_J0_isLatin1_aae02.eq_1 ..) ?_
            refine wp_ifn qf_19 ?_
            refine wp_gd (Or.inr qf_132) ?_
            refine wp_lt (ifR qf_133 rfl) ?_
            refine wp_ifp qf_15 ?_
            refine wp_of (f2_J0_isLatin1_aae02_18.eq_1 ..) ?_
            refine wp_gd qf_18 ?_
            refine wp_ret_bd ?_
            refine wp_ifn qf_19 ?_
            refine wp_gd (Or.inr qf_132) ?_
            refine wp_lt (ifR qf_133 qf_134) ?_
            refine wp_gd (Or.inr qf_132) ?_
            refine wp_bd ?_
            refine wp_of (f2_J0_length_8abf5.eq_1 ..) ?_
            refine wp_gd (Or.inr qf_132) ?_
            refine wp_lt (ifR qf_133 qf_134) ?_
            refine wp_gd (Or.inr qf_135) ?_
            refine wp_lt (zbo (zbK qf_136 qf_137) qf_121) ?_
            refine wp_gd (Or.inr qf_132) ?_
            refine wp_bd ?_
            refine wp_of (f2_J0_coder_7d493.eq_1 ..) ?_
            refine wp_ifn qf_19 ?_
            refine wp_gd (Or.inr qf_132) ?_
            refine wp_lt (ifR qf_133 rfl) ?_
            refine wp_of (f2_J0_coder_7d493_14.eq_1 ..) ?_
            refine wp_gd qf_138 ?_
            refine wp_ret_bd ?_
            refine wp_lt qf_139 ?_
            refine wp_ret_bd ?_
            refine wp_bd ?_
            refine wp_of (f2_J1_indexOf_4cfef.eq_1 ..) ?_
            refine wp_bd ?_
            refine wp_of (f_J1_canEncode_9a6ad.eq_1 ..) ?_
            refine wp_ifn qf_149 ?_
            refine wp_ifn qf_150 ?_
            refine wp_of (f_J1_canEncode_9a6ad_16.eq_1 ..) ?_
            refine wp_gd qf_18 ?_
            refine wp_ret_bd ?_
            refine wp_ifn qf_19 ?_
            refine wp_lt qf_142 ?_
            refine wp_gd (Or.inr qf_135) ?_
            refine wp_lt (zbo (zbK qf_136 qf_137) qf_121) ?_
            refine wp_lt qf_143 ?_
            refine wp_ifp qf_144 ?_
            refine wp_bd ?_
            refine wp_of (f2_J1_indexOfChar_4cfef.eq_1 ..) ?_
            refine wp_lt qf_151 ?_
            refine wp_of (f2_J1_indexOfChar_4cfef_7.eq_2 ..) ?_
            refine wp_ifn qf_115 ?_
            refine wp_gd (Or.inr qf_135) ?_
            refine wp_gd (zbi (zbK qf_136 qf_137) qf_122) ?_
            refine wp_lt (ibk qf_32 (ibK qf_136 qf_146)) ?_
            refine wp_ifn qf_152 ?_
            refine wp_lt qf_153 ?_
            refine wp_of (f2_J1_indexOfChar_4cfef_7.eq_2 ..) ?_
            refine wp_ifn qf_154 ?_
            refine wp_gd (Or.inr qf_135) ?_
            refine wp_gd (zbi (zbK qf_136 qf_137) qf_125) ?_
            refine wp_lt (ibk qf_36 (ibK qf_136 qf_155)) ?_
            refine wp_ifp qf_156 ?_
            refine wp_ret_bd ?_
            refine wp_ret_bd ?_
            refine wp_of (f2_J0_indexOf_7cf53_36.eq_1 ..) ?_
            refine wp_ret_bd ?_
            refine wp_ret_bd ?_
            refine wp_ifp qf_157 ?_
            refine wp_of (f2_X13_setSide_26.eq_1 ..) ?_
            refine wp_gd ql_K_149 ?_
            refine wp_bd ?_
            refine wp_of (f_X13_isWrong.eq_1 ..) ?_
            refine wp_gd ql_K_149 ?_
            refine wp_zI ?_
            refine wp_ifp qf_73 ?_
            refine wp_of (f_X13_isWrong_14.eq_1 ..) ?_
            refine wp_gd qf_14 ?_
            refine wp_ret_bd ?_
            refine wp_ifp qf_15 ?_
            refine wp_gd ql_K_149 ?_
            refine wp_lt ql_R_149_2 ?_
            refine wp_gd ql_K_151 ?_
            refine wp_gd (gZi ql_Z_151 qf_99) ?_
            refine wp_lt (gRk qf_36 ql_R_151_1) ?_
            refine wp_gd ql_K_156 ?_
            refine wp_lt (Eq.trans (gI_a rfl) (Eq.trans (gI_a rfl) (Eq.trans (gI_a rfl) (Eq.trans (gI_a rfl) (Eq.trans (gI_a rfl) (Eq.trans (gI_a rfl) (Eq.trans (gI_a rfl) (Eq.trans (gI_a rfl) (Eq.trans (gI_a rfl) (Eq.trans (gI_a rfl) (Eq.trans (gI_a rfl) (Eq.trans (gI_a rfl) ql_I_156_15)))))))))))) ?_
            refine wp_lt ql_R_149_2 ?_
            refine wp_gd ql_K_151 ?_
            refine wp_gd (gZi ql_Z_151 qf_99) ?_
            refine wp_lt (gRk qf_36 ql_R_151_1) ?_
            refine wp_gd ql_K_156 ?_
            refine wp_gd qf_130 ?_
            refine wp_zI ?_
            refine wp_bd ?_
            refine wp_of (f_X13_logs.eq_1 ..) ?_
            refine wp_gd ql_K_149 ?_
            refine wp_lt (Eq.trans (gI_a rfl) (Eq.trans (gI_b rfl) (Eq.trans (gI_a rfl) (Eq.trans (gI_a rfl) (Eq.trans (gI_a rfl) (Eq.trans (gI_a rfl) (Eq.trans (gI_a rfl) (Eq.trans (gI_a rfl) (Eq.trans (gI_a rfl) (Eq.trans (gI_a rfl) (Eq.trans (gI_a rfl) (Eq.trans (gI_a rfl) (Eq.trans (gI_a rfl) ql_I_149_16))))))))))))) ?_
            refine wp_lt qf_27 ?_
            refine wp_zI ?_
            refine wp_ret_bd ?_
            refine wp_gd qf_130 ?_
            refine wp_ret_bd ?_
            refine wp_gd ql_K_149 ?_
            refine wp_bd ?_
            refine wp_of (f_X13_thrown.eq_1 ..) ?_
            refine wp_gd ql_K_149 ?_
            refine wp_lt (Eq.trans (gI_b rfl) (Eq.trans (gI_a rfl) gI_s)) ?_
            refine wp_ret_bd ?_
            refine wp_ifp qf_15 ?_
            refine wp_ifp qf_15 ?_
            refine wp_gd ql_K_173 ?_
            refine wp_gd (gZi ql_Z_173 qf_71) ?_
            refine wp_lt (gLk qf_32 gL_s) ?_
            refine wp_lt qf_131 ?_
            refine wp_lt qf_148 ?_
            refine wp_ifp qf_15 ?_
            refine wp_of (f_L_law_1910.eq_1 ..) ?_
            refine wp_of (f_L_law_3632.eq_1 ..) ?_
            refine wp_lt qf_21 ?_
            exact hrc _
          · skip
            refine wp_if (fun c5 => ?_) (fun c5 => ?_)
            · skip
              subst c5
              refine wp_of (f_X10_setSide_24.eq_1 ..) ?_
              refine wp_of (f_X10_setSide_29.eq_1 ..) ?_
              refine wp_bd ?_
              refine wp_of (f_X10_demand.eq_1 ..) ?_
              refine wp_ifn qf_19 ?_
              refine wp_ret_bd ?_
              refine wp_gd ql_K_1 ?_
              refine wp_lt ql_R_1_2 ?_
              refine wp_gd ql_K_106 ?_
              refine wp_bd ?_
              refine wp_of (f_X6_note.eq_1 ..) ?_
              refine wp_gd ql_K_106 ?_
              refine wp_bd ?_
              refine wp_of (f_X6_open.eq_1 ..) ?_
              refine wp_gd ql_K_106 ?_
              refine wp_lt ql_I_106_2 ?_
              refine wp_lt qf_25 ?_
              refine wp_zI ?_
              refine wp_lt (Eq.trans (gI_b rfl) ql_I_106_2) ?_
              refine wp_ifn qf_26 ?_
              refine wp_lt (Eq.trans (gI_b rfl) ql_I_106_2) ?_
              refine wp_lt qf_27 ?_
              refine wp_zI ?_
              refine wp_of (f_X6_open_31.eq_1 ..) ?_
              refine wp_gd ql_K_106 ?_
              refine wp_bd ?_
              refine wp_of (f_X6_put.eq_1 ..) ?_
              refine wp_gd ql_K_106 ?_
              refine wp_lt (Eq.trans (gI_b rfl) gI_s) ?_
              refine wp_ifn qf_28 ?_
              refine wp_lt (Eq.trans (gI_b rfl) gI_s) ?_
              refine wp_lt ql_R_106_0 ?_
              refine wp_gd ql_K_107 ?_
              refine wp_lt (gZo ql_Z_107 qf_29) ?_
              refine wp_ifn qf_30 ?_
              refine wp_lt ql_R_106_0 ?_
              refine wp_lt (Eq.trans (gI_b rfl) gI_s) ?_
              refine wp_gd ql_K_107 ?_
              refine wp_gd (gZi ql_Z_107 qf_31) ?_
              refine wp_zIk qf_32 ?_
              refine wp_lt (Eq.trans (gI_a rfl) (Eq.trans (gI_b rfl) gI_s)) ?_
              refine wp_lt qf_27 ?_
              refine wp_zI ?_
              refine wp_of (f_X6_put_39.eq_1 ..) ?_
              refine wp_ret_bd ?_
              refine wp_ret_bd ?_
              refine wp_gd ql_K_106 ?_
              refine wp_bd ?_
              refine wp_of (f_X6_put.eq_1 ..) ?_
              refine wp_gd ql_K_106 ?_
              refine wp_lt gI_s ?_
              refine wp_ifn qf_33 ?_
              refine wp_lt gI_s ?_
              refine wp_lt ql_R_106_0 ?_
              refine wp_gd ql_K_107 ?_
              refine wp_lt (gZo ql_Z_107 qf_29) ?_
              refine wp_ifn qf_34 ?_
              refine wp_lt ql_R_106_0 ?_
              refine wp_lt gI_s ?_
              refine wp_gd ql_K_107 ?_
              refine wp_gd (gZi ql_Z_107 qf_35) ?_
              refine wp_zIk qf_36 ?_
              refine wp_lt (Eq.trans (gI_a rfl) gI_s) ?_
              refine wp_lt qf_37 ?_
              refine wp_zI ?_
              refine wp_of (f_X6_put_39.eq_1 ..) ?_
              refine wp_ret_bd ?_
              refine wp_gd ql_K_106 ?_
              refine wp_bd ?_
              refine wp_of (f_X6_put.eq_1 ..) ?_
              refine wp_gd ql_K_106 ?_
              refine wp_lt gI_s ?_
              refine wp_ifn qf_38 ?_
              refine wp_lt gI_s ?_
              refine wp_lt ql_R_106_0 ?_
              refine wp_gd ql_K_107 ?_
              refine wp_lt (gZo ql_Z_107 qf_29) ?_
              refine wp_ifn qf_39 ?_
              refine wp_lt ql_R_106_0 ?_
              refine wp_lt gI_s ?_
              refine wp_gd ql_K_107 ?_
              refine wp_gd (gZi ql_Z_107 qf_40) ?_
              refine wp_zIk qf_41 ?_
              refine wp_lt (Eq.trans (gI_a rfl) gI_s) ?_
              refine wp_lt qf_42 ?_
              refine wp_zI ?_
              refine wp_of (f_X6_put_39.eq_1 ..) ?_
              refine wp_ret_bd ?_
              refine wp_gd ql_K_106 ?_
              refine wp_bd ?_
              refine wp_of (f_X6_put.eq_1 ..) ?_
              refine wp_gd ql_K_106 ?_
              refine wp_lt gI_s ?_
              refine wp_ifn qf_43 ?_
              refine wp_lt gI_s ?_
              refine wp_lt ql_R_106_0 ?_
              refine wp_gd ql_K_107 ?_
              refine wp_lt (gZo ql_Z_107 qf_29) ?_
              refine wp_ifn qf_44 ?_
              refine wp_lt ql_R_106_0 ?_
              refine wp_lt gI_s ?_
              refine wp_gd ql_K_107 ?_
              refine wp_gd (gZi ql_Z_107 qf_45) ?_
              refine wp_zIk qf_46 ?_
              refine wp_lt (Eq.trans (gI_a rfl) gI_s) ?_
              refine wp_lt qf_47 ?_
              refine wp_zI ?_
              refine wp_of (f_X6_put_39.eq_1 ..) ?_
              refine wp_ret_bd ?_
              refine wp_ret_bd ?_
              refine wp_gd ql_K_25 ?_
              refine wp_lt ql_R_25_0 ?_
              refine wp_gd ql_K_26 ?_
              refine wp_bd ?_
              refine wp_of (f_X0_changeSide.eq_1 ..) ?_
              refine wp_gd ql_K_26 ?_
              refine wp_lt (Eq.trans (gI_a rfl) (Eq.trans (gI_a rfl) (Eq.trans (gI_a rfl) (Eq.trans (gI_a rfl) (Eq.trans (gI_a rfl) (Eq.trans (gI_a rfl) (Eq.trans (gI_a rfl) (Eq.trans (gI_a rfl) (Eq.trans (gI_a rfl) (Eq.trans (gI_a rfl) ql_I_26_4)))))))))) ?_
              refine wp_gd qf_158 ?_
              refine wp_zI ?_
              refine wp_gd qf_130 ?_
              refine wp_ret_bd ?_
              refine wp_gd qf_130 ?_
              refine wp_ret_bdc ?_
              refine wp_lt qf_131 ?_
              refine wp_gd ql_K_173 ?_
              refine wp_gd (gZi ql_Z_173 qf_71) ?_
              refine wp_zLk qf_32 ?_
              refine wp_ret_bd ?_
              refine wp_gd qf_0 ?_
              refine wp_lt (xsk qf_1 hy1) ?_
              refine wp_gd qf_2 ?_
              refine wp_lt (xsk qf_3 hy2) ?_
              refine wp_lt hwy2 ?_
              refine wp_gd ql_K_149 ?_
              refine wp_bd ?_
              refine wp_of (f2_X13_setSide.eq_1 ..) ?_
              refine wp_bd ?_
              refine wp_of (f_X13_isDeck.eq_1 ..) ?_
              refine wp_bd ?_
              refine wp_of (f_X13_isBetween.eq_1 ..) ?_
              refine wp_ifn qf_33 ?_
              refine wp_ifn qf_101 ?_
              refine wp_of (f_X13_isBetween_15.eq_1 ..) ?_
              refine wp_gd qf_18 ?_
              refine wp_ret_bd ?_
              refine wp_gd qf_18 ?_
              refine wp_ret_bd ?_
              refine wp_ifn qf_19 ?_
              refine wp_gd (Or.inr qf_132) ?_
              refine wp_bd ?_
              refine wp_of (f2_J0_indexOf_0f7a4.eq_1 ..) ?_
              refine wp_gd (Or.inr qf_132) ?_
              refine wp_bd ?_
              refine wp_of (f2_J0_indexOf_7cf53.eq_1 ..) ?_
              refine wp_gd (Or.inr qf_132) ?_
              refine wp_bd ?_
              refine wp_of (f2_J0_isLatin1_aae02.eq_1 ..) ?_
              refine wp_ifn qf_19 ?_
              refine wp_gd (Or.inr qf_132) ?_
              refine wp_lt (ifR qf_133 rfl) ?_
              refine wp_ifp qf_15 ?_
              refine wp_of (f2_J0_isLatin1_aae02_18.eq_1 ..) ?_
              refine wp_gd qf_18 ?_
              refine wp_ret_bd ?_
              refine wp_ifn qf_19 ?_
              refine wp_gd (Or.inr qf_132) ?_
              refine wp_lt (ifR qf_133 qf_134) ?_
              refine wp_gd (Or.inr qf_132) ?_
              refine wp_bd ?_
              refine wp_of (f2_J0_length_8abf5.eq_1 ..) ?_
              refine wp_gd (Or.inr qf_132) ?_
              refine wp_lt (ifR qf_133 qf_134) ?_
              refine wp_gd (Or.inr qf_135) ?_
              refine wp_lt (zbo (zbK qf_136 qf_137) qf_121) ?_
              refine wp_gd (Or.inr qf_132) ?_
              refine wp_bd ?_
              refine wp_of (f2_J0_coder_7d493.eq_1 ..) ?_
              refine wp_ifn qf_19 ?_
              refine wp_gd (Or.inr qf_132) ?_
              refine wp_lt (ifR qf_133 rfl) ?_
              refine wp_of (f2_J0_coder_7d493_14.eq_1 ..) ?_
              refine wp_gd qf_138 ?_
              refine wp_ret_bd ?_
              refine wp_lt qf_139 ?_
              refine wp_ret_bd ?_
              refine wp_bd ?_
              refine wp_of (f2_J1_indexOf_4cfef.eq_1 ..) ?_
              refine wp_bd ?_
              refine wp_of (f_J1_canEncode_9a6ad.eq_1 ..) ?_
              refine wp_ifn qf_159 ?_
              refine wp_ifn qf_160 ?_
              refine wp_of (f_J1_canEncode_9a6ad_16.eq_1 ..) ?_
              refine wp_gd qf_18 ?_
              refine wp_ret_bd ?_
              refine wp_ifn qf_19 ?_
              refine wp_lt qf_142 ?_
              refine wp_gd (Or.inr qf_135) ?_
              refine wp_lt (zbo (zbK qf_136 qf_137) qf_121) ?_
              refine wp_lt qf_143 ?_
              refine wp_ifp qf_144 ?_
              refine wp_bd ?_
              refine wp_of (f2_J1_indexOfChar_4cfef.eq_1 ..) ?_
              refine wp_lt qf_161 ?_
              refine wp_of (f2_J1_indexOfChar_4cfef_7.eq_2 ..) ?_
              refine wp_ifn qf_115 ?_
              refine wp_gd (Or.inr qf_135) ?_
              refine wp_gd (zbi (zbK qf_136 qf_137) qf_122) ?_
              refine wp_lt (ibk qf_32 (ibK qf_136 qf_146)) ?_
              refine wp_ifn qf_162 ?_
              refine wp_lt qf_153 ?_
              refine wp_of (f2_J1_indexOfChar_4cfef_7.eq_2 ..) ?_
              refine wp_ifn qf_154 ?_
              refine wp_gd (Or.inr qf_135) ?_
              refine wp_gd (zbi (zbK qf_136 qf_137) qf_125) ?_
              refine wp_lt (ibk qf_36 (ibK qf_136 qf_155)) ?_
              refine wp_ifn qf_163 ?_
              refine wp_lt qf_164 ?_
              refine wp_of (f2_J1_indexOfChar_4cfef_7.eq_2 ..) ?_
              refine wp_ifn qf_165 ?_
              refine wp_gd (Or.inr qf_135) ?_
              refine wp_gd (zbi (zbK qf_136 qf_137) qf_127) ?_
              refine wp_lt (ibk qf_41 (ibK qf_136 qf_166)) ?_
              refine wp_ifp qf_167 ?_
              refine wp_ret_bd ?_
              refine wp_ret_bd ?_
              refine wp_of (f2_J0_indexOf_7cf53_36.eq_1 ..) ?_
              refine wp_ret_bd ?_
              refine wp_ret_bd ?_
              refine wp_ifp qf_168 ?_
              refine wp_of (f2_X13_setSide_26.eq_1 ..) ?_
              refine wp_gd ql_K_149 ?_
              refine wp_bd ?_
              refine wp_of (f_X13_isWrong.eq_1 ..) ?_
              refine wp_gd ql_K_149 ?_
              refine wp_zI ?_
              refine wp_ifp qf_73 ?_
              refine wp_of (f_X13_isWrong_14.eq_1 ..) ?_
              refine wp_gd qf_14 ?_
              refine wp_ret_bd ?_
              refine wp_ifp qf_15 ?_
              refine wp_gd ql_K_149 ?_
              refine wp_lt ql_R_149_2 ?_
              refine wp_gd ql_K_151 ?_
              refine wp_gd (gZi ql_Z_151 qf_99) ?_
              refine wp_lt (gRk qf_36 ql_R_151_1) ?_
              refine wp_gd ql_K_156 ?_
              refine wp_lt (Eq.trans (gI_a rfl) (Eq.trans (gI_a rfl) (Eq.trans (gI_a rfl) (Eq.trans (gI_a rfl) (Eq.trans (gI_a rfl) (Eq.trans (gI_a rfl) (Eq.trans (gI_a rfl) (Eq.trans (gI_a rfl) (Eq.trans (gI_a rfl) (Eq.trans (gI_a rfl) (Eq.trans (gI_a rfl) (Eq.trans (gI_a rfl) ql_I_156_15)))))))))))) ?_
              refine wp_lt ql_R_149_2 ?_
              refine wp_gd ql_K_151 ?_
              refine wp_gd (gZi ql_Z_151 qf_99) ?_
              refine wp_lt (gRk qf_36 ql_R_151_1) ?_
              refine wp_gd ql_K_156 ?_
              refine wp_gd qf_158 ?_
              refine wp_zI ?_
              refine wp_bd ?_
              refine wp_of (f_X13_logs.eq_1 ..) ?_
              refine wp_gd ql_K_149 ?_
              refine wp_lt (Eq.trans (gI_a rfl) (Eq.trans (gI_b rfl) (Eq.trans (gI_a rfl) (Eq.trans (gI_a rfl) (Eq.trans (gI_a rfl) (Eq.trans (gI_a rfl) (Eq.trans (gI_a rfl) (Eq.trans (gI_a rfl) (Eq.trans (gI_a rfl) (Eq.trans (gI_a rfl) (Eq.trans (gI_a rfl) (Eq.trans (gI_a rfl) (Eq.trans (gI_a rfl) ql_I_149_16))))))))))))) ?_
              refine wp_lt qf_27 ?_
              refine wp_zI ?_
              refine wp_ret_bd ?_
              refine wp_gd qf_130 ?_
              refine wp_ret_bd ?_
              refine wp_gd ql_K_149 ?_
              refine wp_bd ?_
              refine wp_of (f_X13_thrown.eq_1 ..) ?_
              refine wp_gd ql_K_149 ?_
              refine wp_lt (Eq.trans (gI_b rfl) (Eq.trans (gI_a rfl) gI_s)) ?_
              refine wp_ret_bd ?_
              refine wp_ifp qf_15 ?_
              refine wp_ifp qf_15 ?_
              refine wp_gd ql_K_173 ?_
              refine wp_gd (gZi ql_Z_173 qf_71) ?_
              refine wp_lt (gLk qf_32 gL_s) ?_
              refine wp_lt qf_131 ?_
              refine wp_lt qf_148 ?_
              refine wp_ifp qf_15 ?_
              refine wp_of (f_L_law_1910.eq_1 ..) ?_
              refine wp_of (f_L_law_3632.eq_1 ..) ?_
              refine wp_lt qf_21 ?_
              exact hrc _
            · skip
              refine wp_of (f_X10_setSide_29.eq_1 ..) ?_
              refine wp_bd ?_
              refine wp_of (f_X10_demand.eq_1 ..) ?_
              refine wp_ifp qf_15 ?_
              refine wp_rs_bd ?_
              refine wp_rs_bdc ?_
              refine wp_ifn qf_113 ?_
              refine wp_ifp qf_16 ?_
              refine wp_ret_bd ?_
              refine wp_gd qf_0 ?_
              refine wp_lt (xsk qf_1 hy1) ?_
              refine wp_gd qf_2 ?_
              refine wp_lt (xsk qf_3 hy2) ?_
              refine wp_lt hwy2 ?_
              refine wp_gd ql_K_149 ?_
              refine wp_bd ?_
              refine wp_of (f2_X13_setSide.eq_1 ..) ?_
              refine wp_bd ?_
              refine wp_of (f_X13_isDeck.eq_1 ..) ?_
              refine wp_bd ?_
              refine wp_of (f_X13_isBetween.eq_1 ..) ?_
              refine wp_ifn qf_33 ?_
              refine wp_ifn qf_101 ?_
              refine wp_of (f_X13_isBetween_15.eq_1 ..) ?_
              refine wp_gd qf_18 ?_
              refine wp_ret_bd ?_
              refine wp_gd qf_18 ?_
              refine wp_ret_bd ?_
              refine wp_ifn qf_19 ?_
              refine wp_gd (Or.inr qf_132) ?_
              refine wp_bd ?_
              refine wp_of (f2_J0_indexOf_0f7a4.eq_1 ..) ?_
              refine wp_gd (Or.inr qf_132) ?_
              refine wp_bd ?_
              refine wp_of (f2_J0_indexOf_7cf53.eq_1 ..) ?_
              refine wp_gd (Or.inr qf_132) ?_
              refine wp_bd ?_
              refine wp_of (f2_J0_isLatin1_aae02.eq_1 ..) ?_
              refine wp_ifn qf_19 ?_
              refine wp_gd (Or.inr qf_132) ?_
              refine wp_lt (ifR qf_133 rfl) ?_
              refine wp_ifp qf_15 ?_
              refine wp_of (f2_J0_isLatin1_aae02_18.eq_1 ..) ?_
              refine wp_gd qf_18 ?_
              refine wp_ret_bd ?_
              refine wp_ifn qf_19 ?_
              refine wp_gd (Or.inr qf_132) ?_
              refine wp_lt (ifR qf_133 qf_134) ?_
              refine wp_gd (Or.inr qf_132) ?_
              refine wp_bd ?_
              refine wp_of (f2_J0_length_8abf5.eq_1 ..) ?_
              refine wp_gd (Or.inr qf_132) ?_
              refine wp_lt (ifR qf_133 qf_134) ?_
              refine wp_gd (Or.inr qf_135) ?_
              refine wp_lt (zbo (zbK qf_136 qf_137) qf_121) ?_
              refine wp_gd (Or.inr qf_132) ?_
              refine wp_bd ?_
              refine wp_of (f2_J0_coder_7d493.eq_1 ..) ?_
              refine wp_ifn qf_19 ?_
              refine wp_gd (Or.inr qf_132) ?_
              refine wp_lt (ifR qf_133 rfl) ?_
              refine wp_of (f2_J0_coder_7d493_14.eq_1 ..) ?_
              refine wp_gd qf_138 ?_
              refine wp_ret_bd ?_
              refine wp_lt qf_139 ?_
              refine wp_ret_bd ?_
              refine wp_bd ?_
              refine wp_of (f2_J1_indexOf_4cfef.eq_1 ..) ?_
              refine wp_bd ?_
              refine wp_of (f_J1_canEncode_9a6ad.eq_1 ..) ?_
              refine wp_ifn (show ¬ (wy2 < (0 : Int32)) from by have e0 := qf_90; have e1 := qf_169; have e2 := qf_170; have e3 := qf_171; have e4 := qf_172; simp only [Int32.lt_iff_toInt_lt, Int32.le_iff_toInt_le, ← Int32.toInt_inj] at hwy2a hwy2b ⊢; omega) ?_
              refine wp_if (fun c6 => ?_) (fun c6 => ?_)
              · skip
                refine wp_of (f_J1_canEncode_9a6ad_15.eq_1 ..) ?_
                refine wp_of (f_J1_canEncode_9a6ad_16.eq_1 ..) ?_
                refine wp_gd qf_14 ?_
                refine wp_ret_bd ?_
                refine wp_ifp qf_15 ?_
                refine wp_ret_bd ?_
                refine wp_of (f2_J0_indexOf_7cf53_36.eq_1 ..) ?_
                refine wp_ret_bd ?_
                refine wp_ret_bd ?_
                refine wp_ifn qf_173 ?_
                refine wp_of (f2_X13_setSide_26.eq_1 ..) ?_
                refine wp_gd ql_K_149 ?_
                refine wp_bd ?_
                refine wp_of (f_X13_isWrong.eq_1 ..) ?_
                refine wp_gd ql_K_149 ?_
                refine wp_zI ?_
                refine wp_ifn qf_110 ?_
                refine wp_of (f_X13_isWrong_14.eq_1 ..) ?_
                refine wp_gd qf_18 ?_
                refine wp_ret_bd ?_
                refine wp_ifn qf_19 ?_
                refine wp_ret_bd ?_
                refine wp_gd ql_K_149 ?_
                refine wp_bd ?_
                refine wp_of (f_X13_thrown.eq_1 ..) ?_
                refine wp_gd ql_K_149 ?_
                refine wp_lt gI_s ?_
                refine wp_ret_bd ?_
                refine wp_ifp qf_111 ?_
                refine wp_ifn qf_112 ?_
                refine wp_of (f_L_law_1910.eq_1 ..) ?_
                refine wp_of (f_L_law_3632.eq_1 ..) ?_
                refine wp_lt qf_21 ?_
                exact hrc _
              · skip
                refine wp_of (f_J1_canEncode_9a6ad_16.eq_1 ..) ?_
                refine wp_gd qf_18 ?_
                refine wp_ret_bd ?_
                refine wp_ifn qf_19 ?_
                refine wp_lt qf_142 ?_
                refine wp_gd (Or.inr qf_135) ?_
                refine wp_lt (zbo (zbK qf_136 qf_137) qf_121) ?_
                refine wp_lt qf_143 ?_
                refine wp_ifp qf_144 ?_
                refine wp_bd ?_
                refine wp_of (f2_J1_indexOfChar_4cfef.eq_1 ..) ?_
                refine wp_ltr ?_
                refine wp_of (f2_J1_indexOfChar_4cfef_7.eq_2 ..) ?_
                refine wp_ifn qf_115 ?_
                refine wp_gd (Or.inr qf_135) ?_
                refine wp_gd (zbi (zbK qf_136 qf_137) qf_122) ?_
                refine wp_lt (ibk qf_32 (ibK qf_136 qf_146)) ?_
                refine wp_ifn (Ne.symm (i2b_ne hwy2a c6 qf_174 c3)) ?_
                refine wp_lt qf_153 ?_
                refine wp_of (f2_J1_indexOfChar_4cfef_7.eq_2 ..) ?_
                refine wp_ifn qf_154 ?_
                refine wp_gd (Or.inr qf_135) ?_
                refine wp_gd (zbi (zbK qf_136 qf_137) qf_125) ?_
                refine wp_lt (ibk qf_36 (ibK qf_136 qf_155)) ?_
                refine wp_ifn (Ne.symm (i2b_ne hwy2a c6 qf_175 c4)) ?_
                refine wp_lt qf_164 ?_
                refine wp_of (f2_J1_indexOfChar_4cfef_7.eq_2 ..) ?_
                refine wp_ifn qf_165 ?_
                refine wp_gd (Or.inr qf_135) ?_
                refine wp_gd (zbi (zbK qf_136 qf_137) qf_127) ?_
                refine wp_lt (ibk qf_41 (ibK qf_136 qf_166)) ?_
                refine wp_ifn (Ne.symm (i2b_ne hwy2a c6 qf_176 c5)) ?_
                refine wp_lt qf_177 ?_
                refine wp_of (f2_J1_indexOfChar_4cfef_7.eq_2 ..) ?_
                refine wp_ifp qf_178 ?_
                refine wp_ret_bd ?_
                refine wp_ret_bd ?_
                refine wp_of (f2_J0_indexOf_7cf53_36.eq_1 ..) ?_
                refine wp_ret_bd ?_
                refine wp_ret_bd ?_
                refine wp_ifn qf_173 ?_
                refine wp_of (f2_X13_setSide_26.eq_1 ..) ?_
                refine wp_gd ql_K_149 ?_
                refine wp_bd ?_
                refine wp_of (f_X13_isWrong.eq_1 ..) ?_
                refine wp_gd ql_K_149 ?_
                refine wp_zI ?_
                refine wp_ifn qf_110 ?_
                refine wp_of (f_X13_isWrong_14.eq_1 ..) ?_
                refine wp_gd qf_18 ?_
                refine wp_ret_bd ?_
                refine wp_ifn qf_19 ?_
                refine wp_ret_bd ?_
                refine wp_gd ql_K_149 ?_
                refine wp_bd ?_
                refine wp_of (f_X13_thrown.eq_1 ..) ?_
                refine wp_gd ql_K_149 ?_
                refine wp_lt gI_s ?_
                refine wp_ret_bd ?_
                refine wp_ifp qf_111 ?_
                refine wp_ifn qf_112 ?_
                refine wp_of (f_L_law_1910.eq_1 ..) ?_
                refine wp_of (f_L_law_3632.eq_1 ..) ?_
                refine wp_lt qf_21 ?_
                exact hrc _
      · skip
        refine wp_gd (gZi ql_Z_16 qf_102) ?_
        refine wp_lt (gRk qf_41 ql_R_16_2) ?_
        refine wp_of (f_X8_deckAt_23.eq_1 ..) ?_
        refine wp_ret_bd ?_
        refine wp_ifn qf_103 ?_
        refine wp_ret_bd ?_
        refine wp_if (fun c3 => ?_) (fun c3 => ?_)
        · skip
          subst c3
          refine wp_of (f_X10_setSide_24.eq_1 ..) ?_
          refine wp_of (f_X10_setSide_29.eq_1 ..) ?_
          refine wp_bd ?_
          refine wp_of (f_X10_demand.eq_1 ..) ?_
          refine wp_ifn qf_19 ?_
          refine wp_ret_bd ?_
          refine wp_gd ql_K_1 ?_
          refine wp_lt ql_R_1_2 ?_
          refine wp_gd ql_K_106 ?_
          refine wp_bd ?_
          refine wp_of (f_X6_note.eq_1 ..) ?_
          refine wp_gd ql_K_106 ?_
          refine wp_bd ?_
          refine wp_of (f_X6_open.eq_1 ..) ?_
          refine wp_gd ql_K_106 ?_
          refine wp_lt ql_I_106_2 ?_
          refine wp_lt qf_25 ?_
          refine wp_zI ?_
          refine wp_lt (Eq.trans (gI_b rfl) ql_I_106_2) ?_
          refine wp_ifn qf_26 ?_
          refine wp_lt (Eq.trans (gI_b rfl) ql_I_106_2) ?_
          refine wp_lt qf_27 ?_
          refine wp_zI ?_
          refine wp_of (f_X6_open_31.eq_1 ..) ?_
          refine wp_gd ql_K_106 ?_
          refine wp_bd ?_
          refine wp_of (f_X6_put.eq_1 ..) ?_
          refine wp_gd ql_K_106 ?_
          refine wp_lt (Eq.trans (gI_b rfl) gI_s) ?_
          refine wp_ifn qf_28 ?_
          refine wp_lt (Eq.trans (gI_b rfl) gI_s) ?_
          refine wp_lt ql_R_106_0 ?_
          refine wp_gd ql_K_107 ?_
          refine wp_lt (gZo ql_Z_107 qf_29) ?_
          refine wp_ifn qf_30 ?_
          refine wp_lt ql_R_106_0 ?_
          refine wp_lt (Eq.trans (gI_b rfl) gI_s) ?_
          refine wp_gd ql_K_107 ?_
          refine wp_gd (gZi ql_Z_107 qf_31) ?_
          refine wp_zIk qf_32 ?_
          refine wp_lt (Eq.trans (gI_a rfl) (Eq.trans (gI_b rfl) gI_s)) ?_
          refine wp_lt qf_27 ?_
          refine wp_zI ?_
          refine wp_of (f_X6_put_39.eq_1 ..) ?_
          refine wp_ret_bd ?_
          refine wp_ret_bd ?_
          refine wp_gd ql_K_106 ?_
          refine wp_bd ?_
          refine wp_of (f_X6_put.eq_1 ..) ?_
          refine wp_gd ql_K_106 ?_
          refine wp_lt gI_s ?_
          refine wp_ifn qf_33 ?_
          refine wp_lt gI_s ?_
          refine wp_lt ql_R_106_0 ?_
          refine wp_gd ql_K_107 ?_
          refine wp_lt (gZo ql_Z_107 qf_29) ?_
          refine wp_ifn qf_34 ?_
          refine wp_lt ql_R_106_0 ?_
          refine wp_lt gI_s ?_
          refine wp_gd ql_K_107 ?_
          refine wp_gd (gZi ql_Z_107 qf_35) ?_
          refine wp_zIk qf_36 ?_
          refine wp_lt (Eq.trans (gI_a rfl) gI_s) ?_
          refine wp_lt qf_37 ?_
          refine wp_zI ?_
          refine wp_of (f_X6_put_39.eq_1 ..) ?_
          refine wp_ret_bd ?_
          refine wp_gd ql_K_106 ?_
          refine wp_bd ?_
          refine wp_of (f_X6_put.eq_1 ..) ?_
          refine wp_gd ql_K_106 ?_
          refine wp_lt gI_s ?_
          refine wp_ifn qf_38 ?_
          refine wp_lt gI_s ?_
          refine wp_lt ql_R_106_0 ?_
          refine wp_gd ql_K_107 ?_
          refine wp_lt (gZo ql_Z_107 qf_29) ?_
          refine wp_ifn qf_39 ?_
          refine wp_lt ql_R_106_0 ?_
          refine wp_lt gI_s ?_
          refine wp_gd ql_K_107 ?_
          refine wp_gd (gZi ql_Z_107 qf_40) ?_
          refine wp_zIk qf_41 ?_
          refine wp_lt (Eq.trans (gI_a rfl) gI_s) ?_
          refine wp_lt qf_42 ?_
          refine wp_zI ?_
          refine wp_of (f_X6_put_39.eq_1 ..) ?_
          refine wp_ret_bd ?_
          refine wp_gd ql_K_106 ?_
          refine wp_bd ?_
          refine wp_of (f_X6_put.eq_1 ..) ?_
          refine wp_gd ql_K_106 ?_
          refine wp_lt gI_s ?_
          refine wp_ifn qf_43 ?_
          refine wp_lt gI_s ?_
          refine wp_lt ql_R_106_0 ?_
          refine wp_gd ql_K_107 ?_
          refine wp_lt (gZo ql_Z_107 qf_29) ?_
          refine wp_ifn qf_44 ?_
          refine wp_lt ql_R_106_0 ?_
          refine wp_lt gI_s ?_
          refine wp_gd ql_K_107 ?_
          refine wp_gd (gZi ql_Z_107 qf_45) ?_
          refine wp_zIk qf_46 ?_
          refine wp_lt (Eq.trans (gI_a rfl) gI_s) ?_
          refine wp_lt qf_47 ?_
          refine wp_zI ?_
          refine wp_of (f_X6_put_39.eq_1 ..) ?_
          refine wp_ret_bd ?_
          refine wp_ret_bd ?_
          refine wp_gd ql_K_33 ?_
          refine wp_lt ql_R_33_0 ?_
          refine wp_gd ql_K_34 ?_
          refine wp_bd ?_
          refine wp_of (f_X0_changeSide.eq_1 ..) ?_
          refine wp_gd ql_K_34 ?_
          refine wp_lt (Eq.trans (gI_a rfl) (Eq.trans (gI_a rfl) (Eq.trans (gI_a rfl) (Eq.trans (gI_a rfl) (Eq.trans (gI_a rfl) (Eq.trans (gI_a rfl) (Eq.trans (gI_a rfl) (Eq.trans (gI_a rfl) (Eq.trans (gI_a rfl) (Eq.trans (gI_a rfl) ql_I_34_4)))))))))) ?_
          refine wp_gd qf_129 ?_
          refine wp_zI ?_
          refine wp_gd qf_130 ?_
          refine wp_ret_bd ?_
          refine wp_gd qf_130 ?_
          refine wp_ret_bdc ?_
          refine wp_lt qf_131 ?_
          refine wp_gd ql_K_173 ?_
          refine wp_gd (gZi ql_Z_173 qf_71) ?_
          refine wp_zLk qf_32 ?_
          refine wp_ret_bd ?_
          refine wp_gd qf_0 ?_
          refine wp_lt (xsk qf_1 hy1) ?_
          refine wp_gd qf_2 ?_
          refine wp_lt (xsk qf_3 hy2) ?_
          refine wp_lt hwy2 ?_
          refine wp_gd ql_K_149 ?_
          refine wp_bd ?_
          refine wp_of (f2_X13_setSide.eq_1 ..) ?_
          refine wp_bd ?_
          refine wp_of (f_X13_isDeck.eq_1 ..) ?_
          refine wp_bd ?_
          refine wp_of (f_X13_isBetween.eq_1 ..) ?_
          refine wp_ifn qf_38 ?_
          refine wp_ifn qf_104 ?_
          refine wp_of (f_X13_isBetween_15.eq_1 ..) ?_
          refine wp_gd qf_18 ?_
          refine wp_ret_bd ?_
          refine wp_gd qf_18 ?_
          refine wp_ret_bd ?_
          refine wp_ifn qf_19 ?_
          refine wp_gd (Or.inr qf_132) ?_
          refine wp_bd ?_
          refine wp_of (f2_J0_indexOf_0f7a4.eq_1 ..) ?_
          refine wp_gd (Or.inr qf_132) ?_
          refine wp_bd ?_
          refine wp_of (f2_J0_indexOf_7cf53.eq_1 ..) ?_
          refine wp_gd (Or.inr qf_132) ?_
          refine wp_bd ?_
          refine wp_of (f2_J0_isLatin1_aae02.eq_1 ..) ?_
          refine wp_ifn qf_19 ?_
          refine wp_gd (Or.inr qf_132) ?_
          refine wp_lt (ifR qf_133 rfl) ?_
          refine wp_ifp qf_15 ?_
          refine wp_of (f2_J0_isLatin1_aae02_18.eq_1 ..) ?_
          refine wp_gd qf_18 ?_
          refine wp_ret_bd ?_
          refine wp_ifn qf_19 ?_
          refine wp_gd (Or.inr qf_132) ?_
          refine wp_lt (ifR qf_133 qf_134) ?_
          refine wp_gd (Or.inr qf_132) ?_
          refine wp_bd ?_
          refine wp_of (f2_J0_length_8abf5.eq_1 ..) ?_
          refine wp_gd (Or.inr qf_132) ?_
          refine wp_lt (ifR qf_133 qf_134) ?_
          refine wp_gd (Or.inr qf_135) ?_
          refine wp_lt (zbo (zbK qf_136 qf_137) qf_121) ?_
          refine wp_gd (Or.inr qf_132) ?_
          refine wp_bd ?_
          refine wp_of (f2_J0_coder_7d493.eq_1 ..) ?_
          refine wp_ifn qf_19 ?_
          refine wp_gd (Or.inr qf_132) ?_
          refine wp_lt (ifR qf_133 rfl) ?_
          refine wp_of (f2_J0_coder_7d493_14.eq_1 ..) ?_
          refine wp_gd qf_138 ?_
          refine wp_ret_bd ?_
          refine wp_lt qf_139 ?_
          refine wp_ret_bd ?_
          refine wp_bd ?_
          refine wp_of (f2_J1_indexOf_4cfef.eq_1 ..) ?_
          refine wp_bd ?_
          refine wp_of (f_J1_canEncode_9a6ad.eq_1 ..) ?_
          refine wp_ifn qf_140 ?_
          refine wp_ifn qf_141 ?_
          refine wp_of (f_J1_canEncode_9a6ad_16.eq_1 ..) ?_
          refine wp_gd qf_18 ?_
          refine wp_ret_bd ?_
          refine wp_ifn qf_19 ?_
          refine wp_lt qf_142 ?_
          refine wp_gd (Or.inr qf_135) ?_
          refine wp_lt (zbo (zbK qf_136 qf_137) qf_121) ?_
          refine wp_lt qf_143 ?_
          refine wp_ifp qf_144 ?_
          refine wp_bd ?_
          refine wp_of (f2_J1_indexOfChar_4cfef.eq_1 ..) ?_
          refine wp_lt qf_145 ?_
          refine wp_of (f2_J1_indexOfChar_4cfef_7.eq_2 ..) ?_
          refine wp_ifn qf_115 ?_
          refine wp_gd (Or.inr qf_135) ?_
          refine wp_gd (zbi (zbK qf_136 qf_137) qf_122) ?_
          refine wp_lt (ibk qf_32 (ibK qf_136 qf_146)) ?_
          refine wp_ifp qf_147 ?_
          refine wp_ret_bd ?_
          refine wp_ret_bd ?_
          refine wp_of (f2_J0_indexOf_7cf53_36.eq_1 ..) ?_
          refine wp_ret_bd ?_
          refine wp_ret_bd ?_
          refine wp_ifp qf_73 ?_
          refine wp_of (f2_X13_setSide_26.eq_1 ..) ?_
          refine wp_gd ql_K_149 ?_
          refine wp_bd ?_
          refine wp_of (f_X13_isWrong.eq_1 ..) ?_
          refine wp_gd ql_K_149 ?_
          refine wp_zI ?_
          refine wp_ifp qf_73 ?_
          refine wp_of (f_X13_isWrong_14.eq_1 ..) ?_
          refine wp_gd qf_14 ?_
          refine wp_ret_bd ?_
          refine wp_ifp qf_15 ?_
          refine wp_gd ql_K_149 ?_
          refine wp_lt ql_R_149_2 ?_
          refine wp_gd ql_K_151 ?_
          refine wp_gd (gZi ql_Z_151 qf_102) ?_
          refine wp_lt (gRk qf_41 ql_R_151_2) ?_
          refine wp_gd ql_K_160 ?_
          refine wp_lt (Eq.trans (gI_a rfl) (Eq.trans (gI_a rfl) (Eq.trans (gI_a rfl) (Eq.trans (gI_a rfl) (Eq.trans (gI_a rfl) (Eq.trans (gI_a rfl) (Eq.trans (gI_a rfl) (Eq.trans (gI_a rfl) (Eq.trans (gI_a rfl) (Eq.trans (gI_a rfl) (Eq.trans (gI_a rfl) (Eq.trans (gI_a rfl) ql_I_160_15)))))))))))) ?_
          refine wp_lt ql_R_149_2 ?_
          refine wp_gd ql_K_151 ?_
          refine wp_gd (gZi ql_Z_151 qf_102) ?_
          refine wp_lt (gRk qf_41 ql_R_151_2) ?_
          refine wp_gd ql_K_160 ?_
          refine wp_gd qf_129 ?_
          refine wp_zI ?_
          refine wp_bd ?_
          refine wp_of (f_X13_logs.eq_1 ..) ?_
          refine wp_gd ql_K_149 ?_
          refine wp_lt (Eq.trans (gI_a rfl) (Eq.trans (gI_b rfl) (Eq.trans (gI_a rfl) (Eq.trans (gI_a rfl) (Eq.trans (gI_a rfl) (Eq.trans (gI_a rfl) (Eq.trans (gI_a rfl) (Eq.trans (gI_a rfl) (Eq.trans (gI_a rfl) (Eq.trans (gI_a rfl) (Eq.trans (gI_a rfl) (Eq.trans (gI_a rfl) (Eq.trans (gI_a rfl) ql_I_149_16))))))))))))) ?_
          refine wp_lt qf_27 ?_
          refine wp_zI ?_
          refine wp_ret_bd ?_
          refine wp_gd qf_130 ?_
          refine wp_ret_bd ?_
          refine wp_gd ql_K_149 ?_
          refine wp_bd ?_
          refine wp_of (f_X13_thrown.eq_1 ..) ?_
          refine wp_gd ql_K_149 ?_
          refine wp_lt (Eq.trans (gI_b rfl) (Eq.trans (gI_a rfl) gI_s)) ?_
          refine wp_ret_bd ?_
          refine wp_ifp qf_15 ?_
          refine wp_ifp qf_15 ?_
          refine wp_gd ql_K_173 ?_
          refine wp_gd (gZi ql_Z_173 qf_71) ?_
          refine wp_lt (gLk qf_32 gL_s) ?_
          refine wp_lt qf_131 ?_
          refine wp_lt qf_148 ?_
          refine wp_ifp qf_15 ?_
          refine wp_of (f_L_law_1910.eq_1 ..) ?_
          refine wp_of (f_L_law_3632.eq_1 ..) ?_
          refine wp_lt qf_21 ?_
          exact hrc _
        · skip
          refine wp_if (fun c4 => ?_) (fun c4 => ?_)
          · skip
            subst c4
            refine wp_of (f_X10_setSide_24.eq_1 ..) ?_
            refine wp_of (f_X10_setSide_29.eq_1 ..) ?_
            refine wp_bd ?_
            refine wp_of (f_X10_demand.eq_1 ..) ?_
            refine wp_ifn qf_19 ?_
            refine wp_ret_bd ?_
            refine wp_gd ql_K_1 ?_
            refine wp_lt ql_R_1_2 ?_
            refine wp_gd ql_K_106 ?_
            refine wp_bd ?_
            refine wp_of (f_X6_note.eq_1 ..) ?_
            refine wp_gd ql_K_106 ?_
            refine wp_bd ?_
            refine wp_of (f_X6_open.eq_1 ..) ?_
            refine wp_gd ql_K_106 ?_
            refine wp_lt ql_I_106_2 ?_
            refine wp_lt qf_25 ?_
            refine wp_zI ?_
            refine wp_lt (Eq.trans (gI_b rfl) ql_I_106_2) ?_
            refine wp_ifn qf_26 ?_
            refine wp_lt (Eq.trans (gI_b rfl) ql_I_106_2) ?_
            refine wp_lt qf_27 ?_
            refine wp_zI ?_
            refine wp_of (f_X6_open_31.eq_1 ..) ?_
            refine wp_gd ql_K_106 ?_
            refine wp_bd ?_
            refine wp_of (f_X6_put.eq_1 ..) ?_
            refine wp_gd ql_K_106 ?_
            refine wp_lt (Eq.trans (gI_b rfl) gI_s) ?_
            refine wp_ifn qf_28 ?_
            refine wp_lt (Eq.trans (gI_b rfl) gI_s) ?_
            refine wp_lt ql_R_106_0 ?_
            refine wp_gd ql_K_107 ?_
            refine wp_lt (gZo ql_Z_107 qf_29) ?_
            refine wp_ifn qf_30 ?_
            refine wp_lt ql_R_106_0 ?_
            refine wp_lt (Eq.trans (gI_b rfl) gI_s) ?_
            refine wp_gd ql_K_107 ?_
            refine wp_gd (gZi ql_Z_107 qf_31) ?_
            refine wp_zIk qf_32 ?_
            refine wp_lt (Eq.trans (gI_a rfl) (Eq.trans (gI_b rfl) gI_s)) ?_
            refine wp_lt qf_27 ?_
            refine wp_zI ?_
            refine wp_of (f_X6_put_39.eq_1 ..) ?_
            refine wp_ret_bd ?_
            refine wp_ret_bd ?_
            refine wp_gd ql_K_106 ?_
            refine wp_bd ?_
            refine wp_of (f_X6_put.eq_1 ..) ?_
            refine wp_gd ql_K_106 ?_
            refine wp_lt gI_s ?_
            refine wp_ifn qf_33 ?_
            refine wp_lt gI_s ?_
            refine wp_lt ql_R_106_0 ?_
            refine wp_gd ql_K_107 ?_
            refine wp_lt (gZo ql_Z_107 qf_29) ?_
            refine wp_ifn qf_34 ?_
            refine wp_lt ql_R_106_0 ?_
            refine wp_lt gI_s ?_
            refine wp_gd ql_K_107 ?_
            refine wp_gd (gZi ql_Z_107 qf_35) ?_
            refine wp_zIk qf_36 ?_
            refine wp_lt (Eq.trans (gI_a rfl) gI_s) ?_
            refine wp_lt qf_37 ?_
            refine wp_zI ?_
            refine wp_of (f_X6_put_39.eq_1 ..) ?_
            refine wp_ret_bd ?_
            refine wp_gd ql_K_106 ?_
            refine wp_bd ?_
            refine wp_of (f_X6_put.eq_1 ..) ?_
            refine wp_gd ql_K_106 ?_
            refine wp_lt gI_s ?_
            refine wp_ifn qf_38 ?_
            refine wp_lt gI_s ?_
            refine wp_lt ql_R_106_0 ?_
            refine wp_gd ql_K_107 ?_
            refine wp_lt (gZo ql_Z_107 qf_29) ?_
            refine wp_ifn qf_39 ?_
            refine wp_lt ql_R_106_0 ?_
            refine wp_lt gI_s ?_
            refine wp_gd ql_K_107 ?_
            refine wp_gd (gZi ql_Z_107 qf_40) ?_
            refine wp_zIk qf_41 ?_
            refine wp_lt (Eq.trans (gI_a rfl) gI_s) ?_
            refine wp_lt qf_42 ?_
            refine wp_zI ?_
            refine wp_of (f_X6_put_39.eq_1 ..) ?_
            refine wp_ret_bd ?_
            refine wp_gd ql_K_106 ?_
            refine wp_bd ?_
            refine wp_of (f_X6_put.eq_1 ..) ?_
            refine wp_gd ql_K_106 ?_
            refine wp_lt gI_s ?_
            refine wp_ifn qf_43 ?_
            refine wp_lt gI_s ?_
            refine wp_lt ql_R_106_0 ?_
            refine wp_gd ql_K_107 ?_
            refine wp_lt (gZo ql_Z_107 qf_29) ?_
            refine wp_ifn qf_44 ?_
            refine wp_lt ql_R_106_0 ?_
            refine wp_lt gI_s ?_
            refine wp_gd ql_K_107 ?_
            refine wp_gd (gZi ql_Z_107 qf_45) ?_
            refine wp_zIk qf_46 ?_
            refine wp_lt (Eq.trans (gI_a rfl) gI_s) ?_
            refine wp_lt qf_47 ?_
            refine wp_zI ?_
            refine wp_of (f_X6_put_39.eq_1 ..) ?_
            refine wp_ret_bd ?_
            refine wp_ret_bd ?_
            refine wp_gd ql_K_33 ?_
            refine wp_lt ql_R_33_0 ?_
            refine wp_gd ql_K_34 ?_
            refine wp_bd ?_
            refine wp_of (f_X0_changeSide.eq_1 ..) ?_
            refine wp_gd ql_K_34 ?_
            refine wp_lt (Eq.trans (gI_a rfl) (Eq.trans (gI_a rfl) (Eq.trans (gI_a rfl) (Eq.trans (gI_a rfl) (Eq.trans (gI_a rfl) (Eq.trans (gI_a rfl) (Eq.trans (gI_a rfl) (Eq.trans (gI_a rfl) (Eq.trans (gI_a rfl) (Eq.trans (gI_a rfl) ql_I_34_4)))))))))) ?_
            refine wp_gd qf_130 ?_
            refine wp_zI ?_
            refine wp_gd qf_130 ?_
            refine wp_ret_bd ?_
            refine wp_gd qf_130 ?_
            refine wp_ret_bdc ?_
            refine wp_lt qf_131 ?_
            refine wp_gd ql_K_173 ?_
            refine wp_gd (gZi ql_Z_173 qf_71) ?_
            refine wp_zLk qf_32 ?_
            refine wp_ret_bd ?_
            refine wp_gd qf_0 ?_
            refine wp_lt (xsk qf_1 hy1) ?_
            refine wp_gd qf_2 ?_
            refine wp_lt (xsk qf_3 hy2) ?_
            refine wp_lt hwy2 ?_
            refine wp_gd ql_K_149 ?_
            refine wp_bd ?_
            refine wp_of (f2_X13_setSide.eq_1 ..) ?_
            refine wp_bd ?_
            refine wp_of (f_X13_isDeck.eq_1 ..) ?_
            refine wp_bd ?_
            refine wp_of (f_X13_isBetween.eq_1 ..) ?_
            refine wp_ifn qf_38 ?_
            refine wp_ifn qf_104 ?_
            refine wp_of (f_X13_isBetween_15.eq_1 ..) ?_
            refine wp_gd qf_18 ?_
            refine wp_ret_bd ?_
            refine wp_gd qf_18 ?_
            refine wp_ret_bd ?_
            refine wp_ifn qf_19 ?_
            refine wp_gd (Or.inr qf_132) ?_
            refine wp_bd ?_
            refine wp_of (f2_J0_indexOf_0f7a4.eq_1 ..) ?_
            refine wp_gd (Or.inr qf_132) ?_
            refine wp_bd ?_
            refine wp_of (f2_J0_indexOf_7cf53.eq_1 ..) ?_
            refine wp_gd (Or.inr qf_132) ?_
            refine wp_bd ?_
            refine wp_of (f2_J0_isLatin1_aae02.eq_1 ..) ?_
            refine wp_ifn qf_19 ?_
            refine wp_gd (Or.inr qf_132) ?_
            refine wp_lt (ifR qf_133 rfl) ?_
            refine wp_ifp qf_15 ?_
            refine wp_of (f2_J0_isLatin1_aae02_18.eq_1 ..) ?_
            refine wp_gd qf_18 ?_
            refine wp_ret_bd ?_
            refine wp_ifn qf_19 ?_
            refine wp_gd (Or.inr qf_132) ?_
            refine wp_lt (ifR qf_133 qf_134) ?_
            refine wp_gd (Or.inr qf_132) ?_
            refine wp_bd ?_
            refine wp_of (f2_J0_length_8abf5.eq_1 ..) ?_
            refine wp_gd (Or.inr qf_132) ?_
            refine wp_lt (ifR qf_133 qf_134) ?_
            refine wp_gd (Or.inr qf_135) ?_
            refine wp_lt (zbo (zbK qf_136 qf_137) qf_121) ?_
            refine wp_gd (Or.inr qf_132) ?_
            refine wp_bd ?_
            refine wp_of (f2_J0_coder_7d493.eq_1 ..) ?_
            refine wp_ifn qf_19 ?_
            refine wp_gd (Or.inr qf_132) ?_
            refine wp_lt (ifR qf_133 rfl) ?_
            refine wp_of (f2_J0_coder_7d493_14.eq_1 ..) ?_
            refine wp_gd qf_138 ?_
            refine wp_ret_bd ?_
            refine wp_lt qf_139 ?_
            refine wp_ret_bd ?_
            refine wp_bd ?_
            refine wp_of (f2_J1_indexOf_4cfef.eq_1 ..) ?_
            refine wp_bd ?_
            refine wp_of (f_J1_canEncode_9a6ad.eq_1 ..) ?_
            refine wp_ifn qf_149 ?_
            refine wp_ifn qf_150 ?_
            refine wp_of (f_J1_canEncode_9a6ad_16.eq_1 ..) ?_
            refine wp_gd qf_18 ?_
            refine wp_ret_bd ?_
            refine wp_ifn qf_19 ?_
            refine wp_lt qf_142 ?_
            refine wp_gd (Or.inr qf_135) ?_
            refine wp_lt (zbo (zbK qf_136 qf_137) qf_121) ?_
            refine wp_lt qf_143 ?_
            refine wp_ifp qf_144 ?_
            refine wp_bd ?_
            refine wp_of (f2_J1_indexOfChar_4cfef.eq_1 ..) ?_
            refine wp_lt qf_151 ?_
            refine wp_of (f2_J1_indexOfChar_4cfef_7.eq_2 ..) ?_
            refine wp_ifn qf_115 ?_
            refine wp_gd (Or.inr qf_135) ?_
            refine wp_gd (zbi (zbK qf_136 qf_137) qf_122) ?_
            refine wp_lt (ibk qf_32 (ibK qf_136 qf_146)) ?_
            refine wp_ifn qf_152 ?_
            refine wp_lt qf_153 ?_
            refine wp_of (f2_J1_indexOfChar_4cfef_7.eq_2 ..) ?_
            refine wp_ifn qf_154 ?_
            refine wp_gd (Or.inr qf_135) ?_
            refine wp_gd (zbi (zbK qf_136 qf_137) qf_125) ?_
            refine wp_lt (ibk qf_36 (ibK qf_136 qf_155)) ?_
            refine wp_ifp qf_156 ?_
            refine wp_ret_bd ?_
            refine wp_ret_bd ?_
            refine wp_of (f2_J0_indexOf_7cf53_36.eq_1 ..) ?_
            refine wp_ret_bd ?_
            refine wp_ret_bd ?_
            refine wp_ifp qf_157 ?_
            refine wp_of (f2_X13_setSide_26.eq_1 ..) ?_
            refine wp_gd ql_K_149 ?_
            refine wp_bd ?_
            refine wp_of (f_X13_isWrong.eq_1 ..) ?_
            refine wp_gd ql_K_149 ?_
            refine wp_zI ?_
            refine wp_ifp qf_73 ?_
            refine wp_of (f_X13_isWrong_14.eq_1 ..) ?_
            refine wp_gd qf_14 ?_
            refine wp_ret_bd ?_
            refine wp_ifp qf_15 ?_
            refine wp_gd ql_K_149 ?_
            refine wp_lt ql_R_149_2 ?_
            refine wp_gd ql_K_151 ?_
            refine wp_gd (gZi ql_Z_151 qf_102) ?_
            refine wp_lt (gRk qf_41 ql_R_151_2) ?_
            refine wp_gd ql_K_160 ?_
            refine wp_lt (Eq.trans (gI_a rfl) (Eq.trans (gI_a rfl) (Eq.trans (gI_a rfl) (Eq.trans (gI_a rfl) (Eq.trans (gI_a rfl) (Eq.trans (gI_a rfl) (Eq.trans (gI_a rfl) (Eq.trans (gI_a rfl) (Eq.trans (gI_a rfl) (Eq.trans (gI_a rfl) (Eq.trans (gI_a rfl) (Eq.trans (gI_a rfl) ql_I_160_15)))))))))))) ?_
            refine wp_lt ql_R_149_2 ?_
            refine wp_gd ql_K_151 ?_
            refine wp_gd (gZi ql_Z_151 qf_102) ?_
            refine wp_lt (gRk qf_41 ql_R_151_2) ?_
            refine wp_gd ql_K_160 ?_
            refine wp_gd qf_130 ?_
            refine wp_zI ?_
            refine wp_bd ?_
            refine wp_of (f_X13_logs.eq_1 ..) ?_
            refine wp_gd ql_K_149 ?_
            refine wp_lt (Eq.trans (gI_a rfl) (Eq.trans (gI_b rfl) (Eq.trans (gI_a rfl) (Eq.trans (gI_a rfl) (Eq.trans (gI_a rfl) (Eq.trans (gI_a rfl) (Eq.trans (gI_a rfl) (Eq.trans (gI_a rfl) (Eq.trans (gI_a rfl) (Eq.trans (gI_a rfl) (Eq.trans (gI_a rfl) (Eq.trans (gI_a rfl) (Eq.trans (gI_a rfl) ql_I_149_16))))))))))))) ?_
            refine wp_lt qf_27 ?_
            refine wp_zI ?_
            refine wp_ret_bd ?_
            refine wp_gd qf_130 ?_
            refine wp_ret_bd ?_
            refine wp_gd ql_K_149 ?_
            refine wp_bd ?_
            refine wp_of (f_X13_thrown.eq_1 ..) ?_
            refine wp_gd ql_K_149 ?_
            refine wp_lt (Eq.trans (gI_b rfl) (Eq.trans (gI_a rfl) gI_s)) ?_
            refine wp_ret_bd ?_
            refine wp_ifp qf_15 ?_
            refine wp_ifp qf_15 ?_
            refine wp_gd ql_K_173 ?_
            refine wp_gd (gZi ql_Z_173 qf_71) ?_
            refine wp_lt (gLk qf_32 gL_s) ?_
            refine wp_lt qf_131 ?_
            refine wp_lt qf_148 ?_
            refine wp_ifp qf_15 ?_
            refine wp_of (f_L_law_1910.eq_1 ..) ?_
            refine wp_of (f_L_law_3632.eq_1 ..) ?_
            refine wp_lt qf_21 ?_
            exact hrc _
          · skip
            refine wp_if (fun c5 => ?_) (fun c5 => ?_)
            · skip
              subst c5
              refine wp_of (f_X10_setSide_24.eq_1 ..) ?_
              refine wp_of (f_X10_setSide_29.eq_1 ..) ?_
              refine wp_bd ?_
              refine wp_of (f_X10_demand.eq_1 ..) ?_
              refine wp_ifn qf_19 ?_
              refine wp_ret_bd ?_
              refine wp_gd ql_K_1 ?_
              refine wp_lt ql_R_1_2 ?_
              refine wp_gd ql_K_106 ?_
              refine wp_bd ?_
              refine wp_of (f_X6_note.eq_1 ..) ?_
              refine wp_gd ql_K_106 ?_
              refine wp_bd ?_
              refine wp_of (f_X6_open.eq_1 ..) ?_
              refine wp_gd ql_K_106 ?_
              refine wp_lt ql_I_106_2 ?_
              refine wp_lt qf_25 ?_
              refine wp_zI ?_
              refine wp_lt (Eq.trans (gI_b rfl) ql_I_106_2) ?_
              refine wp_ifn qf_26 ?_
              refine wp_lt (Eq.trans (gI_b rfl) ql_I_106_2) ?_
              refine wp_lt qf_27 ?_
              refine wp_zI ?_
              refine wp_of (f_X6_open_31.eq_1 ..) ?_
              refine wp_gd ql_K_106 ?_
              refine wp_bd ?_
              refine wp_of (f_X6_put.eq_1 ..) ?_
              refine wp_gd ql_K_106 ?_
              refine wp_lt (Eq.trans (gI_b rfl) gI_s) ?_
              refine wp_ifn qf_28 ?_
              refine wp_lt (Eq.trans (gI_b rfl) gI_s) ?_
              refine wp_lt ql_R_106_0 ?_
              refine wp_gd ql_K_107 ?_
              refine wp_lt (gZo ql_Z_107 qf_29) ?_
              refine wp_ifn qf_30 ?_
              refine wp_lt ql_R_106_0 ?_
              refine wp_lt (Eq.trans (gI_b rfl) gI_s) ?_
              refine wp_gd ql_K_107 ?_
              refine wp_gd (gZi ql_Z_107 qf_31) ?_
              refine wp_zIk qf_32 ?_
              refine wp_lt (Eq.trans (gI_a rfl) (Eq.trans (gI_b rfl) gI_s)) ?_
              refine wp_lt qf_27 ?_
              refine wp_zI ?_
              refine wp_of (f_X6_put_39.eq_1 ..) ?_
              refine wp_ret_bd ?_
              refine wp_ret_bd ?_
              refine wp_gd ql_K_106 ?_
              refine wp_bd ?_
              refine wp_of (f_X6_put.eq_1 ..) ?_
              refine wp_gd ql_K_106 ?_
              refine wp_lt gI_s ?_
              refine wp_ifn qf_33 ?_
              refine wp_lt gI_s ?_
              refine wp_lt ql_R_106_0 ?_
              refine wp_gd ql_K_107 ?_
              refine wp_lt (gZo ql_Z_107 qf_29) ?_
              refine wp_ifn qf_34 ?_
              refine wp_lt ql_R_106_0 ?_
              refine wp_lt gI_s ?_
              refine wp_gd ql_K_107 ?_
              refine wp_gd (gZi ql_Z_107 qf_35) ?_
              refine wp_zIk qf_36 ?_
              refine wp_lt (Eq.trans (gI_a rfl) gI_s) ?_
              refine wp_lt qf_37 ?_
              refine wp_zI ?_
              refine wp_of (f_X6_put_39.eq_1 ..) ?_
              refine wp_ret_bd ?_
              refine wp_gd ql_K_106 ?_
              refine wp_bd ?_
              refine wp_of (f_X6_put.eq_1 ..) ?_
              refine wp_gd ql_K_106 ?_
              refine wp_lt gI_s ?_
              refine wp_ifn qf_38 ?_
              refine wp_lt gI_s ?_
              refine wp_lt ql_R_106_0 ?_
              refine wp_gd ql_K_107 ?_
              refine wp_lt (gZo ql_Z_107 qf_29) ?_
              refine wp_ifn qf_39 ?_
              refine wp_lt ql_R_106_0 ?_
              refine wp_lt gI_s ?_
              refine wp_gd ql_K_107 ?_
              refine wp_gd (gZi ql_Z_107 qf_40) ?_
              refine wp_zIk qf_41 ?_
              refine wp_lt (Eq.trans (gI_a rfl) gI_s) ?_
              refine wp_lt qf_42 ?_
              refine wp_zI ?_
              refine wp_of (f_X6_put_39.eq_1 ..) ?_
              refine wp_ret_bd ?_
              refine wp_gd ql_K_106 ?_
              refine wp_bd ?_
              refine wp_of (f_X6_put.eq_1 ..) ?_
              refine wp_gd ql_K_106 ?_
              refine wp_lt gI_s ?_
              refine wp_ifn qf_43 ?_
              refine wp_lt gI_s ?_
              refine wp_lt ql_R_106_0 ?_
              refine wp_gd ql_K_107 ?_
              refine wp_lt (gZo ql_Z_107 qf_29) ?_
              refine wp_ifn qf_44 ?_
              refine wp_lt ql_R_106_0 ?_
              refine wp_lt gI_s ?_
              refine wp_gd ql_K_107 ?_
              refine wp_gd (gZi ql_Z_107 qf_45) ?_
              refine wp_zIk qf_46 ?_
              refine wp_lt (Eq.trans (gI_a rfl) gI_s) ?_
              refine wp_lt qf_47 ?_
              refine wp_zI ?_
              refine wp_of (f_X6_put_39.eq_1 ..) ?_
              refine wp_ret_bd ?_
              refine wp_ret_bd ?_
              refine wp_gd ql_K_33 ?_
              refine wp_lt ql_R_33_0 ?_
              refine wp_gd ql_K_34 ?_
              refine wp_bd ?_
              refine wp_of (f_X0_changeSide.eq_1 ..) ?_
              refine wp_gd ql_K_34 ?_
              refine wp_lt (Eq.trans (gI_a rfl) (Eq.trans (gI_a rfl) (Eq.trans (gI_a rfl) (Eq.trans (gI_a rfl) (Eq.trans (gI_a rfl) (Eq.trans (gI_a rfl) (Eq.trans (gI_a rfl) (Eq.trans (gI_a rfl) (Eq.trans (gI_a rfl) (Eq.trans (gI_a rfl) ql_I_34_4)))))))))) ?_
              refine wp_gd qf_158 ?_
              refine wp_zI ?_
              refine wp_gd qf_130 ?_
              refine wp_ret_bd ?_
              refine wp_gd qf_130 ?_
              refine wp_ret_bdc ?_
              refine wp_lt qf_131 ?_
              refine wp_gd ql_K_173 ?_
              refine wp_gd (gZi ql_Z_173 qf_71) ?_
              refine wp_zLk qf_32 ?_
              refine wp_ret_bd ?_
              refine wp_gd qf_0 ?_
              refine wp_lt (xsk qf_1 hy1) ?_
              refine wp_gd qf_2 ?_
              refine wp_lt (xsk qf_3 hy2) ?_
              refine wp_lt hwy2 ?_
              refine wp_gd ql_K_149 ?_
              refine wp_bd ?_
              refine wp_of (f2_X13_setSide.eq_1 ..) ?_
              refine wp_bd ?_
              refine wp_of (f_X13_isDeck.eq_1 ..) ?_
              refine wp_bd ?_
              refine wp_of (f_X13_isBetween.eq_1 ..) ?_
              refine wp_ifn qf_38 ?_
              refine wp_ifn qf_104 ?_
              refine wp_of (f_X13_isBetween_15.eq_1 ..) ?_
              refine wp_gd qf_18 ?_
              refine wp_ret_bd ?_
              refine wp_gd qf_18 ?_
              refine wp_ret_bd ?_
              refine wp_ifn qf_19 ?_
              refine wp_gd (Or.inr qf_132) ?_
              refine wp_bd ?_
              refine wp_of (f2_J0_indexOf_0f7a4.eq_1 ..) ?_
              refine wp_gd (Or.inr qf_132) ?_
              refine wp_bd ?_
              refine wp_of (f2_J0_indexOf_7cf53.eq_1 ..) ?_
              refine wp_gd (Or.inr qf_132) ?_
              refine wp_bd ?_
              refine wp_of (f2_J0_isLatin1_aae02.eq_1 ..) ?_
              refine wp_ifn qf_19 ?_
              refine wp_gd (Or.inr qf_132) ?_
              refine wp_lt (ifR qf_133 rfl) ?_
              refine wp_ifp qf_15 ?_
              refine wp_of (f2_J0_isLatin1_aae02_18.eq_1 ..) ?_
              refine wp_gd qf_18 ?_
              refine wp_ret_bd ?_
              refine wp_ifn qf_19 ?_
              refine wp_gd (Or.inr qf_132) ?_
              refine wp_lt (ifR qf_133 qf_134) ?_
              refine wp_gd (Or.inr qf_132) ?_
              refine wp_bd ?_
              refine wp_of (f2_J0_length_8abf5.eq_1 ..) ?_
              refine wp_gd (Or.inr qf_132) ?_
              refine wp_lt (ifR qf_133 qf_134) ?_
              refine wp_gd (Or.inr qf_135) ?_
              refine wp_lt (zbo (zbK qf_136 qf_137) qf_121) ?_
              refine wp_gd (Or.inr qf_132) ?_
              refine wp_bd ?_
              refine wp_of (f2_J0_coder_7d493.eq_1 ..) ?_
              refine wp_ifn qf_19 ?_
              refine wp_gd (Or.inr qf_132) ?_
              refine wp_lt (ifR qf_133 rfl) ?_
              refine wp_of (f2_J0_coder_7d493_14.eq_1 ..) ?_
              refine wp_gd qf_138 ?_
              refine wp_ret_bd ?_
              refine wp_lt qf_139 ?_
              refine wp_ret_bd ?_
              refine wp_bd ?_
              refine wp_of (f2_J1_indexOf_4cfef.eq_1 ..) ?_
              refine wp_bd ?_
              refine wp_of (f_J1_canEncode_9a6ad.eq_1 ..) ?_
              refine wp_ifn qf_159 ?_
              refine wp_ifn qf_160 ?_
              refine wp_of (f_J1_canEncode_9a6ad_16.eq_1 ..) ?_
              refine wp_gd qf_18 ?_
              refine wp_ret_bd ?_
              refine wp_ifn qf_19 ?_
              refine wp_lt qf_142 ?_
              refine wp_gd (Or.inr qf_135) ?_
              refine wp_lt (zbo (zbK qf_136 qf_137) qf_121) ?_
              refine wp_lt qf_143 ?_
              refine wp_ifp qf_144 ?_
              refine wp_bd ?_
              refine wp_of (f2_J1_indexOfChar_4cfef.eq_1 ..) ?_
              refine wp_lt qf_161 ?_
              refine wp_of (f2_J1_indexOfChar_4cfef_7.eq_2 ..) ?_
              refine wp_ifn qf_115 ?_
              refine wp_gd (Or.inr qf_135) ?_
              refine wp_gd (zbi (zbK qf_136 qf_137) qf_122) ?_
              refine wp_lt (ibk qf_32 (ibK qf_136 qf_146)) ?_
              refine wp_ifn qf_162 ?_
              refine wp_lt qf_153 ?_
              refine wp_of (f2_J1_indexOfChar_4cfef_7.eq_2 ..) ?_
              refine wp_ifn qf_154 ?_
              refine wp_gd (Or.inr qf_135) ?_
              refine wp_gd (zbi (zbK qf_136 qf_137) qf_125) ?_
              refine wp_lt (ibk qf_36 (ibK qf_136 qf_155)) ?_
              refine wp_ifn qf_163 ?_
              refine wp_lt qf_164 ?_
              refine wp_of (f2_J1_indexOfChar_4cfef_7.eq_2 ..) ?_
              refine wp_ifn qf_165 ?_
              refine wp_gd (Or.inr qf_135) ?_
              refine wp_gd (zbi (zbK qf_136 qf_137) qf_127) ?_
              refine wp_lt (ibk qf_41 (ibK qf_136 qf_166)) ?_
              refine wp_ifp qf_167 ?_
              refine wp_ret_bd ?_
              refine wp_ret_bd ?_
              refine wp_of (f2_J0_indexOf_7cf53_36.eq_1 ..) ?_
              refine wp_ret_bd ?_
              refine wp_ret_bd ?_
              refine wp_ifp qf_168 ?_
              refine wp_of (f2_X13_setSide_26.eq_1 ..) ?_
              refine wp_gd ql_K_149 ?_
              refine wp_bd ?_
              refine wp_of (f_X13_isWrong.eq_1 ..) ?_
              refine wp_gd ql_K_149 ?_
              refine wp_zI ?_
              refine wp_ifp qf_73 ?_
              refine wp_of (f_X13_isWrong_14.eq_1 ..) ?_
              refine wp_gd qf_14 ?_
              refine wp_ret_bd ?_
              refine wp_ifp qf_15 ?_
              refine wp_gd ql_K_149 ?_
              refine wp_lt ql_R_149_2 ?_
              refine wp_gd ql_K_151 ?_
              refine wp_gd (gZi ql_Z_151 qf_102) ?_
              refine wp_lt (gRk qf_41 ql_R_151_2) ?_
              refine wp_gd ql_K_160 ?_
              refine wp_lt (Eq.trans (gI_a rfl) (Eq.trans (gI_a rfl) (Eq.trans (gI_a rfl) (Eq.trans (gI_a rfl) (Eq.trans (gI_a rfl) (Eq.trans (gI_a rfl) (Eq.trans (gI_a rfl) (Eq.trans (gI_a rfl) (Eq.trans (gI_a rfl) (Eq.trans (gI_a rfl) (Eq.trans (gI_a rfl) (Eq.trans (gI_a rfl) ql_I_160_15)))))))))))) ?_
              refine wp_lt ql_R_149_2 ?_
              refine wp_gd ql_K_151 ?_
              refine wp_gd (gZi ql_Z_151 qf_102) ?_
              refine wp_lt (gRk qf_41 ql_R_151_2) ?_
              refine wp_gd ql_K_160 ?_
              refine wp_gd qf_158 ?_
              refine wp_zI ?_
              refine wp_bd ?_
              refine wp_of (f_X13_logs.eq_1 ..) ?_
              refine wp_gd ql_K_149 ?_
              refine wp_lt (Eq.trans (gI_a rfl) (Eq.trans (gI_b rfl) (Eq.trans (gI_a rfl) (Eq.trans (gI_a rfl) (Eq.trans (gI_a rfl) (Eq.trans (gI_a rfl) (Eq.trans (gI_a rfl) (Eq.trans (gI_a rfl) (Eq.trans (gI_a rfl) (Eq.trans (gI_a rfl) (Eq.trans (gI_a rfl) (Eq.trans (gI_a rfl) (Eq.trans (gI_a rfl) ql_I_149_16))))))))))))) ?_
              refine wp_lt qf_27 ?_
              refine wp_zI ?_
              refine wp_ret_bd ?_
              refine wp_gd qf_130 ?_
              refine wp_ret_bd ?_
              refine wp_gd ql_K_149 ?_
              refine wp_bd ?_
              refine wp_of (f_X13_thrown.eq_1 ..) ?_
              refine wp_gd ql_K_149 ?_
              refine wp_lt (Eq.trans (gI_b rfl) (Eq.trans (gI_a rfl) gI_s)) ?_
              refine wp_ret_bd ?_
              refine wp_ifp qf_15 ?_
              refine wp_ifp qf_15 ?_
              refine wp_gd ql_K_173 ?_
              refine wp_gd (gZi ql_Z_173 qf_71) ?_
              refine wp_lt (gLk qf_32 gL_s) ?_
              refine wp_lt qf_131 ?_
              refine wp_lt qf_148 ?_
              refine wp_ifp qf_15 ?_
              refine wp_of (f_L_law_1910.eq_1 ..) ?_
              refine wp_of (f_L_law_3632.eq_1 ..) ?_
              refine wp_lt qf_21 ?_
              exact hrc _
            · skip
              refine wp_of (f_X10_setSide_29.eq_1 ..) ?_
              refine wp_bd ?_
              refine wp_of (f_X10_demand.eq_1 ..) ?_
              refine wp_ifp qf_15 ?_
              refine wp_rs_bd ?_
              refine wp_rs_bdc ?_
              refine wp_ifn qf_113 ?_
              refine wp_ifp qf_16 ?_
              refine wp_ret_bd ?_
              refine wp_gd qf_0 ?_
              refine wp_lt (xsk qf_1 hy1) ?_
              refine wp_gd qf_2 ?_
              refine wp_lt (xsk qf_3 hy2) ?_
              refine wp_lt hwy2 ?_
              refine wp_gd ql_K_149 ?_
              refine wp_bd ?_
              refine wp_of (f2_X13_setSide.eq_1 ..) ?_
              refine wp_bd ?_
              refine wp_of (f_X13_isDeck.eq_1 ..) ?_
              refine wp_bd ?_
              refine wp_of (f_X13_isBetween.eq_1 ..) ?_
              refine wp_ifn qf_38 ?_
              refine wp_ifn qf_104 ?_
              refine wp_of (f_X13_isBetween_15.eq_1 ..) ?_
              refine wp_gd qf_18 ?_
              refine wp_ret_bd ?_
              refine wp_gd qf_18 ?_
              refine wp_ret_bd ?_
              refine wp_ifn qf_19 ?_
              refine wp_gd (Or.inr qf_132) ?_
              refine wp_bd ?_
              refine wp_of (f2_J0_indexOf_0f7a4.eq_1 ..) ?_
              refine wp_gd (Or.inr qf_132) ?_
              refine wp_bd ?_
              refine wp_of (f2_J0_indexOf_7cf53.eq_1 ..) ?_
              refine wp_gd (Or.inr qf_132) ?_
              refine wp_bd ?_
              refine wp_of (f2_J0_isLatin1_aae02.eq_1 ..) ?_
              refine wp_ifn qf_19 ?_
              refine wp_gd (Or.inr qf_132) ?_
              refine wp_lt (ifR qf_133 rfl) ?_
              refine wp_ifp qf_15 ?_
              refine wp_of (f2_J0_isLatin1_aae02_18.eq_1 ..) ?_
              refine wp_gd qf_18 ?_
              refine wp_ret_bd ?_
              refine wp_ifn qf_19 ?_
              refine wp_gd (Or.inr qf_132) ?_
              refine wp_lt (ifR qf_133 qf_134) ?_
              refine wp_gd (Or.inr qf_132) ?_
              refine wp_bd ?_
              refine wp_of (f2_J0_length_8abf5.eq_1 ..) ?_
              refine wp_gd (Or.inr qf_132) ?_
              refine wp_lt (ifR qf_133 qf_134) ?_
              refine wp_gd (Or.inr qf_135) ?_
              refine wp_lt (zbo (zbK qf_136 qf_137) qf_121) ?_
              refine wp_gd (Or.inr qf_132) ?_
              refine wp_bd ?_
              refine wp_of (f2_J0_coder_7d493.eq_1 ..) ?_
              refine wp_ifn qf_19 ?_
              refine wp_gd (Or.inr qf_132) ?_
              refine wp_lt (ifR qf_133 rfl) ?_
              refine wp_of (f2_J0_coder_7d493_14.eq_1 ..) ?_
              refine wp_gd qf_138 ?_
              refine wp_ret_bd ?_
              refine wp_lt qf_139 ?_
              refine wp_ret_bd ?_
              refine wp_bd ?_
              refine wp_of (f2_J1_indexOf_4cfef.eq_1 ..) ?_
              refine wp_bd ?_
              refine wp_of (f_J1_canEncode_9a6ad.eq_1 ..) ?_
              refine wp_ifn (show ¬ (wy2 < (0 : Int32)) from by have e0 := qf_90; have e1 := qf_169; have e2 := qf_170; have e3 := qf_171; have e4 := qf_172; simp only [Int32.lt_iff_toInt_lt, Int32.le_iff_toInt_le, ← Int32.toInt_inj] at hwy2a hwy2b ⊢; omega) ?_
              refine wp_if (fun c6 => ?_) (fun c6 => ?_)
              · skip
                refine wp_of (f_J1_canEncode_9a6ad_15.eq_1 ..) ?_
                refine wp_of (f_J1_canEncode_9a6ad_16.eq_1 ..) ?_
                refine wp_gd qf_14 ?_
                refine wp_ret_bd ?_
                refine wp_ifp qf_15 ?_
                refine wp_ret_bd ?_
                refine wp_of (f2_J0_indexOf_7cf53_36.eq_1 ..) ?_
                refine wp_ret_bd ?_
                refine wp_ret_bd ?_
                refine wp_ifn qf_173 ?_
                refine wp_of (f2_X13_setSide_26.eq_1 ..) ?_
                refine wp_gd ql_K_149 ?_
                refine wp_bd ?_
                refine wp_of (f_X13_isWrong.eq_1 ..) ?_
                refine wp_gd ql_K_149 ?_
                refine wp_zI ?_
                refine wp_ifn qf_110 ?_
                refine wp_of (f_X13_isWrong_14.eq_1 ..) ?_
                refine wp_gd qf_18 ?_
                refine wp_ret_bd ?_
                refine wp_ifn qf_19 ?_
                refine wp_ret_bd ?_
                refine wp_gd ql_K_149 ?_
                refine wp_bd ?_
                refine wp_of (f_X13_thrown.eq_1 ..) ?_
                refine wp_gd ql_K_149 ?_
                refine wp_lt gI_s ?_
                refine wp_ret_bd ?_
                refine wp_ifp qf_111 ?_
                refine wp_ifn qf_112 ?_
                refine wp_of (f_L_law_1910.eq_1 ..) ?_
                refine wp_of (f_L_law_3632.eq_1 ..) ?_
                refine wp_lt qf_21 ?_
                exact hrc _
              · skip
                refine wp_of (f_J1_canEncode_9a6ad_16.eq_1 ..) ?_
                refine wp_gd qf_18 ?_
                refine wp_ret_bd ?_
                refine wp_ifn qf_19 ?_
                refine wp_lt qf_142 ?_
                refine wp_gd (Or.inr qf_135) ?_
                refine wp_lt (zbo (zbK qf_136 qf_137) qf_121) ?_
                refine wp_lt qf_143 ?_
                refine wp_ifp qf_144 ?_
                refine wp_bd ?_
                refine wp_of (f2_J1_indexOfChar_4cfef.eq_1 ..) ?_
                refine wp_ltr ?_
                refine wp_of (f2_J1_indexOfChar_4cfef_7.eq_2 ..) ?_
                refine wp_ifn qf_115 ?_
                refine wp_gd (Or.inr qf_135) ?_
                refine wp_gd (zbi (zbK qf_136 qf_137) qf_122) ?_
                refine wp_lt (ibk qf_32 (ibK qf_136 qf_146)) ?_
                refine wp_ifn (Ne.symm (i2b_ne hwy2a c6 qf_174 c3)) ?_
                refine wp_lt qf_153 ?_
                refine wp_of (f2_J1_indexOfChar_4cfef_7.eq_2 ..) ?_
                refine wp_ifn qf_154 ?_
                refine wp_gd (Or.inr qf_135) ?_
                refine wp_gd (zbi (zbK qf_136 qf_137) qf_125) ?_
                refine wp_lt (ibk qf_36 (ibK qf_136 qf_155)) ?_
                refine wp_ifn (Ne.symm (i2b_ne hwy2a c6 qf_175 c4)) ?_
                refine wp_lt qf_164 ?_
                refine wp_of (f2_J1_indexOfChar_4cfef_7.eq_2 ..) ?_
                refine wp_ifn qf_165 ?_
                refine wp_gd (Or.inr qf_135) ?_
                refine wp_gd (zbi (zbK qf_136 qf_137) qf_127) ?_
                refine wp_lt (ibk qf_41 (ibK qf_136 qf_166)) ?_
                refine wp_ifn (Ne.symm (i2b_ne hwy2a c6 qf_176 c5)) ?_
                refine wp_lt qf_177 ?_
                refine wp_of (f2_J1_indexOfChar_4cfef_7.eq_2 ..) ?_
                refine wp_ifp qf_178 ?_
                refine wp_ret_bd ?_
                refine wp_ret_bd ?_
                refine wp_of (f2_J0_indexOf_7cf53_36.eq_1 ..) ?_
                refine wp_ret_bd ?_
                refine wp_ret_bd ?_
                refine wp_ifn qf_173 ?_
                refine wp_of (f2_X13_setSide_26.eq_1 ..) ?_
                refine wp_gd ql_K_149 ?_
                refine wp_bd ?_
                refine wp_of (f_X13_isWrong.eq_1 ..) ?_
                refine wp_gd ql_K_149 ?_
                refine wp_zI ?_
                refine wp_ifn qf_110 ?_
                refine wp_of (f_X13_isWrong_14.eq_1 ..) ?_
                refine wp_gd qf_18 ?_
                refine wp_ret_bd ?_
                refine wp_ifn qf_19 ?_
                refine wp_ret_bd ?_
                refine wp_gd ql_K_149 ?_
                refine wp_bd ?_
                refine wp_of (f_X13_thrown.eq_1 ..) ?_
                refine wp_gd ql_K_149 ?_
                refine wp_lt gI_s ?_
                refine wp_ret_bd ?_
                refine wp_ifp qf_111 ?_
                refine wp_ifn qf_112 ?_
                refine wp_of (f_L_law_1910.eq_1 ..) ?_
                refine wp_of (f_L_law_3632.eq_1 ..) ?_
                refine wp_lt qf_21 ?_
                exact hrc _
      · skip
        refine wp_gd (gZi ql_Z_16 qf_105) ?_
        refine wp_lt (gRk qf_46 ql_R_16_3) ?_
        refine wp_of (f_X8_deckAt_23.eq_1 ..) ?_
        refine wp_ret_bd ?_
        refine wp_ifn qf_106 ?_
        refine wp_ret_bd ?_
        refine wp_if (fun c3 => ?_) (fun c3 => ?_)
        · skip
          subst c3
          refine wp_of (f_X10_setSide_24.eq_1 ..) ?_
          refine wp_of (f_X10_setSide_29.eq_1 ..) ?_
          refine wp_bd ?_
          refine wp_of (f_X10_demand.eq_1 ..) ?_
          refine wp_ifn qf_19 ?_
          refine wp_ret_bd ?_
          refine wp_gd ql_K_1 ?_
          refine wp_lt ql_R_1_2 ?_
          refine wp_gd ql_K_106 ?_
          refine wp_bd ?_
          refine wp_of (f_X6_note.eq_1 ..) ?_
          refine wp_gd ql_K_106 ?_
          refine wp_bd ?_
          refine wp_of (f_X6_open.eq_1 ..) ?_
          refine wp_gd ql_K_106 ?_
          refine wp_lt ql_I_106_2 ?_
          refine wp_lt qf_25 ?_
          refine wp_zI ?_
          refine wp_lt (Eq.trans (gI_b rfl) ql_I_106_2) ?_
          refine wp_ifn qf_26 ?_
          refine wp_lt (Eq.trans (gI_b rfl) ql_I_106_2) ?_
          refine wp_lt qf_27 ?_
          refine wp_zI ?_
          refine wp_of (f_X6_open_31.eq_1 ..) ?_
          refine wp_gd ql_K_106 ?_
          refine wp_bd ?_
          refine wp_of (f_X6_put.eq_1 ..) ?_
          refine wp_gd ql_K_106 ?_
          refine wp_lt (Eq.trans (gI_b rfl) gI_s) ?_
          refine wp_ifn qf_28 ?_
          refine wp_lt (Eq.trans (gI_b rfl) gI_s) ?_
          refine wp_lt ql_R_106_0 ?_
          refine wp_gd ql_K_107 ?_
          refine wp_lt (gZo ql_Z_107 qf_29) ?_
          refine wp_ifn qf_30 ?_
          refine wp_lt ql_R_106_0 ?_
          refine wp_lt (Eq.trans (gI_b rfl) gI_s) ?_
          refine wp_gd ql_K_107 ?_
          refine wp_gd (gZi ql_Z_107 qf_31) ?_
          refine wp_zIk qf_32 ?_
          refine wp_lt (Eq.trans (gI_a rfl) (Eq.trans (gI_b rfl) gI_s)) ?_
          refine wp_lt qf_27 ?_
          refine wp_zI ?_
          refine wp_of (f_X6_put_39.eq_1 ..) ?_
          refine wp_ret_bd ?_
          refine wp_ret_bd ?_
          refine wp_gd ql_K_106 ?_
          refine wp_bd ?_
          refine wp_of (f_X6_put.eq_1 ..) ?_
          refine wp_gd ql_K_106 ?_
          refine wp_lt gI_s ?_
          refine wp_ifn qf_33 ?_
          refine wp_lt gI_s ?_
          refine wp_lt ql_R_106_0 ?_
          refine wp_gd ql_K_107 ?_
          refine wp_lt (gZo ql_Z_107 qf_29) ?_
          refine wp_ifn qf_34 ?_
          refine wp_lt ql_R_106_0 ?_
          refine wp_lt gI_s ?_
          refine wp_gd ql_K_107 ?_
          refine wp_gd (gZi ql_Z_107 qf_35) ?_
          refine wp_zIk qf_36 ?_
          refine wp_lt (Eq.trans (gI_a rfl) gI_s) ?_
          refine wp_lt qf_37 ?_
          refine wp_zI ?_
          refine wp_of (f_X6_put_39.eq_1 ..) ?_
          refine wp_ret_bd ?_
          refine wp_gd ql_K_106 ?_
          refine wp_bd ?_
          refine wp_of (f_X6_put.eq_1 ..) ?_
          refine wp_gd ql_K_106 ?_
          refine wp_lt gI_s ?_
          refine wp_ifn qf_38 ?_
          refine wp_lt gI_s ?_
          refine wp_lt ql_R_106_0 ?_
          refine wp_gd ql_K_107 ?_
          refine wp_lt (gZo ql_Z_107 qf_29) ?_
          refine wp_ifn qf_39 ?_
          refine wp_lt ql_R_106_0 ?_
          refine wp_lt gI_s ?_
          refine wp_gd ql_K_107 ?_
          refine wp_gd (gZi ql_Z_107 qf_40) ?_
          refine wp_zIk qf_41 ?_
          refine wp_lt (Eq.trans (gI_a rfl) gI_s) ?_
          refine wp_lt qf_42 ?_
          refine wp_zI ?_
          refine wp_of (f_X6_put_39.eq_1 ..) ?_
          refine wp_ret_bd ?_
          refine wp_gd ql_K_106 ?_
          refine wp_bd ?_
          refine wp_of (f_X6_put.eq_1 ..) ?_
          refine wp_gd ql_K_106 ?_
          refine wp_lt gI_s ?_
          refine wp_ifn qf_43 ?_
          refine wp_lt gI_s ?_
          refine wp_lt ql_R_106_0 ?_
          refine wp_gd ql_K_107 ?_
          refine wp_lt (gZo ql_Z_107 qf_29) ?_
          refine wp_ifn qf_44 ?_
          refine wp_lt ql_R_106_0 ?_
          refine wp_lt gI_s ?_
          refine wp_gd ql_K_107 ?_
          refine wp_gd (gZi ql_Z_107 qf_45) ?_
          refine wp_zIk qf_46 ?_
          refine wp_lt (Eq.trans (gI_a rfl) gI_s) ?_
          refine wp_lt qf_47 ?_
          refine wp_zI ?_
          refine wp_of (f_X6_put_39.eq_1 ..) ?_
          refine wp_ret_bd ?_
          refine wp_ret_bd ?_
          refine wp_gd ql_K_41 ?_
          refine wp_lt ql_R_41_0 ?_
          refine wp_gd ql_K_42 ?_
          refine wp_bd ?_
          refine wp_of (f_X0_changeSide.eq_1 ..) ?_
          refine wp_gd ql_K_42 ?_
          refine wp_lt (Eq.trans (gI_a rfl) (Eq.trans (gI_a rfl) (Eq.trans (gI_a rfl) (Eq.trans (gI_a rfl) (Eq.trans (gI_a rfl) (Eq.trans (gI_a rfl) (Eq.trans (gI_a rfl) (Eq.trans (gI_a rfl) (Eq.trans (gI_a rfl) (Eq.trans (gI_a rfl) ql_I_42_4)))))))))) ?_
          refine wp_gd qf_129 ?_
          refine wp_zI ?_
          refine wp_gd qf_130 ?_
          refine wp_ret_bd ?_
          refine wp_gd qf_130 ?_
          refine wp_ret_bdc ?_
          refine wp_lt qf_131 ?_
          refine wp_gd ql_K_173 ?_
          refine wp_gd (gZi ql_Z_173 qf_71) ?_
          refine wp_zLk qf_32 ?_
          refine wp_ret_bd ?_
          refine wp_gd qf_0 ?_
          refine wp_lt (xsk qf_1 hy1) ?_
          refine wp_gd qf_2 ?_
          refine wp_lt (xsk qf_3 hy2) ?_
          refine wp_lt hwy2 ?_
          refine wp_gd ql_K_149 ?_
          refine wp_bd ?_
          refine wp_of (f2_X13_setSide.eq_1 ..) ?_
          refine wp_bd ?_
          refine wp_of (f_X13_isDeck.eq_1 ..) ?_
          refine wp_bd ?_
          refine wp_of (f_X13_isBetween.eq_1 ..) ?_
          refine wp_ifn qf_43 ?_
          refine wp_ifn qf_107 ?_
          refine wp_of (f_X13_isBetween_15.eq_1 ..) ?_
          refine wp_gd qf_18 ?_
          refine wp_ret_bd ?_
          refine wp_gd qf_18 ?_
          refine wp_ret_bd ?_
          refine wp_ifn qf_19 ?_
          refine wp_gd (Or.inr qf_132) ?_
          refine wp_bd ?_
          refine wp_of (f2_J0_indexOf_0f7a4.eq_1 ..) ?_
          refine wp_gd (Or.inr qf_132) ?_
          refine wp_bd ?_
          refine wp_of (f2_J0_indexOf_7cf53.eq_1 ..) ?_
          refine wp_gd (Or.inr qf_132) ?_
          refine wp_bd ?_
          refine wp_of (f2_J0_isLatin1_aae02.eq_1 ..) ?_
          refine wp_ifn qf_19 ?_
          refine wp_gd (Or.inr qf_132) ?_
          refine wp_lt (ifR qf_133 rfl) ?_
          refine wp_ifp qf_15 ?_
          refine wp_of (f2_J0_isLatin1_aae02_18.eq_1 ..) ?_
          refine wp_gd qf_18 ?_
          refine wp_ret_bd ?_
          refine wp_ifn qf_19 ?_
          refine wp_gd (Or.inr qf_132) ?_
          refine wp_lt (ifR qf_133 qf_134) ?_
          refine wp_gd (Or.inr qf_132) ?_
          refine wp_bd ?_
          refine wp_of (f2_J0_length_8abf5.eq_1 ..) ?_
          refine wp_gd (Or.inr qf_132) ?_
          refine wp_lt (ifR qf_133 qf_134) ?_
          refine wp_gd (Or.inr qf_135) ?_
          refine wp_lt (zbo (zbK qf_136 qf_137) qf_121) ?_
          refine wp_gd (Or.inr qf_132) ?_
          refine wp_bd ?_
          refine wp_of (f2_J0_coder_7d493.eq_1 ..) ?_
          refine wp_ifn qf_19 ?_
          refine wp_gd (Or.inr qf_132) ?_
          refine wp_lt (ifR qf_133 rfl) ?_
          refine wp_of (f2_J0_coder_7d493_14.eq_1 ..) ?_
          refine wp_gd qf_138 ?_
          refine wp_ret_bd ?_
          refine wp_lt qf_139 ?_
          refine wp_ret_bd ?_
          refine wp_bd ?_
          refine wp_of (f2_J1_indexOf_4cfef.eq_1 ..) ?_
          refine wp_bd ?_
          refine wp_of (f_J1_canEncode_9a6ad.eq_1 ..) ?_
          refine wp_ifn qf_140 ?_
          refine wp_ifn qf_141 ?_
          refine wp_of (f_J1_canEncode_9a6ad_16.eq_1 ..) ?_
          refine wp_gd qf_18 ?_
          refine wp_ret_bd ?_
          refine wp_ifn qf_19 ?_
          refine wp_lt qf_142 ?_
          refine wp_gd (Or.inr qf_135) ?_
          refine wp_lt (zbo (zbK qf_136 qf_137) qf_121) ?_
          refine wp_lt qf_143 ?_
          refine wp_ifp qf_144 ?_
          refine wp_bd ?_
          refine wp_of (f2_J1_indexOfChar_4cfef.eq_1 ..) ?_
          refine wp_lt qf_145 ?_
          refine wp_of (f2_J1_indexOfChar_4cfef_7.eq_2 ..) ?_
          refine wp_ifn qf_115 ?_
          refine wp_gd (Or.inr qf_135) ?_
          refine wp_gd (zbi (zbK qf_136 qf_137) qf_122) ?_
          refine wp_lt (ibk qf_32 (ibK qf_136 qf_146)) ?_
          refine wp_ifp qf_147 ?_
          refine wp_ret_bd ?_
          refine wp_ret_bd ?_
          refine wp_of (f2_J0_indexOf_7cf53_36.eq_1 ..) ?_
          refine wp_ret_bd ?_
          refine wp_ret_bd ?_
          refine wp_ifp qf_73 ?_
          refine wp_of (f2_X13_setSide_26.eq_1 ..) ?_
          refine wp_gd ql_K_149 ?_
          refine wp_bd ?_
          refine wp_of (f_X13_isWrong.eq_1 ..) ?_
          refine wp_gd ql_K_149 ?_
          refine wp_zI ?_
          refine wp_ifp qf_73 ?_
          refine wp_of (f_X13_isWrong_14.eq_1 ..) ?_
          refine wp_gd qf_14 ?_
          refine wp_ret_bd ?_
          refine wp_ifp qf_15 ?_
          refine wp_gd ql_K_149 ?_
          refine wp_lt ql_R_149_2 ?_
          refine wp_gd ql_K_151 ?_
          refine wp_gd (gZi ql_Z_151 qf_105) ?_
          refine wp_lt (gRk qf_46 ql_R_151_3) ?_
          refine wp_gd ql_K_164 ?_
          refine wp_lt (Eq.trans (gI_a rfl) (Eq.trans (gI_a rfl) (Eq.trans (gI_a rfl) (Eq.trans (gI_a rfl) (Eq.trans (gI_a rfl) (Eq.trans (gI_a rfl) (Eq.trans (gI_a rfl) (Eq.trans (gI_a rfl) (Eq.trans (gI_a rfl) (Eq.trans (gI_a rfl) (Eq.trans (gI_a rfl) (Eq.trans (gI_a rfl) ql_I_164_15)))))))))))) ?_
          refine wp_lt ql_R_149_2 ?_
          refine wp_gd ql_K_151 ?_
          refine wp_gd (gZi ql_Z_151 qf_105) ?_
          refine wp_lt (gRk qf_46 ql_R_151_3) ?_
          refine wp_gd ql_K_164 ?_
          refine wp_gd qf_129 ?_
          refine wp_zI ?_
          refine wp_bd ?_
          refine wp_of (f_X13_logs.eq_1 ..) ?_
          refine wp_gd ql_K_149 ?_
          refine wp_lt (Eq.trans (gI_a rfl) (Eq.trans (gI_b rfl) (Eq.trans (gI_a rfl) (Eq.trans (gI_a rfl) (Eq.trans (gI_a rfl) (Eq.trans (gI_a rfl) (Eq.trans (gI_a rfl) (Eq.trans (gI_a rfl) (Eq.trans (gI_a rfl) (Eq.trans (gI_a rfl) (Eq.trans (gI_a rfl) (Eq.trans (gI_a rfl) (Eq.trans (gI_a rfl) ql_I_149_16))))))))))))) ?_
          refine wp_lt qf_27 ?_
          refine wp_zI ?_
          refine wp_ret_bd ?_
          refine wp_gd qf_130 ?_
          refine wp_ret_bd ?_
          refine wp_gd ql_K_149 ?_
          refine wp_bd ?_
          refine wp_of (f_X13_thrown.eq_1 ..) ?_
          refine wp_gd ql_K_149 ?_
          refine wp_lt (Eq.trans (gI_b rfl) (Eq.trans (gI_a rfl) gI_s)) ?_
          refine wp_ret_bd ?_
          refine wp_ifp qf_15 ?_
          refine wp_ifp qf_15 ?_
          refine wp_gd ql_K_173 ?_
          refine wp_gd (gZi ql_Z_173 qf_71) ?_
          refine wp_lt (gLk qf_32 gL_s) ?_
          refine wp_lt qf_131 ?_
          refine wp_lt qf_148 ?_
          refine wp_ifp qf_15 ?_
          refine wp_of (f_L_law_1910.eq_1 ..) ?_
          refine wp_of (f_L_law_3632.eq_1 ..) ?_
          refine wp_lt qf_21 ?_
          exact hrc _
        · skip
          refine wp_if (fun c4 => ?_) (fun c4 => ?_)
          · skip
            subst c4
            refine wp_of (f_X10_setSide_24.eq_1 ..) ?_
            refine wp_of (f_X10_setSide_29.eq_1 ..) ?_
            refine wp_bd ?_
            refine wp_of (f_X10_demand.eq_1 ..) ?_
            refine wp_ifn qf_19 ?_
            refine wp_ret_bd ?_
            refine wp_gd ql_K_1 ?_
            refine wp_lt ql_R_1_2 ?_
            refine wp_gd ql_K_106 ?_
            refine wp_bd ?_
            refine wp_of (f_X6_note.eq_1 ..) ?_
            refine wp_gd ql_K_106 ?_
            refine wp_bd ?_
            refine wp_of (f_X6_open.eq_1 ..) ?_
            refine wp_gd ql_K_106 ?_
            refine wp_lt ql_I_106_2 ?_
            refine wp_lt qf_25 ?_
            refine wp_zI ?_
            refine wp_lt (Eq.trans (gI_b rfl) ql_I_106_2) ?_
            refine wp_ifn qf_26 ?_
            refine wp_lt (Eq.trans (gI_b rfl) ql_I_106_2) ?_
            refine wp_lt qf_27 ?_
            refine wp_zI ?_
            refine wp_of (f_X6_open_31.eq_1 ..) ?_
            refine wp_gd ql_K_106 ?_
            refine wp_bd ?_
            refine wp_of (f_X6_put.eq_1 ..) ?_
            refine wp_gd ql_K_106 ?_
            refine wp_lt (Eq.trans (gI_b rfl) gI_s) ?_
            refine wp_ifn qf_28 ?_
            refine wp_lt (Eq.trans (gI_b rfl) gI_s) ?_
            refine wp_lt ql_R_106_0 ?_
            refine wp_gd ql_K_107 ?_
            refine wp_lt (gZo ql_Z_107 qf_29) ?_
            refine wp_ifn qf_30 ?_
            refine wp_lt ql_R_106_0 ?_
            refine wp_lt (Eq.trans (gI_b rfl) gI_s) ?_
            refine wp_gd ql_K_107 ?_
            refine wp_gd (gZi ql_Z_107 qf_31) ?_
            refine wp_zIk qf_32 ?_
            refine wp_lt (Eq.trans (gI_a rfl) (Eq.trans (gI_b rfl) gI_s)) ?_
            refine wp_lt qf_27 ?_
            refine wp_zI ?_
            refine wp_of (f_X6_put_39.eq_1 ..) ?_
            refine wp_ret_bd ?_
            refine wp_ret_bd ?_
            refine wp_gd ql_K_106 ?_
            refine wp_bd ?_
            refine wp_of (f_X6_put.eq_1 ..) ?_
            refine wp_gd ql_K_106 ?_
            refine wp_lt gI_s ?_
            refine wp_ifn qf_33 ?_
            refine wp_lt gI_s ?_
            refine wp_lt ql_R_106_0 ?_
            refine wp_gd ql_K_107 ?_
            refine wp_lt (gZo ql_Z_107 qf_29) ?_
            refine wp_ifn qf_34 ?_
            refine wp_lt ql_R_106_0 ?_
            refine wp_lt gI_s ?_
            refine wp_gd ql_K_107 ?_
            refine wp_gd (gZi ql_Z_107 qf_35) ?_
            refine wp_zIk qf_36 ?_
            refine wp_lt (Eq.trans (gI_a rfl) gI_s) ?_
            refine wp_lt qf_37 ?_
            refine wp_zI ?_
            refine wp_of (f_X6_put_39.eq_1 ..) ?_
            refine wp_ret_bd ?_
            refine wp_gd ql_K_106 ?_
            refine wp_bd ?_
            refine wp_of (f_X6_put.eq_1 ..) ?_
            refine wp_gd ql_K_106 ?_
            refine wp_lt gI_s ?_
            refine wp_ifn qf_38 ?_
            refine wp_lt gI_s ?_
            refine wp_lt ql_R_106_0 ?_
            refine wp_gd ql_K_107 ?_
            refine wp_lt (gZo ql_Z_107 qf_29) ?_
            refine wp_ifn qf_39 ?_
            refine wp_lt ql_R_106_0 ?_
            refine wp_lt gI_s ?_
            refine wp_gd ql_K_107 ?_
            refine wp_gd (gZi ql_Z_107 qf_40) ?_
            refine wp_zIk qf_41 ?_
            refine wp_lt (Eq.trans (gI_a rfl) gI_s) ?_
            refine wp_lt qf_42 ?_
            refine wp_zI ?_
            refine wp_of (f_X6_put_39.eq_1 ..) ?_
            refine wp_ret_bd ?_
            refine wp_gd ql_K_106 ?_
            refine wp_bd ?_
            refine wp_of (f_X6_put.eq_1 ..) ?_
            refine wp_gd ql_K_106 ?_
            refine wp_lt gI_s ?_
            refine wp_ifn qf_43 ?_
            refine wp_lt gI_s ?_
            refine wp_lt ql_R_106_0 ?_
            refine wp_gd ql_K_107 ?_
            refine wp_lt (gZo ql_Z_107 qf_29) ?_
            refine wp_ifn qf_44 ?_
            refine wp_lt ql_R_106_0 ?_
            refine wp_lt gI_s ?_
            refine wp_gd ql_K_107 ?_
            refine wp_gd (gZi ql_Z_107 qf_45) ?_
            refine wp_zIk qf_46 ?_
            refine wp_lt (Eq.trans (gI_a rfl) gI_s) ?_
            refine wp_lt qf_47 ?_
            refine wp_zI ?_
            refine wp_of (f_X6_put_39.eq_1 ..) ?_
            refine wp_ret_bd ?_
            refine wp_ret_bd ?_
            refine wp_gd ql_K_41 ?_
            refine wp_lt ql_R_41_0 ?_
            refine wp_gd ql_K_42 ?_
            refine wp_bd ?_
            refine wp_of (f_X0_changeSide.eq_1 ..) ?_
            refine wp_gd ql_K_42 ?_
            refine wp_lt (Eq.trans (gI_a rfl) (Eq.trans (gI_a rfl) (Eq.trans (gI_a rfl) (Eq.trans (gI_a rfl) (Eq.trans (gI_a rfl) (Eq.trans (gI_a rfl) (Eq.trans (gI_a rfl) (Eq.trans (gI_a rfl) (Eq.trans (gI_a rfl) (Eq.trans (gI_a rfl) ql_I_42_4)))))))))) ?_
            refine wp_gd qf_130 ?_
            refine wp_zI ?_
            refine wp_gd qf_130 ?_
            refine wp_ret_bd ?_
            refine wp_gd qf_130 ?_
            refine wp_ret_bdc ?_
            refine wp_lt qf_131 ?_
            refine wp_gd ql_K_173 ?_
            refine wp_gd (gZi ql_Z_173 qf_71) ?_
            refine wp_zLk qf_32 ?_
            refine wp_ret_bd ?_
            refine wp_gd qf_0 ?_
            refine wp_lt (xsk qf_1 hy1) ?_
            refine wp_gd qf_2 ?_
            refine wp_lt (xsk qf_3 hy2) ?_
            refine wp_lt hwy2 ?_
            refine wp_gd ql_K_149 ?_
            refine wp_bd ?_
            refine wp_of (f2_X13_setSide.eq_1 ..) ?_
            refine wp_bd ?_
            refine wp_of (f_X13_isDeck.eq_1 ..) ?_
            refine wp_bd ?_
            refine wp_of (f_X13_isBetween.eq_1 ..) ?_
            refine wp_ifn qf_43 ?_
            refine wp_ifn qf_107 ?_
            refine wp_of (f_X13_isBetween_15.eq_1 ..) ?_
            refine wp_gd qf_18 ?_
            refine wp_ret_bd ?_
            refine wp_gd qf_18 ?_
            refine wp_ret_bd ?_
            refine wp_ifn qf_19 ?_
            refine wp_gd (Or.inr qf_132) ?_
            refine wp_bd ?_
            refine wp_of (f2_J0_indexOf_0f7a4.eq_1 ..) ?_
            refine wp_gd (Or.inr qf_132) ?_
            refine wp_bd ?_
            refine wp_of (f2_J0_indexOf_7cf53.eq_1 ..) ?_
            refine wp_gd (Or.inr qf_132) ?_
            refine wp_bd ?_
            refine wp_of (f2_J0_isLatin1_aae02.eq_1 ..) ?_
            refine wp_ifn qf_19 ?_
            refine wp_gd (Or.inr qf_132) ?_
            refine wp_lt (ifR qf_133 rfl) ?_
            refine wp_ifp qf_15 ?_
            refine wp_of (f2_J0_isLatin1_aae02_18.eq_1 ..) ?_
            refine wp_gd qf_18 ?_
            refine wp_ret_bd ?_
            refine wp_ifn qf_19 ?_
            refine wp_gd (Or.inr qf_132) ?_
            refine wp_lt (ifR qf_133 qf_134) ?_
            refine wp_gd (Or.inr qf_132) ?_
            refine wp_bd ?_
            refine wp_of (f2_J0_length_8abf5.eq_1 ..) ?_
            refine wp_gd (Or.inr qf_132) ?_
            refine wp_lt (ifR qf_133 qf_134) ?_
            refine wp_gd (Or.inr qf_135) ?_
            refine wp_lt (zbo (zbK qf_136 qf_137) qf_121) ?_
            refine wp_gd (Or.inr qf_132) ?_
            refine wp_bd ?_
            refine wp_of (f2_J0_coder_7d493.eq_1 ..) ?_
            refine wp_ifn qf_19 ?_
            refine wp_gd (Or.inr qf_132) ?_
            refine wp_lt (ifR qf_133 rfl) ?_
            refine wp_of (f2_J0_coder_7d493_14.eq_1 ..) ?_
            refine wp_gd qf_138 ?_
            refine wp_ret_bd ?_
            refine wp_lt qf_139 ?_
            refine wp_ret_bd ?_
            refine wp_bd ?_
            refine wp_of (f2_J1_indexOf_4cfef.eq_1 ..) ?_
            refine wp_bd ?_
            refine wp_of (f_J1_canEncode_9a6ad.eq_1 ..) ?_
            refine wp_ifn qf_149 ?_
            refine wp_ifn qf_150 ?_
            refine wp_of (f_J1_canEncode_9a6ad_16.eq_1 ..) ?_
            refine wp_gd qf_18 ?_
            refine wp_ret_bd ?_
            refine wp_ifn qf_19 ?_
            refine wp_lt qf_142 ?_
            refine wp_gd (Or.inr qf_135) ?_
            refine wp_lt (zbo (zbK qf_136 qf_137) qf_121) ?_
            refine wp_lt qf_143 ?_
            refine wp_ifp qf_144 ?_
            refine wp_bd ?_
            refine wp_of (f2_J1_indexOfChar_4cfef.eq_1 ..) ?_
            refine wp_lt qf_151 ?_
            refine wp_of (f2_J1_indexOfChar_4cfef_7.eq_2 ..) ?_
            refine wp_ifn qf_115 ?_
            refine wp_gd (Or.inr qf_135) ?_
            refine wp_gd (zbi (zbK qf_136 qf_137) qf_122) ?_
            refine wp_lt (ibk qf_32 (ibK qf_136 qf_146)) ?_
            refine wp_ifn qf_152 ?_
            refine wp_lt qf_153 ?_
            refine wp_of (f2_J1_indexOfChar_4cfef_7.eq_2 ..) ?_
            refine wp_ifn qf_154 ?_
            refine wp_gd (Or.inr qf_135) ?_
            refine wp_gd (zbi (zbK qf_136 qf_137) qf_125) ?_
            refine wp_lt (ibk qf_36 (ibK qf_136 qf_155)) ?_
            refine wp_ifp qf_156 ?_
            refine wp_ret_bd ?_
            refine wp_ret_bd ?_
            refine wp_of (f2_J0_indexOf_7cf53_36.eq_1 ..) ?_
            refine wp_ret_bd ?_
            refine wp_ret_bd ?_
            refine wp_ifp qf_157 ?_
            refine wp_of (f2_X13_setSide_26.eq_1 ..) ?_
            refine wp_gd ql_K_149 ?_
            refine wp_bd ?_
            refine wp_of (f_X13_isWrong.eq_1 ..) ?_
            refine wp_gd ql_K_149 ?_
            refine wp_zI ?_
            refine wp_ifp qf_73 ?_
            refine wp_of (f_X13_isWrong_14.eq_1 ..) ?_
            refine wp_gd qf_14 ?_
            refine wp_ret_bd ?_
            refine wp_ifp qf_15 ?_
            refine wp_gd ql_K_149 ?_
            refine wp_lt ql_R_149_2 ?_
            refine wp_gd ql_K_151 ?_
            refine wp_gd (gZi ql_Z_151 qf_105) ?_
            refine wp_lt (gRk qf_46 ql_R_151_3) ?_
            refine wp_gd ql_K_164 ?_
            refine wp_lt (Eq.trans (gI_a rfl) (Eq.trans (gI_a rfl) (Eq.trans (gI_a rfl) (Eq.trans (gI_a rfl) (Eq.trans (gI_a rfl) (Eq.trans (gI_a rfl) (Eq.trans (gI_a rfl) (Eq.trans (gI_a rfl) (Eq.trans (gI_a rfl) (Eq.trans (gI_a rfl) (Eq.trans (gI_a rfl) (Eq.trans (gI_a rfl) ql_I_164_15)))))))))))) ?_
            refine wp_lt ql_R_149_2 ?_
            refine wp_gd ql_K_151 ?_
            refine wp_gd (gZi ql_Z_151 qf_105) ?_
            refine wp_lt (gRk qf_46 ql_R_151_3) ?_
            refine wp_gd ql_K_164 ?_
            refine wp_gd qf_130 ?_
            refine wp_zI ?_
            refine wp_bd ?_
            refine wp_of (f_X13_logs.eq_1 ..) ?_
            refine wp_gd ql_K_149 ?_
            refine wp_lt (Eq.trans (gI_a rfl) (Eq.trans (gI_b rfl) (Eq.trans (gI_a rfl) (Eq.trans (gI_a rfl) (Eq.trans (gI_a rfl) (Eq.trans (gI_a rfl) (Eq.trans (gI_a rfl) (Eq.trans (gI_a rfl) (Eq.trans (gI_a rfl) (Eq.trans (gI_a rfl) (Eq.trans (gI_a rfl) (Eq.trans (gI_a rfl) (Eq.trans (gI_a rfl) ql_I_149_16))))))))))))) ?_
            refine wp_lt qf_27 ?_
            refine wp_zI ?_
            refine wp_ret_bd ?_
            refine wp_gd qf_130 ?_
            refine wp_ret_bd ?_
            refine wp_gd ql_K_149 ?_
            refine wp_bd ?_
            refine wp_of (f_X13_thrown.eq_1 ..) ?_
            refine wp_gd ql_K_149 ?_
            refine wp_lt (Eq.trans (gI_b rfl) (Eq.trans (gI_a rfl) gI_s)) ?_
            refine wp_ret_bd ?_
            refine wp_ifp qf_15 ?_
            refine wp_ifp qf_15 ?_
            refine wp_gd ql_K_173 ?_
            refine wp_gd (gZi ql_Z_173 qf_71) ?_
            refine wp_lt (gLk qf_32 gL_s) ?_
            refine wp_lt qf_131 ?_
            refine wp_lt qf_148 ?_
            refine wp_ifp qf_15 ?_
            refine wp_of (f_L_law_1910.eq_1 ..) ?_
            refine wp_of (f_L_law_3632.eq_1 ..) ?_
            refine wp_lt qf_21 ?_
            exact hrc _
          · skip
            refine wp_if (fun c5 => ?_) (fun c5 => ?_)
            · skip
              subst c5
              refine wp_of (f_X10_setSide_24.eq_1 ..) ?_
              refine wp_of (f_X10_setSide_29.eq_1 ..) ?_
              refine wp_bd ?_
              refine wp_of (f_X10_demand.eq_1 ..) ?_
              refine wp_ifn qf_19 ?_
              refine wp_ret_bd ?_
              refine wp_gd ql_K_1 ?_
              refine wp_lt ql_R_1_2 ?_
              refine wp_gd ql_K_106 ?_
              refine wp_bd ?_
              refine wp_of (f_X6_note.eq_1 ..) ?_
              refine wp_gd ql_K_106 ?_
              refine wp_bd ?_
              refine wp_of (f_X6_open.eq_1 ..) ?_
              refine wp_gd ql_K_106 ?_
              refine wp_lt ql_I_106_2 ?_
              refine wp_lt qf_25 ?_
              refine wp_zI ?_
              refine wp_lt (Eq.trans (gI_b rfl) ql_I_106_2) ?_
              refine wp_ifn qf_26 ?_
              refine wp_lt (Eq.trans (gI_b rfl) ql_I_106_2) ?_
              refine wp_lt qf_27 ?_
              refine wp_zI ?_
              refine wp_of (f_X6_open_31.eq_1 ..) ?_
              refine wp_gd ql_K_106 ?_
              refine wp_bd ?_
              refine wp_of (f_X6_put.eq_1 ..) ?_
              refine wp_gd ql_K_106 ?_
              refine wp_lt (Eq.trans (gI_b rfl) gI_s) ?_
              refine wp_ifn qf_28 ?_
              refine wp_lt (Eq.trans (gI_b rfl) gI_s) ?_
              refine wp_lt ql_R_106_0 ?_
              refine wp_gd ql_K_107 ?_
              refine wp_lt (gZo ql_Z_107 qf_29) ?_
              refine wp_ifn qf_30 ?_
              refine wp_lt ql_R_106_0 ?_
              refine wp_lt (Eq.trans (gI_b rfl) gI_s) ?_
              refine wp_gd ql_K_107 ?_
              refine wp_gd (gZi ql_Z_107 qf_31) ?_
              refine wp_zIk qf_32 ?_
              refine wp_lt (Eq.trans (gI_a rfl) (Eq.trans (gI_b rfl) gI_s)) ?_
              refine wp_lt qf_27 ?_
              refine wp_zI ?_
              refine wp_of (f_X6_put_39.eq_1 ..) ?_
              refine wp_ret_bd ?_
              refine wp_ret_bd ?_
              refine wp_gd ql_K_106 ?_
              refine wp_bd ?_
              refine wp_of (f_X6_put.eq_1 ..) ?_
              refine wp_gd ql_K_106 ?_
              refine wp_lt gI_s ?_
              refine wp_ifn qf_33 ?_
              refine wp_lt gI_s ?_
              refine wp_lt ql_R_106_0 ?_
              refine wp_gd ql_K_107 ?_
              refine wp_lt (gZo ql_Z_107 qf_29) ?_
              refine wp_ifn qf_34 ?_
              refine wp_lt ql_R_106_0 ?_
              refine wp_lt gI_s ?_
              refine wp_gd ql_K_107 ?_
              refine wp_gd (gZi ql_Z_107 qf_35) ?_
              refine wp_zIk qf_36 ?_
              refine wp_lt (Eq.trans (gI_a rfl) gI_s) ?_
              refine wp_lt qf_37 ?_
              refine wp_zI ?_
              refine wp_of (f_X6_put_39.eq_1 ..) ?_
              refine wp_ret_bd ?_
              refine wp_gd ql_K_106 ?_
              refine wp_bd ?_
              refine wp_of (f_X6_put.eq_1 ..) ?_
              refine wp_gd ql_K_106 ?_
              refine wp_lt gI_s ?_
              refine wp_ifn qf_38 ?_
              refine wp_lt gI_s ?_
              refine wp_lt ql_R_106_0 ?_
              refine wp_gd ql_K_107 ?_
              refine wp_lt (gZo ql_Z_107 qf_29) ?_
              refine wp_ifn qf_39 ?_
              refine wp_lt ql_R_106_0 ?_
              refine wp_lt gI_s ?_
              refine wp_gd ql_K_107 ?_
              refine wp_gd (gZi ql_Z_107 qf_40) ?_
              refine wp_zIk qf_41 ?_
              refine wp_lt (Eq.trans (gI_a rfl) gI_s) ?_
              refine wp_lt qf_42 ?_
              refine wp_zI ?_
              refine wp_of (f_X6_put_39.eq_1 ..) ?_
              refine wp_ret_bd ?_
              refine wp_gd ql_K_106 ?_
              refine wp_bd ?_
              refine wp_of (f_X6_put.eq_1 ..) ?_
              refine wp_gd ql_K_106 ?_
              refine wp_lt gI_s ?_
              refine wp_ifn qf_43 ?_
              refine wp_lt gI_s ?_
              refine wp_lt ql_R_106_0 ?_
              refine wp_gd ql_K_107 ?_
              refine wp_lt (gZo ql_Z_107 qf_29) ?_
              refine wp_ifn qf_44 ?_
              refine wp_lt ql_R_106_0 ?_
              refine wp_lt gI_s ?_
              refine wp_gd ql_K_107 ?_
              refine wp_gd (gZi ql_Z_107 qf_45) ?_
              refine wp_zIk qf_46 ?_
              refine wp_lt (Eq.trans (gI_a rfl) gI_s) ?_
              refine wp_lt qf_47 ?_
              refine wp_zI ?_
              refine wp_of (f_X6_put_39.eq_1 ..) ?_
              refine wp_ret_bd ?_
              refine wp_ret_bd ?_
              refine wp_gd ql_K_41 ?_
              refine wp_lt ql_R_41_0 ?_
              refine wp_gd ql_K_42 ?_
              refine wp_bd ?_
              refine wp_of (f_X0_changeSide.eq_1 ..) ?_
              refine wp_gd ql_K_42 ?_
              refine wp_lt (Eq.trans (gI_a rfl) (Eq.trans (gI_a rfl) (Eq.trans (gI_a rfl) (Eq.trans (gI_a rfl) (Eq.trans (gI_a rfl) (Eq.trans (gI_a rfl) (Eq.trans (gI_a rfl) (Eq.trans (gI_a rfl) (Eq.trans (gI_a rfl) (Eq.trans (gI_a rfl) ql_I_42_4)))))))))) ?_
              refine wp_gd qf_158 ?_
              refine wp_zI ?_
              refine wp_gd qf_130 ?_
              refine wp_ret_bd ?_
              refine wp_gd qf_130 ?_
              refine wp_ret_bdc ?_
              refine wp_lt qf_131 ?_
              refine wp_gd ql_K_173 ?_
              refine wp_gd (gZi ql_Z_173 qf_71) ?_
              refine wp_zLk qf_32 ?_
              refine wp_ret_bd ?_
              refine wp_gd qf_0 ?_
              refine wp_lt (xsk qf_1 hy1) ?_
              refine wp_gd qf_2 ?_
              refine wp_lt (xsk qf_3 hy2) ?_
              refine wp_lt hwy2 ?_
              refine wp_gd ql_K_149 ?_
              refine wp_bd ?_
              refine wp_of (f2_X13_setSide.eq_1 ..) ?_
              refine wp_bd ?_
              refine wp_of (f_X13_isDeck.eq_1 ..) ?_
              refine wp_bd ?_
              refine wp_of (f_X13_isBetween.eq_1 ..) ?_
              refine wp_ifn qf_43 ?_
              refine wp_ifn qf_107 ?_
              refine wp_of (f_X13_isBetween_15.eq_1 ..) ?_
              refine wp_gd qf_18 ?_
              refine wp_ret_bd ?_
              refine wp_gd qf_18 ?_
              refine wp_ret_bd ?_
              refine wp_ifn qf_19 ?_
              refine wp_gd (Or.inr qf_132) ?_
              refine wp_bd ?_
              refine wp_of (f2_J0_indexOf_0f7a4.eq_1 ..) ?_
              refine wp_gd (Or.inr qf_132) ?_
              refine wp_bd ?_
              refine wp_of (f2_J0_indexOf_7cf53.eq_1 ..) ?_
              refine wp_gd (Or.inr qf_132) ?_
              refine wp_bd ?_
              refine wp_of (f2_J0_isLatin1_aae02.eq_1 ..) ?_
              refine wp_ifn qf_19 ?_
              refine wp_gd (Or.inr qf_132) ?_
              refine wp_lt (ifR qf_133 rfl) ?_
              refine wp_ifp qf_15 ?_
              refine wp_of (f2_J0_isLatin1_aae02_18.eq_1 ..) ?_
              refine wp_gd qf_18 ?_
              refine wp_ret_bd ?_
              refine wp_ifn qf_19 ?_
              refine wp_gd (Or.inr qf_132) ?_
              refine wp_lt (ifR qf_133 qf_134) ?_
              refine wp_gd (Or.inr qf_132) ?_
              refine wp_bd ?_
              refine wp_of (f2_J0_length_8abf5.eq_1 ..) ?_
              refine wp_gd (Or.inr qf_132) ?_
              refine wp_lt (ifR qf_133 qf_134) ?_
              refine wp_gd (Or.inr qf_135) ?_
              refine wp_lt (zbo (zbK qf_136 qf_137) qf_121) ?_
              refine wp_gd (Or.inr qf_132) ?_
              refine wp_bd ?_
              refine wp_of (f2_J0_coder_7d493.eq_1 ..) ?_
              refine wp_ifn qf_19 ?_
              refine wp_gd (Or.inr qf_132) ?_
              refine wp_lt (ifR qf_133 rfl) ?_
              refine wp_of (f2_J0_coder_7d493_14.eq_1 ..) ?_
              refine wp_gd qf_138 ?_
              refine wp_ret_bd ?_
              refine wp_lt qf_139 ?_
              refine wp_ret_bd ?_
              refine wp_bd ?_
              refine wp_of (f2_J1_indexOf_4cfef.eq_1 ..) ?_
              refine wp_bd ?_
              refine wp_of (f_J1_canEncode_9a6ad.eq_1 ..) ?_
              refine wp_ifn qf_159 ?_
              refine wp_ifn qf_160 ?_
              refine wp_of (f_J1_canEncode_9a6ad_16.eq_1 ..) ?_
              refine wp_gd qf_18 ?_
              refine wp_ret_bd ?_
              refine wp_ifn qf_19 ?_
              refine wp_lt qf_142 ?_
              refine wp_gd (Or.inr qf_135) ?_
              refine wp_lt (zbo (zbK qf_136 qf_137) qf_121) ?_
              refine wp_lt qf_143 ?_
              refine wp_ifp qf_144 ?_
              refine wp_bd ?_
              refine wp_of (f2_J1_indexOfChar_4cfef.eq_1 ..) ?_
              refine wp_lt qf_161 ?_
              refine wp_of (f2_J1_indexOfChar_4cfef_7.eq_2 ..) ?_
              refine wp_ifn qf_115 ?_
              refine wp_gd (Or.inr qf_135) ?_
              refine wp_gd (zbi (zbK qf_136 qf_137) qf_122) ?_
              refine wp_lt (ibk qf_32 (ibK qf_136 qf_146)) ?_
              refine wp_ifn qf_162 ?_
              refine wp_lt qf_153 ?_
              refine wp_of (f2_J1_indexOfChar_4cfef_7.eq_2 ..) ?_
              refine wp_ifn qf_154 ?_
              refine wp_gd (Or.inr qf_135) ?_
              refine wp_gd (zbi (zbK qf_136 qf_137) qf_125) ?_
              refine wp_lt (ibk qf_36 (ibK qf_136 qf_155)) ?_
              refine wp_ifn qf_163 ?_
              refine wp_lt qf_164 ?_
              refine wp_of (f2_J1_indexOfChar_4cfef_7.eq_2 ..) ?_
              refine wp_ifn qf_165 ?_
              refine wp_gd (Or.inr qf_135) ?_
              refine wp_gd (zbi (zbK qf_136 qf_137) qf_127) ?_
              refine wp_lt (ibk qf_41 (ibK qf_136 qf_166)) ?_
              refine wp_ifp qf_167 ?_
              refine wp_ret_bd ?_
              refine wp_ret_bd ?_
              refine wp_of (f2_J0_indexOf_7cf53_36.eq_1 ..) ?_
              refine wp_ret_bd ?_
              refine wp_ret_bd ?_
              refine wp_ifp qf_168 ?_
              refine wp_of (f2_X13_setSide_26.eq_1 ..) ?_
              refine wp_gd ql_K_149 ?_
              refine wp_bd ?_
              refine wp_of (f_X13_isWrong.eq_1 ..) ?_
              refine wp_gd ql_K_149 ?_
              refine wp_zI ?_
              refine wp_ifp qf_73 ?_
              refine wp_of (f_X13_isWrong_14.eq_1 ..) ?_
              refine wp_gd qf_14 ?_
              refine wp_ret_bd ?_
              refine wp_ifp qf_15 ?_
              refine wp_gd ql_K_149 ?_
              refine wp_lt ql_R_149_2 ?_
              refine wp_gd ql_K_151 ?_
              refine wp_gd (gZi ql_Z_151 qf_105) ?_
              refine wp_lt (gRk qf_46 ql_R_151_3) ?_
              refine wp_gd ql_K_164 ?_
              refine wp_lt (Eq.trans (gI_a rfl) (Eq.trans (gI_a rfl) (Eq.trans (gI_a rfl) (Eq.trans (gI_a rfl) (Eq.trans (gI_a rfl) (Eq.trans (gI_a rfl) (Eq.trans (gI_a rfl) (Eq.trans (gI_a rfl) (Eq.trans (gI_a rfl) (Eq.trans (gI_a rfl) (Eq.trans (gI_a rfl) (Eq.trans (gI_a rfl) ql_I_164_15)))))))))))) ?_
              refine wp_lt ql_R_149_2 ?_
              refine wp_gd ql_K_151 ?_
              refine wp_gd (gZi ql_Z_151 qf_105) ?_
              refine wp_lt (gRk qf_46 ql_R_151_3) ?_
              refine wp_gd ql_K_164 ?_
              refine wp_gd qf_158 ?_
              refine wp_zI ?_
              refine wp_bd ?_
              refine wp_of (f_X13_logs.eq_1 ..) ?_
              refine wp_gd ql_K_149 ?_
              refine wp_lt (Eq.trans (gI_a rfl) (Eq.trans (gI_b rfl) (Eq.trans (gI_a rfl) (Eq.trans (gI_a rfl) (Eq.trans (gI_a rfl) (Eq.trans (gI_a rfl) (Eq.trans (gI_a rfl) (Eq.trans (gI_a rfl) (Eq.trans (gI_a rfl) (Eq.trans (gI_a rfl) (Eq.trans (gI_a rfl) (Eq.trans (gI_a rfl) (Eq.trans (gI_a rfl) ql_I_149_16))))))))))))) ?_
              refine wp_lt qf_27 ?_
              refine wp_zI ?_
              refine wp_ret_bd ?_
              refine wp_gd qf_130 ?_
              refine wp_ret_bd ?_
              refine wp_gd ql_K_149 ?_
              refine wp_bd ?_
              refine wp_of (f_X13_thrown.eq_1 ..) ?_
              refine wp_gd ql_K_149 ?_
              refine wp_lt (Eq.trans (gI_b rfl) (Eq.trans (gI_a rfl) gI_s)) ?_
              refine wp_ret_bd ?_
              refine wp_ifp qf_15 ?_
              refine wp_ifp qf_15 ?_
              refine wp_gd ql_K_173 ?_
              refine wp_gd (gZi ql_Z_173 qf_71) ?_
              refine wp_lt (gLk qf_32 gL_s) ?_
              refine wp_lt qf_131 ?_
              refine wp_lt qf_148 ?_
              refine wp_ifp qf_15 ?_
              refine wp_of (f_L_law_1910.eq_1 ..) ?_
              refine wp_of (f_L_law_3632.eq_1 ..) ?_
              refine wp_lt qf_21 ?_
              exact hrc _
            · skip
              refine wp_of (f_X10_setSide_29.eq_1 ..) ?_
              refine wp_bd ?_
              refine wp_of (f_X10_demand.eq_1 ..) ?_
              refine wp_ifp qf_15 ?_
              refine wp_rs_bd ?_
              refine wp_rs_bdc ?_
              refine wp_ifn qf_113 ?_
              refine wp_ifp qf_16 ?_
              refine wp_ret_bd ?_
              refine wp_gd qf_0 ?_
              refine wp_lt (xsk qf_1 hy1) ?_
              refine wp_gd qf_2 ?_
              refine wp_lt (xsk qf_3 hy2) ?_
              refine wp_lt hwy2 ?_
              refine wp_gd ql_K_149 ?_
              refine wp_bd ?_
              refine wp_of (f2_X13_setSide.eq_1 ..) ?_
              refine wp_bd ?_
              refine wp_of (f_X13_isDeck.eq_1 ..) ?_
              refine wp_bd ?_
              refine wp_of (f_X13_isBetween.eq_1 ..) ?_
              refine wp_ifn qf_43 ?_
              refine wp_ifn qf_107 ?_
              refine wp_of (f_X13_isBetween_15.eq_1 ..) ?_
              refine wp_gd qf_18 ?_
              refine wp_ret_bd ?_
              refine wp_gd qf_18 ?_
              refine wp_ret_bd ?_
              refine wp_ifn qf_19 ?_
              refine wp_gd (Or.inr qf_132) ?_
              refine wp_bd ?_
              refine wp_of (f2_J0_indexOf_0f7a4.eq_1 ..) ?_
              refine wp_gd (Or.inr qf_132) ?_
              refine wp_bd ?_
              refine wp_of (f2_J0_indexOf_7cf53.eq_1 ..) ?_
              refine wp_gd (Or.inr qf_132) ?_
              refine wp_bd ?_
              refine wp_of (f2_J0_isLatin1_aae02.eq_1 ..) ?_
              refine wp_ifn qf_19 ?_
              refine wp_gd (Or.inr qf_132) ?_
              refine wp_lt (ifR qf_133 rfl) ?_
              refine wp_ifp qf_15 ?_
              refine wp_of (f2_J0_isLatin1_aae02_18.eq_1 ..) ?_
              refine wp_gd qf_18 ?_
              refine wp_ret_bd ?_
              refine wp_ifn qf_19 ?_
              refine wp_gd (Or.inr qf_132) ?_
              refine wp_lt (ifR qf_133 qf_134) ?_
              refine wp_gd (Or.inr qf_132) ?_
              refine wp_bd ?_
              refine wp_of (f2_J0_length_8abf5.eq_1 ..) ?_
              refine wp_gd (Or.inr qf_132) ?_
              refine wp_lt (ifR qf_133 qf_134) ?_
              refine wp_gd (Or.inr qf_135) ?_
              refine wp_lt (zbo (zbK qf_136 qf_137) qf_121) ?_
              refine wp_gd (Or.inr qf_132) ?_
              refine wp_bd ?_
              refine wp_of (f2_J0_coder_7d493.eq_1 ..) ?_
              refine wp_ifn qf_19 ?_
              refine wp_gd (Or.inr qf_132) ?_
              refine wp_lt (ifR qf_133 rfl) ?_
              refine wp_of (f2_J0_coder_7d493_14.eq_1 ..) ?_
              refine wp_gd qf_138 ?_
              refine wp_ret_bd ?_
              refine wp_lt qf_139 ?_
              refine wp_ret_bd ?_
              refine wp_bd ?_
              refine wp_of (f2_J1_indexOf_4cfef.eq_1 ..) ?_
              refine wp_bd ?_
              refine wp_of (f_J1_canEncode_9a6ad.eq_1 ..) ?_
              refine wp_ifn (show ¬ (wy2 < (0 : Int32)) from by have e0 := qf_90; have e1 := qf_169; have e2 := qf_170; have e3 := qf_171; have e4 := qf_172; simp only [Int32.lt_iff_toInt_lt, Int32.le_iff_toInt_le, ← Int32.toInt_inj] at hwy2a hwy2b ⊢; omega) ?_
              refine wp_if (fun c6 => ?_) (fun c6 => ?_)
              · skip
                refine wp_of (f_J1_canEncode_9a6ad_15.eq_1 ..) ?_
                refine wp_of (f_J1_canEncode_9a6ad_16.eq_1 ..) ?_
                refine wp_gd qf_14 ?_
                refine wp_ret_bd ?_
                refine wp_ifp qf_15 ?_
                refine wp_ret_bd ?_
                refine wp_of (f2_J0_indexOf_7cf53_36.eq_1 ..) ?_
                refine wp_ret_bd ?_
                refine wp_ret_bd ?_
                refine wp_ifn qf_173 ?_
                refine wp_of (f2_X13_setSide_26.eq_1 ..) ?_
                refine wp_gd ql_K_149 ?_
                refine wp_bd ?_
                refine wp_of (f_X13_isWrong.eq_1 ..) ?_
                refine wp_gd ql_K_149 ?_
                refine wp_zI ?_
                refine wp_ifn qf_110 ?_
                refine wp_of (f_X13_isWrong_14.eq_1 ..) ?_
                refine wp_gd qf_18 ?_
                refine wp_ret_bd ?_
                refine wp_ifn qf_19 ?_
                refine wp_ret_bd ?_
                refine wp_gd ql_K_149 ?_
                refine wp_bd ?_
                refine wp_of (f_X13_thrown.eq_1 ..) ?_
                refine wp_gd ql_K_149 ?_
                refine wp_lt gI_s ?_
                refine wp_ret_bd ?_
                refine wp_ifp qf_111 ?_
                refine wp_ifn qf_112 ?_
                refine wp_of (f_L_law_1910.eq_1 ..) ?_
                refine wp_of (f_L_law_3632.eq_1 ..) ?_
                refine wp_lt qf_21 ?_
                exact hrc _
              · skip
                refine wp_of (f_J1_canEncode_9a6ad_16.eq_1 ..) ?_
                refine wp_gd qf_18 ?_
                refine wp_ret_bd ?_
                refine wp_ifn qf_19 ?_
                refine wp_lt qf_142 ?_
                refine wp_gd (Or.inr qf_135) ?_
                refine wp_lt (zbo (zbK qf_136 qf_137) qf_121) ?_
                refine wp_lt qf_143 ?_
                refine wp_ifp qf_144 ?_
                refine wp_bd ?_
                refine wp_of (f2_J1_indexOfChar_4cfef.eq_1 ..) ?_
                refine wp_ltr ?_
                refine wp_of (f2_J1_indexOfChar_4cfef_7.eq_2 ..) ?_
                refine wp_ifn qf_115 ?_
                refine wp_gd (Or.inr qf_135) ?_
                refine wp_gd (zbi (zbK qf_136 qf_137) qf_122) ?_
                refine wp_lt (ibk qf_32 (ibK qf_136 qf_146)) ?_
                refine wp_ifn (Ne.symm (i2b_ne hwy2a c6 qf_174 c3)) ?_
                refine wp_lt qf_153 ?_
                refine wp_of (f2_J1_indexOfChar_4cfef_7.eq_2 ..) ?_
                refine wp_ifn qf_154 ?_
                refine wp_gd (Or.inr qf_135) ?_
                refine wp_gd (zbi (zbK qf_136 qf_137) qf_125) ?_
                refine wp_lt (ibk qf_36 (ibK qf_136 qf_155)) ?_
                refine wp_ifn (Ne.symm (i2b_ne hwy2a c6 qf_175 c4)) ?_
                refine wp_lt qf_164 ?_
                refine wp_of (f2_J1_indexOfChar_4cfef_7.eq_2 ..) ?_
                refine wp_ifn qf_165 ?_
                refine wp_gd (Or.inr qf_135) ?_
                refine wp_gd (zbi (zbK qf_136 qf_137) qf_127) ?_
                refine wp_lt (ibk qf_41 (ibK qf_136 qf_166)) ?_
                refine wp_ifn (Ne.symm (i2b_ne hwy2a c6 qf_176 c5)) ?_
                refine wp_lt qf_177 ?_
                refine wp_of (f2_J1_indexOfChar_4cfef_7.eq_2 ..) ?_
                refine wp_ifp qf_178 ?_
                refine wp_ret_bd ?_
                refine wp_ret_bd ?_
                refine wp_of (f2_J0_indexOf_7cf53_36.eq_1 ..) ?_
                refine wp_ret_bd ?_
                refine wp_ret_bd ?_
                refine wp_ifn qf_173 ?_
                refine wp_of (f2_X13_setSide_26.eq_1 ..) ?_
                refine wp_gd ql_K_149 ?_
                refine wp_bd ?_
                refine wp_of (f_X13_isWrong.eq_1 ..) ?_
                refine wp_gd ql_K_149 ?_
                refine wp_zI ?_
                refine wp_ifn qf_110 ?_
                refine wp_of (f_X13_isWrong_14.eq_1 ..) ?_
                refine wp_gd qf_18 ?_
                refine wp_ret_bd ?_
                refine wp_ifn qf_19 ?_
                refine wp_ret_bd ?_
                refine wp_gd ql_K_149 ?_
                refine wp_bd ?_
                refine wp_of (f_X13_thrown.eq_1 ..) ?_
                refine wp_gd ql_K_149 ?_
                refine wp_lt gI_s ?_
                refine wp_ret_bd ?_
                refine wp_ifp qf_111 ?_
                refine wp_ifn qf_112 ?_
                refine wp_of (f_L_law_1910.eq_1 ..) ?_
                refine wp_of (f_L_law_3632.eq_1 ..) ?_
                refine wp_lt qf_21 ?_
                exact hrc _
end CASES6
