section CASES5
set_option maxRecDepth 100000 in
set_option maxHeartbeats 4000000 in
theorem cs_18 {xs : Nat → Int32} {rc : mS → Nat → Nat → Nat → Nat → Int32 → Option (Rs Int32)} {Q : Rs Int32 → Prop} (hrc : ∀ S, WP Q (rc S 1 149 173 174 8)) : WP Q (f_L_law_1576 8 xs rc (M3I, M3L, M3R, M3D, M3K, M3Z, 174) 1 149 173 174 0) := by
  obtain ⟨y1, hy1⟩ : ∃ y, xs 1 = y := ⟨_, rfl⟩
  refine wp_of (f_L_law_1576.eq_1 ..) ?_
  refine wp_gd qf_0 ?_
  refine wp_lt (xsk qf_1 hy1) ?_
  refine wp_bd ?_
  refine wp_of (f_L_plays.eq_1 ..) ?_
  refine wp_gd ql_K_1 ?_
  refine wp_bdc ?_
  refine wp_of (f_X10_plays.eq_1 ..) ?_
  refine wp_gd ql_K_1 ?_
  refine wp_bd ?_
  refine wp_of (f_X10_deckOf.eq_1 ..) ?_
  refine wp_gd ql_K_1 ?_
  refine wp_lt ql_R_1_0 ?_
  refine wp_gd ql_K_2 ?_
  refine wp_bd ?_
  refine wp_of (f_X8_deckAt.eq_1 ..) ?_
  refine wp_if (fun c1 => ?_) (fun c1 => ?_)
  · skip
    refine wp_of (f_X8_deckAt_22.eq_1 ..) ?_
    refine wp_of (f_X8_deckAt_23.eq_1 ..) ?_
    refine wp_ret_bd ?_
    refine wp_ifp qf_87 ?_
    refine wp_rs_bd ?_
    refine wp_rs_bdc ?_
    refine wp_ifp qf_88 ?_
    refine wp_ret_bd ?_
    refine wp_gd qf_0 ?_
    refine wp_lt (xsk qf_1 hy1) ?_
    refine wp_gd ql_K_149 ?_
    refine wp_bd ?_
    refine wp_of (f_X13_plays.eq_1 ..) ?_
    refine wp_bd ?_
    refine wp_of (f_X13_isDeck.eq_1 ..) ?_
    refine wp_bd ?_
    refine wp_of (f_X13_isBetween.eq_1 ..) ?_
    refine wp_ifp c1 ?_
    refine wp_of (f_X13_isBetween_14.eq_1 ..) ?_
    refine wp_of (f_X13_isBetween_15.eq_1 ..) ?_
    refine wp_gd qf_14 ?_
    refine wp_ret_bd ?_
    refine wp_gd qf_14 ?_
    refine wp_ret_bd ?_
    refine wp_ifp qf_15 ?_
    refine wp_of (f_X13_plays_13.eq_1 ..) ?_
    refine wp_gd ql_K_149 ?_
    refine wp_bd ?_
    refine wp_of (f_X13_isWrong.eq_1 ..) ?_
    refine wp_gd ql_K_149 ?_
    refine wp_zI ?_
    refine wp_ifn qf_17 ?_
    refine wp_of (f_X13_isWrong_14.eq_1 ..) ?_
    refine wp_gd qf_18 ?_
    refine wp_ret_bd ?_
    refine wp_ifn qf_19 ?_
    refine wp_of (f_X13_plays_35.eq_1 ..) ?_
    refine wp_of (f_X13_plays_36.eq_1 ..) ?_
    refine wp_gd qf_14 ?_
    refine wp_ret_bd ?_
    refine wp_gd ql_K_149 ?_
    refine wp_bd ?_
    refine wp_of (f_X13_thrown.eq_1 ..) ?_
    refine wp_gd ql_K_149 ?_
    refine wp_lt gI_s ?_
    refine wp_ret_bd ?_
    refine wp_ifp qf_20 ?_
    refine wp_ifn qf_19 ?_
    refine wp_of (f_L_law_1636.eq_1 ..) ?_
    refine wp_of (f_L_law_3632.eq_1 ..) ?_
    refine wp_lt qf_21 ?_
    exact hrc _
  · skip
    refine wp_gd ql_K_2 ?_
    refine wp_lt ql_R_2_1 ?_
    refine wp_gd ql_K_16 ?_
    refine wp_lt (gZo ql_Z_16 qf_92) ?_
    refine wp_if (fun c2 => ?_) (fun c2 => ?_)
    · skip
      refine wp_of (f_X8_deckAt_22.eq_1 ..) ?_
      refine wp_of (f_X8_deckAt_23.eq_1 ..) ?_
      refine wp_ret_bd ?_
      refine wp_ifp qf_87 ?_
      refine wp_rs_bd ?_
      refine wp_rs_bdc ?_
      refine wp_ifp qf_88 ?_
      refine wp_ret_bd ?_
      refine wp_gd qf_0 ?_
      refine wp_lt (xsk qf_1 hy1) ?_
      refine wp_gd ql_K_149 ?_
      refine wp_bd ?_
      refine wp_of (f_X13_plays.eq_1 ..) ?_
      refine wp_bd ?_
      refine wp_of (f_X13_isDeck.eq_1 ..) ?_
      refine wp_bd ?_
      refine wp_of (f_X13_isBetween.eq_1 ..) ?_
      refine wp_ifn c1 ?_
      refine wp_ifp (show ((3 : Int32) < y1) from by have e0 := qf_90; have e1 := qf_93; have e2 := qf_94; simp only [Int32.lt_iff_toInt_lt, Int32.le_iff_toInt_le, ← Int32.toInt_inj] at c1 c2 ⊢; omega) ?_
      refine wp_of (f_X13_isBetween_14.eq_1 ..) ?_
      refine wp_of (f_X13_isBetween_15.eq_1 ..) ?_
      refine wp_gd qf_14 ?_
      refine wp_ret_bd ?_
      refine wp_gd qf_14 ?_
      refine wp_ret_bd ?_
      refine wp_ifp qf_15 ?_
      refine wp_of (f_X13_plays_13.eq_1 ..) ?_
      refine wp_gd ql_K_149 ?_
      refine wp_bd ?_
      refine wp_of (f_X13_isWrong.eq_1 ..) ?_
      refine wp_gd ql_K_149 ?_
      refine wp_zI ?_
      refine wp_ifn qf_17 ?_
      refine wp_of (f_X13_isWrong_14.eq_1 ..) ?_
      refine wp_gd qf_18 ?_
      refine wp_ret_bd ?_
      refine wp_ifn qf_19 ?_
      refine wp_of (f_X13_plays_35.eq_1 ..) ?_
      refine wp_of (f_X13_plays_36.eq_1 ..) ?_
      refine wp_gd qf_14 ?_
      refine wp_ret_bd ?_
      refine wp_gd ql_K_149 ?_
      refine wp_bd ?_
      refine wp_of (f_X13_thrown.eq_1 ..) ?_
      refine wp_gd ql_K_149 ?_
      refine wp_lt gI_s ?_
      refine wp_ret_bd ?_
      refine wp_ifp qf_20 ?_
      refine wp_ifn qf_19 ?_
      refine wp_of (f_L_law_1636.eq_1 ..) ?_
      refine wp_of (f_L_law_3632.eq_1 ..) ?_
      refine wp_lt qf_21 ?_
      exact hrc _
    · skip
      refine wp_lt ql_R_2_1 ?_
      refine wp_gd ql_K_16 ?_
      rcases (show y1 = (0 : Int32) ∨ y1 = (1 : Int32) ∨ y1 = (2 : Int32) ∨ y1 = (3 : Int32) from by have e0 := qf_90; have e1 := qf_95; have e2 := qf_96; have e3 := qf_93; have e4 := qf_94; simp only [Int32.lt_iff_toInt_lt, Int32.le_iff_toInt_le] at c1 c2; simp only [← Int32.toInt_inj]; omega) with rfl | rfl | rfl | rfl
      · skip
        refine wp_gd (gZi ql_Z_16 qf_97) ?_
        refine wp_lt (gRk qf_32 ql_R_16_0) ?_
        refine wp_of (f_X8_deckAt_23.eq_1 ..) ?_
        refine wp_ret_bd ?_
        refine wp_ifn qf_98 ?_
        refine wp_ret_bd ?_
        refine wp_gd ql_K_17 ?_
        refine wp_lt ql_I_17_5 ?_
        refine wp_gd qf_14 ?_
        refine wp_ret_bdc ?_
        refine wp_ifp qf_15 ?_
        refine wp_of (f_L_plays_15.eq_1 ..) ?_
        refine wp_gd ql_K_173 ?_
        refine wp_gd (gZi ql_Z_173 qf_71) ?_
        refine wp_zLk qf_32 ?_
        refine wp_ret_bd ?_
        refine wp_gd qf_0 ?_
        refine wp_lt (xsk qf_1 hy1) ?_
        refine wp_gd ql_K_149 ?_
        refine wp_bd ?_
        refine wp_of (f_X13_plays.eq_1 ..) ?_
        refine wp_bd ?_
        refine wp_of (f_X13_isDeck.eq_1 ..) ?_
        refine wp_bd ?_
        refine wp_of (f_X13_isBetween.eq_1 ..) ?_
        refine wp_ifn qf_28 ?_
        refine wp_ifn qf_43 ?_
        refine wp_of (f_X13_isBetween_15.eq_1 ..) ?_
        refine wp_gd qf_18 ?_
        refine wp_ret_bd ?_
        refine wp_gd qf_18 ?_
        refine wp_ret_bd ?_
        refine wp_ifn qf_19 ?_
        refine wp_of (f_X13_plays_13.eq_1 ..) ?_
        refine wp_gd ql_K_149 ?_
        refine wp_bd ?_
        refine wp_of (f_X13_isWrong.eq_1 ..) ?_
        refine wp_gd ql_K_149 ?_
        refine wp_zI ?_
        refine wp_ifp qf_73 ?_
        refine wp_of (f_X13_isWrong_14.eq_1 ..) ?_
        refine wp_gd qf_14 ?_
        refine wp_ret_bd ?_
        refine wp_ifp qf_15 ?_
        refine wp_gd ql_K_149 ?_
        refine wp_lt ql_R_149_2 ?_
        refine wp_gd ql_K_151 ?_
        refine wp_gd (gZi ql_Z_151 qf_97) ?_
        refine wp_lt (gRk qf_32 ql_R_151_0) ?_
        refine wp_gd ql_K_152 ?_
        refine wp_lt (Eq.trans (gI_a rfl) ql_I_152_13) ?_
        refine wp_ifp qf_15 ?_
        refine wp_of (f_X13_plays_35.eq_1 ..) ?_
        refine wp_of (f_X13_plays_36.eq_1 ..) ?_
        refine wp_gd qf_14 ?_
        refine wp_ret_bd ?_
        refine wp_gd ql_K_149 ?_
        refine wp_bd ?_
        refine wp_of (f_X13_thrown.eq_1 ..) ?_
        refine wp_gd ql_K_149 ?_
        refine wp_lt gI_s ?_
        refine wp_ret_bd ?_
        refine wp_ifp qf_15 ?_
        refine wp_ifp qf_15 ?_
        refine wp_gd ql_K_173 ?_
        refine wp_gd (gZi ql_Z_173 qf_71) ?_
        refine wp_lt (gLk qf_32 gL_s) ?_
        refine wp_ifp qf_15 ?_
        refine wp_of (f_L_law_1630.eq_1 ..) ?_
        refine wp_lt qf_81 ?_
        refine wp_ifp qf_15 ?_
        refine wp_of (f_L_law_1636.eq_1 ..) ?_
        refine wp_of (f_L_law_3632.eq_1 ..) ?_
        refine wp_lt qf_21 ?_
        exact hrc _
      · skip
        refine wp_gd (gZi ql_Z_16 qf_99) ?_
        refine wp_lt (gRk qf_36 ql_R_16_1) ?_
        refine wp_of (f_X8_deckAt_23.eq_1 ..) ?_
        refine wp_ret_bd ?_
        refine wp_ifn qf_100 ?_
        refine wp_ret_bd ?_
        refine wp_gd ql_K_25 ?_
        refine wp_lt ql_I_25_5 ?_
        refine wp_gd qf_14 ?_
        refine wp_ret_bdc ?_
        refine wp_ifp qf_15 ?_
        refine wp_of (f_L_plays_15.eq_1 ..) ?_
        refine wp_gd ql_K_173 ?_
        refine wp_gd (gZi ql_Z_173 qf_71) ?_
        refine wp_zLk qf_32 ?_
        refine wp_ret_bd ?_
        refine wp_gd qf_0 ?_
        refine wp_lt (xsk qf_1 hy1) ?_
        refine wp_gd ql_K_149 ?_
        refine wp_bd ?_
        refine wp_of (f_X13_plays.eq_1 ..) ?_
        refine wp_bd ?_
        refine wp_of (f_X13_isDeck.eq_1 ..) ?_
        refine wp_bd ?_
        refine wp_of (f_X13_isBetween.eq_1 ..) ?_
        refine wp_ifn qf_33 ?_
        refine wp_ifn qf_101 ?_
        refine wp_of (f_X13_isBetween_15.eq_1 ..) ?_
        refine wp_gd qf_18 ?_
        refine wp_ret_bd ?_
        refine wp_gd qf_18 ?_
        refine wp_ret_bd ?_
        refine wp_ifn qf_19 ?_
        refine wp_of (f_X13_plays_13.eq_1 ..) ?_
        refine wp_gd ql_K_149 ?_
        refine wp_bd ?_
        refine wp_of (f_X13_isWrong.eq_1 ..) ?_
        refine wp_gd ql_K_149 ?_
        refine wp_zI ?_
        refine wp_ifp qf_73 ?_
        refine wp_of (f_X13_isWrong_14.eq_1 ..) ?_
        refine wp_gd qf_14 ?_
        refine wp_ret_bd ?_
        refine wp_ifp qf_15 ?_
        refine wp_gd ql_K_149 ?_
        refine wp_lt ql_R_149_2 ?_
        refine wp_gd ql_K_151 ?_
        refine wp_gd (gZi ql_Z_151 qf_99) ?_
        refine wp_lt (gRk qf_36 ql_R_151_1) ?_
        refine wp_gd ql_K_156 ?_
        refine wp_lt (Eq.trans (gI_a rfl) ql_I_156_13) ?_
        refine wp_ifp qf_15 ?_
        refine wp_of (f_X13_plays_35.eq_1 ..) ?_
        refine wp_of (f_X13_plays_36.eq_1 ..) ?_
        refine wp_gd qf_14 ?_
        refine wp_ret_bd ?_
        refine wp_gd ql_K_149 ?_
        refine wp_bd ?_
        refine wp_of (f_X13_thrown.eq_1 ..) ?_
        refine wp_gd ql_K_149 ?_
        refine wp_lt gI_s ?_
        refine wp_ret_bd ?_
        refine wp_ifp qf_15 ?_
        refine wp_ifp qf_15 ?_
        refine wp_gd ql_K_173 ?_
        refine wp_gd (gZi ql_Z_173 qf_71) ?_
        refine wp_lt (gLk qf_32 gL_s) ?_
        refine wp_ifp qf_15 ?_
        refine wp_of (f_L_law_1630.eq_1 ..) ?_
        refine wp_lt qf_81 ?_
        refine wp_ifp qf_15 ?_
        refine wp_of (f_L_law_1636.eq_1 ..) ?_
        refine wp_of (f_L_law_3632.eq_1 ..) ?_
        refine wp_lt qf_21 ?_
        exact hrc _
      · skip
        refine wp_gd (gZi ql_Z_16 qf_102) ?_
        refine wp_lt (gRk qf_41 ql_R_16_2) ?_
        refine wp_of (f_X8_deckAt_23.eq_1 ..) ?_
        refine wp_ret_bd ?_
        refine wp_ifn qf_103 ?_
        refine wp_ret_bd ?_
        refine wp_gd ql_K_33 ?_
        refine wp_lt ql_I_33_5 ?_
        refine wp_gd qf_14 ?_
        refine wp_ret_bdc ?_
        refine wp_ifp qf_15 ?_
        refine wp_of (f_L_plays_15.eq_1 ..) ?_
        refine wp_gd ql_K_173 ?_
        refine wp_gd (gZi ql_Z_173 qf_71) ?_
        refine wp_zLk qf_32 ?_
        refine wp_ret_bd ?_
        refine wp_gd qf_0 ?_
        refine wp_lt (xsk qf_1 hy1) ?_
        refine wp_gd ql_K_149 ?_
        refine wp_bd ?_
        refine wp_of (f_X13_plays.eq_1 ..) ?_
        refine wp_bd ?_
        refine wp_of (f_X13_isDeck.eq_1 ..) ?_
        refine wp_bd ?_
        refine wp_of (f_X13_isBetween.eq_1 ..) ?_
        refine wp_ifn qf_38 ?_
        refine wp_ifn qf_104 ?_
        refine wp_of (f_X13_isBetween_15.eq_1 ..) ?_
        refine wp_gd qf_18 ?_
        refine wp_ret_bd ?_
        refine wp_gd qf_18 ?_
        refine wp_ret_bd ?_
        refine wp_ifn qf_19 ?_
        refine wp_of (f_X13_plays_13.eq_1 ..) ?_
        refine wp_gd ql_K_149 ?_
        refine wp_bd ?_
        refine wp_of (f_X13_isWrong.eq_1 ..) ?_
        refine wp_gd ql_K_149 ?_
        refine wp_zI ?_
        refine wp_ifp qf_73 ?_
        refine wp_of (f_X13_isWrong_14.eq_1 ..) ?_
        refine wp_gd qf_14 ?_
        refine wp_ret_bd ?_
        refine wp_ifp qf_15 ?_
        refine wp_gd ql_K_149 ?_
        refine wp_lt ql_R_149_2 ?_
        refine wp_gd ql_K_151 ?_
        refine wp_gd (gZi ql_Z_151 qf_102) ?_
        refine wp_lt (gRk qf_41 ql_R_151_2) ?_
        refine wp_gd ql_K_160 ?_
        refine wp_lt (Eq.trans (gI_a rfl) ql_I_160_13) ?_
        refine wp_ifp qf_15 ?_
        refine wp_of (f_X13_plays_35.eq_1 ..) ?_
        refine wp_of (f_X13_plays_36.eq_1 ..) ?_
        refine wp_gd qf_14 ?_
        refine wp_ret_bd ?_
        refine wp_gd ql_K_149 ?_
        refine wp_bd ?_
        refine wp_of (f_X13_thrown.eq_1 ..) ?_
        refine wp_gd ql_K_149 ?_
        refine wp_lt gI_s ?_
        refine wp_ret_bd ?_
        refine wp_ifp qf_15 ?_
        refine wp_ifp qf_15 ?_
        refine wp_gd ql_K_173 ?_
        refine wp_gd (gZi ql_Z_173 qf_71) ?_
        refine wp_lt (gLk qf_32 gL_s) ?_
        refine wp_ifp qf_15 ?_
        refine wp_of (f_L_law_1630.eq_1 ..) ?_
        refine wp_lt qf_81 ?_
        refine wp_ifp qf_15 ?_
        refine wp_of (f_L_law_1636.eq_1 ..) ?_
        refine wp_of (f_L_law_3632.eq_1 ..) ?_
        refine wp_lt qf_21 ?_
        exact hrc _
      · skip
        refine wp_gd (gZi ql_Z_16 qf_105) ?_
        refine wp_lt (gRk qf_46 ql_R_16_3) ?_
        refine wp_of (f_X8_deckAt_23.eq_1 ..) ?_
        refine wp_ret_bd ?_
        refine wp_ifn qf_106 ?_
        refine wp_ret_bd ?_
        refine wp_gd ql_K_41 ?_
        refine wp_lt ql_I_41_5 ?_
        refine wp_gd qf_14 ?_
        refine wp_ret_bdc ?_
        refine wp_ifp qf_15 ?_
        refine wp_of (f_L_plays_15.eq_1 ..) ?_
        refine wp_gd ql_K_173 ?_
        refine wp_gd (gZi ql_Z_173 qf_71) ?_
        refine wp_zLk qf_32 ?_
        refine wp_ret_bd ?_
        refine wp_gd qf_0 ?_
        refine wp_lt (xsk qf_1 hy1) ?_
        refine wp_gd ql_K_149 ?_
        refine wp_bd ?_
        refine wp_of (f_X13_plays.eq_1 ..) ?_
        refine wp_bd ?_
        refine wp_of (f_X13_isDeck.eq_1 ..) ?_
        refine wp_bd ?_
        refine wp_of (f_X13_isBetween.eq_1 ..) ?_
        refine wp_ifn qf_43 ?_
        refine wp_ifn qf_107 ?_
        refine wp_of (f_X13_isBetween_15.eq_1 ..) ?_
        refine wp_gd qf_18 ?_
        refine wp_ret_bd ?_
        refine wp_gd qf_18 ?_
        refine wp_ret_bd ?_
        refine wp_ifn qf_19 ?_
        refine wp_of (f_X13_plays_13.eq_1 ..) ?_
        refine wp_gd ql_K_149 ?_
        refine wp_bd ?_
        refine wp_of (f_X13_isWrong.eq_1 ..) ?_
        refine wp_gd ql_K_149 ?_
        refine wp_zI ?_
        refine wp_ifp qf_73 ?_
        refine wp_of (f_X13_isWrong_14.eq_1 ..) ?_
        refine wp_gd qf_14 ?_
        refine wp_ret_bd ?_
        refine wp_ifp qf_15 ?_
        refine wp_gd ql_K_149 ?_
        refine wp_lt ql_R_149_2 ?_
        refine wp_gd ql_K_151 ?_
        refine wp_gd (gZi ql_Z_151 qf_105) ?_
        refine wp_lt (gRk qf_46 ql_R_151_3) ?_
        refine wp_gd ql_K_164 ?_
        refine wp_lt (Eq.trans (gI_a rfl) ql_I_164_13) ?_
        refine wp_ifp qf_15 ?_
        refine wp_of (f_X13_plays_35.eq_1 ..) ?_
        refine wp_of (f_X13_plays_36.eq_1 ..) ?_
        refine wp_gd qf_14 ?_
        refine wp_ret_bd ?_
        refine wp_gd ql_K_149 ?_
        refine wp_bd ?_
        refine wp_of (f_X13_thrown.eq_1 ..) ?_
        refine wp_gd ql_K_149 ?_
        refine wp_lt gI_s ?_
        refine wp_ret_bd ?_
        refine wp_ifp qf_15 ?_
        refine wp_ifp qf_15 ?_
        refine wp_gd ql_K_173 ?_
        refine wp_gd (gZi ql_Z_173 qf_71) ?_
        refine wp_lt (gLk qf_32 gL_s) ?_
        refine wp_ifp qf_15 ?_
        refine wp_of (f_L_law_1630.eq_1 ..) ?_
        refine wp_lt qf_81 ?_
        refine wp_ifp qf_15 ?_
        refine wp_of (f_L_law_1636.eq_1 ..) ?_
        refine wp_of (f_L_law_3632.eq_1 ..) ?_
        refine wp_lt qf_21 ?_
        exact hrc _
set_option maxRecDepth 100000 in
set_option maxHeartbeats 4000000 in
theorem cs_19 {xs : Nat → Int32} {rc : mS → Nat → Nat → Nat → Nat → Int32 → Option (Rs Int32)} {Q : Rs Int32 → Prop} (hrc : ∀ S, WP Q (rc S 1 149 173 174 8)) : WP Q (f_L_law_1639 8 xs rc (M3I, M3L, M3R, M3D, M3K, M3Z, 174) 1 149 173 174 0) := by
  obtain ⟨y1, hy1⟩ : ∃ y, xs 1 = y := ⟨_, rfl⟩
  refine wp_of (f_L_law_1639.eq_1 ..) ?_
  refine wp_gd qf_0 ?_
  refine wp_lt (xsk qf_1 hy1) ?_
  refine wp_bd ?_
  refine wp_of (f_L_on.eq_1 ..) ?_
  refine wp_gd ql_K_1 ?_
  refine wp_bdc ?_
  refine wp_of (f_X10_on.eq_1 ..) ?_
  refine wp_gd ql_K_1 ?_
  refine wp_bd ?_
  refine wp_of (f_X10_deckOf.eq_1 ..) ?_
  refine wp_gd ql_K_1 ?_
  refine wp_lt ql_R_1_0 ?_
  refine wp_gd ql_K_2 ?_
  refine wp_bd ?_
  refine wp_of (f_X8_deckAt.eq_1 ..) ?_
  refine wp_if (fun c1 => ?_) (fun c1 => ?_)
  · skip
    refine wp_of (f_X8_deckAt_22.eq_1 ..) ?_
    refine wp_of (f_X8_deckAt_23.eq_1 ..) ?_
    refine wp_ret_bd ?_
    refine wp_ifp qf_87 ?_
    refine wp_rs_bd ?_
    refine wp_rs_bdc ?_
    refine wp_ifp qf_88 ?_
    refine wp_ret_bd ?_
    refine wp_gd qf_0 ?_
    refine wp_lt (xsk qf_1 hy1) ?_
    refine wp_gd ql_K_149 ?_
    refine wp_bd ?_
    refine wp_of (f_X13_on.eq_1 ..) ?_
    refine wp_gd ql_K_149 ?_
    refine wp_bd ?_
    refine wp_of (f_X13_isNoRecord.eq_1 ..) ?_
    refine wp_bd ?_
    refine wp_of (f_X13_isDeck.eq_1 ..) ?_
    refine wp_bd ?_
    refine wp_of (f_X13_isBetween.eq_1 ..) ?_
    refine wp_ifp c1 ?_
    refine wp_of (f_X13_isBetween_14.eq_1 ..) ?_
    refine wp_of (f_X13_isBetween_15.eq_1 ..) ?_
    refine wp_gd qf_14 ?_
    refine wp_ret_bd ?_
    refine wp_gd qf_14 ?_
    refine wp_ret_bd ?_
    refine wp_ifp qf_15 ?_
    refine wp_of (f_X13_isNoRecord_25.eq_1 ..) ?_
    refine wp_gd ql_K_149 ?_
    refine wp_bd ?_
    refine wp_of (f_X13_isWrong.eq_1 ..) ?_
    refine wp_gd ql_K_149 ?_
    refine wp_zI ?_
    refine wp_ifn qf_17 ?_
    refine wp_of (f_X13_isWrong_14.eq_1 ..) ?_
    refine wp_gd qf_18 ?_
    refine wp_ret_bd ?_
    refine wp_gd qf_18 ?_
    refine wp_ret_bd ?_
    refine wp_ifn qf_19 ?_
    refine wp_of (f_X13_on_21.eq_1 ..) ?_
    refine wp_ret_bd ?_
    refine wp_gd ql_K_149 ?_
    refine wp_bd ?_
    refine wp_of (f_X13_thrown.eq_1 ..) ?_
    refine wp_gd ql_K_149 ?_
    refine wp_lt gI_s ?_
    refine wp_ret_bd ?_
    refine wp_ifp qf_20 ?_
    refine wp_ifn qf_19 ?_
    refine wp_of (f_L_law_1692.eq_1 ..) ?_
    refine wp_of (f_L_law_3632.eq_1 ..) ?_
    refine wp_lt qf_21 ?_
    exact hrc _
  · skip
    refine wp_gd ql_K_2 ?_
    refine wp_lt ql_R_2_1 ?_
    refine wp_gd ql_K_16 ?_
    refine wp_lt (gZo ql_Z_16 qf_92) ?_
    refine wp_if (fun c2 => ?_) (fun c2 => ?_)
    · skip
      refine wp_of (f_X8_deckAt_22.eq_1 ..) ?_
      refine wp_of (f_X8_deckAt_23.eq_1 ..) ?_
      refine wp_ret_bd ?_
      refine wp_ifp qf_87 ?_
      refine wp_rs_bd ?_
      refine wp_rs_bdc ?_
      refine wp_ifp qf_88 ?_
      refine wp_ret_bd ?_
      refine wp_gd qf_0 ?_
      refine wp_lt (xsk qf_1 hy1) ?_
      refine wp_gd ql_K_149 ?_
      refine wp_bd ?_
      refine wp_of (f_X13_on.eq_1 ..) ?_
      refine wp_gd ql_K_149 ?_
      refine wp_bd ?_
      refine wp_of (f_X13_isNoRecord.eq_1 ..) ?_
      refine wp_bd ?_
      refine wp_of (f_X13_isDeck.eq_1 ..) ?_
      refine wp_bd ?_
      refine wp_of (f_X13_isBetween.eq_1 ..) ?_
      refine wp_ifn c1 ?_
      refine wp_ifp (show ((3 : Int32) < y1) from by have e0 := qf_90; have e1 := qf_93; have e2 := qf_94; simp only [Int32.lt_iff_toInt_lt, Int32.le_iff_toInt_le, ← Int32.toInt_inj] at c1 c2 ⊢; omega) ?_
      refine wp_of (f_X13_isBetween_14.eq_1 ..) ?_
      refine wp_of (f_X13_isBetween_15.eq_1 ..) ?_
      refine wp_gd qf_14 ?_
      refine wp_ret_bd ?_
      refine wp_gd qf_14 ?_
      refine wp_ret_bd ?_
      refine wp_ifp qf_15 ?_
      refine wp_of (f_X13_isNoRecord_25.eq_1 ..) ?_
      refine wp_gd ql_K_149 ?_
      refine wp_bd ?_
      refine wp_of (f_X13_isWrong.eq_1 ..) ?_
      refine wp_gd ql_K_149 ?_
      refine wp_zI ?_
      refine wp_ifn qf_17 ?_
      refine wp_of (f_X13_isWrong_14.eq_1 ..) ?_
      refine wp_gd qf_18 ?_
      refine wp_ret_bd ?_
      refine wp_gd qf_18 ?_
      refine wp_ret_bd ?_
      refine wp_ifn qf_19 ?_
      refine wp_of (f_X13_on_21.eq_1 ..) ?_
      refine wp_ret_bd ?_
      refine wp_gd ql_K_149 ?_
      refine wp_bd ?_
      refine wp_of (f_X13_thrown.eq_1 ..) ?_
      refine wp_gd ql_K_149 ?_
      refine wp_lt gI_s ?_
      refine wp_ret_bd ?_
      refine wp_ifp qf_20 ?_
      refine wp_ifn qf_19 ?_
      refine wp_of (f_L_law_1692.eq_1 ..) ?_
      refine wp_of (f_L_law_3632.eq_1 ..) ?_
      refine wp_lt qf_21 ?_
      exact hrc _
    · skip
      refine wp_lt ql_R_2_1 ?_
      refine wp_gd ql_K_16 ?_
      rcases (show y1 = (0 : Int32) ∨ y1 = (1 : Int32) ∨ y1 = (2 : Int32) ∨ y1 = (3 : Int32) from by have e0 := qf_90; have e1 := qf_95; have e2 := qf_96; have e3 := qf_93; have e4 := qf_94; simp only [Int32.lt_iff_toInt_lt, Int32.le_iff_toInt_le] at c1 c2; simp only [← Int32.toInt_inj]; omega) with rfl | rfl | rfl | rfl
      · skip
        refine wp_gd (gZi ql_Z_16 qf_97) ?_
        refine wp_lt (gRk qf_32 ql_R_16_0) ?_
        refine wp_of (f_X8_deckAt_23.eq_1 ..) ?_
        refine wp_ret_bd ?_
        refine wp_ifn qf_98 ?_
        refine wp_ret_bd ?_
        refine wp_gd ql_K_17 ?_
        refine wp_lt ql_R_17_2 ?_
        refine wp_ifp qf_87 ?_
        refine wp_rs_bdc ?_
        refine wp_ifn qf_119 ?_
        refine wp_ifp qf_120 ?_
        refine wp_ret_bd ?_
        refine wp_gd qf_0 ?_
        refine wp_lt (xsk qf_1 hy1) ?_
        refine wp_gd ql_K_149 ?_
        refine wp_bd ?_
        refine wp_of (f_X13_on.eq_1 ..) ?_
        refine wp_gd ql_K_149 ?_
        refine wp_bd ?_
        refine wp_of (f_X13_isNoRecord.eq_1 ..) ?_
        refine wp_bd ?_
        refine wp_of (f_X13_isDeck.eq_1 ..) ?_
        refine wp_bd ?_
        refine wp_of (f_X13_isBetween.eq_1 ..) ?_
        refine wp_ifn qf_28 ?_
        refine wp_ifn qf_43 ?_
        refine wp_of (f_X13_isBetween_15.eq_1 ..) ?_
        refine wp_gd qf_18 ?_
        refine wp_ret_bd ?_
        refine wp_gd qf_18 ?_
        refine wp_ret_bd ?_
        refine wp_ifn qf_19 ?_
        refine wp_gd ql_K_149 ?_
        refine wp_bd ?_
        refine wp_of (f_X13_isEmpty.eq_1 ..) ?_
        refine wp_gd ql_K_149 ?_
        refine wp_lt ql_R_149_2 ?_
        refine wp_gd ql_K_151 ?_
        refine wp_gd (gZi ql_Z_151 qf_97) ?_
        refine wp_lt (gRk qf_32 ql_R_151_0) ?_
        refine wp_gd ql_K_152 ?_
        refine wp_lt ql_R_152_0 ?_
        refine wp_ifp qf_87 ?_
        refine wp_of (f_X13_isEmpty_17.eq_1 ..) ?_
        refine wp_gd qf_18 ?_
        refine wp_ret_bd ?_
        refine wp_ifn qf_19 ?_
        refine wp_of (f_X13_isNoRecord_25.eq_1 ..) ?_
        refine wp_gd ql_K_149 ?_
        refine wp_bd ?_
        refine wp_of (f_X13_isWrong.eq_1 ..) ?_
        refine wp_gd ql_K_149 ?_
        refine wp_zI ?_
        refine wp_ifn qf_110 ?_
        refine wp_of (f_X13_isWrong_14.eq_1 ..) ?_
        refine wp_gd qf_18 ?_
        refine wp_ret_bd ?_
        refine wp_gd qf_18 ?_
        refine wp_ret_bd ?_
        refine wp_ifn qf_19 ?_
        refine wp_of (f_X13_on_21.eq_1 ..) ?_
        refine wp_ret_bd ?_
        refine wp_gd ql_K_149 ?_
        refine wp_bd ?_
        refine wp_of (f_X13_thrown.eq_1 ..) ?_
        refine wp_gd ql_K_149 ?_
        refine wp_lt gI_s ?_
        refine wp_ret_bd ?_
        refine wp_ifp qf_111 ?_
        refine wp_ifn qf_112 ?_
        refine wp_of (f_L_law_1692.eq_1 ..) ?_
        refine wp_of (f_L_law_3632.eq_1 ..) ?_
        refine wp_lt qf_21 ?_
        exact hrc _
      · skip
        refine wp_gd (gZi ql_Z_16 qf_99) ?_
        refine wp_lt (gRk qf_36 ql_R_16_1) ?_
        refine wp_of (f_X8_deckAt_23.eq_1 ..) ?_
        refine wp_ret_bd ?_
        refine wp_ifn qf_100 ?_
        refine wp_ret_bd ?_
        refine wp_gd ql_K_25 ?_
        refine wp_lt ql_R_25_2 ?_
        refine wp_ifp qf_87 ?_
        refine wp_rs_bdc ?_
        refine wp_ifn qf_119 ?_
        refine wp_ifp qf_120 ?_
        refine wp_ret_bd ?_
        refine wp_gd qf_0 ?_
        refine wp_lt (xsk qf_1 hy1) ?_
        refine wp_gd ql_K_149 ?_
        refine wp_bd ?_
        refine wp_of (f_X13_on.eq_1 ..) ?_
        refine wp_gd ql_K_149 ?_
        refine wp_bd ?_
        refine wp_of (f_X13_isNoRecord.eq_1 ..) ?_
        refine wp_bd ?_
        refine wp_of (f_X13_isDeck.eq_1 ..) ?_
        refine wp_bd ?_
        refine wp_of (f_X13_isBetween.eq_1 ..) ?_
        refine wp_ifn qf_33 ?_
        refine wp_ifn qf_101 ?_
        refine wp_of (f_X13_isBetween_15.eq_1 ..) ?_
        refine wp_gd qf_18 ?_
        refine wp_ret_bd ?_
        refine wp_gd qf_18 ?_
        refine wp_ret_bd ?_
        refine wp_ifn qf_19 ?_
        refine wp_gd ql_K_149 ?_
        refine wp_bd ?_
        refine wp_of (f_X13_isEmpty.eq_1 ..) ?_
        refine wp_gd ql_K_149 ?_
        refine wp_lt ql_R_149_2 ?_
        refine wp_gd ql_K_151 ?_
        refine wp_gd (gZi ql_Z_151 qf_99) ?_
        refine wp_lt (gRk qf_36 ql_R_151_1) ?_
        refine wp_gd ql_K_156 ?_
        refine wp_lt ql_R_156_0 ?_
        refine wp_ifp qf_87 ?_
        refine wp_of (f_X13_isEmpty_17.eq_1 ..) ?_
        refine wp_gd qf_18 ?_
        refine wp_ret_bd ?_
        refine wp_ifn qf_19 ?_
        refine wp_of (f_X13_isNoRecord_25.eq_1 ..) ?_
        refine wp_gd ql_K_149 ?_
        refine wp_bd ?_
        refine wp_of (f_X13_isWrong.eq_1 ..) ?_
        refine wp_gd ql_K_149 ?_
        refine wp_zI ?_
        refine wp_ifn qf_110 ?_
        refine wp_of (f_X13_isWrong_14.eq_1 ..) ?_
        refine wp_gd qf_18 ?_
        refine wp_ret_bd ?_
        refine wp_gd qf_18 ?_
        refine wp_ret_bd ?_
        refine wp_ifn qf_19 ?_
        refine wp_of (f_X13_on_21.eq_1 ..) ?_
        refine wp_ret_bd ?_
        refine wp_gd ql_K_149 ?_
        refine wp_bd ?_
        refine wp_of (f_X13_thrown.eq_1 ..) ?_
        refine wp_gd ql_K_149 ?_
        refine wp_lt gI_s ?_
        refine wp_ret_bd ?_
        refine wp_ifp qf_111 ?_
        refine wp_ifn qf_112 ?_
        refine wp_of (f_L_law_1692.eq_1 ..) ?_
        refine wp_of (f_L_law_3632.eq_1 ..) ?_
        refine wp_lt qf_21 ?_
        exact hrc _
      · skip
        refine wp_gd (gZi ql_Z_16 qf_102) ?_
        refine wp_lt (gRk qf_41 ql_R_16_2) ?_
        refine wp_of (f_X8_deckAt_23.eq_1 ..) ?_
        refine wp_ret_bd ?_
        refine wp_ifn qf_103 ?_
        refine wp_ret_bd ?_
        refine wp_gd ql_K_33 ?_
        refine wp_lt ql_R_33_2 ?_
        refine wp_ifp qf_87 ?_
        refine wp_rs_bdc ?_
        refine wp_ifn qf_119 ?_
        refine wp_ifp qf_120 ?_
        refine wp_ret_bd ?_
        refine wp_gd qf_0 ?_
        refine wp_lt (xsk qf_1 hy1) ?_
        refine wp_gd ql_K_149 ?_
        refine wp_bd ?_
        refine wp_of (f_X13_on.eq_1 ..) ?_
        refine wp_gd ql_K_149 ?_
        refine wp_bd ?_
        refine wp_of (f_X13_isNoRecord.eq_1 ..) ?_
        refine wp_bd ?_
        refine wp_of (f_X13_isDeck.eq_1 ..) ?_
        refine wp_bd ?_
        refine wp_of (f_X13_isBetween.eq_1 ..) ?_
        refine wp_ifn qf_38 ?_
        refine wp_ifn qf_104 ?_
        refine wp_of (f_X13_isBetween_15.eq_1 ..) ?_
        refine wp_gd qf_18 ?_
        refine wp_ret_bd ?_
        refine wp_gd qf_18 ?_
        refine wp_ret_bd ?_
        refine wp_ifn qf_19 ?_
        refine wp_gd ql_K_149 ?_
        refine wp_bd ?_
        refine wp_of (f_X13_isEmpty.eq_1 ..) ?_
        refine wp_gd ql_K_149 ?_
        refine wp_lt ql_R_149_2 ?_
        refine wp_gd ql_K_151 ?_
        refine wp_gd (gZi ql_Z_151 qf_102) ?_
        refine wp_lt (gRk qf_41 ql_R_151_2) ?_
        refine wp_gd ql_K_160 ?_
        refine wp_lt ql_R_160_0 ?_
        refine wp_ifp qf_87 ?_
        refine wp_of (f_X13_isEmpty_17.eq_1 ..) ?_
        refine wp_gd qf_18 ?_
        refine wp_ret_bd ?_
        refine wp_ifn qf_19 ?_
        refine wp_of (f_X13_isNoRecord_25.eq_1 ..) ?_
        refine wp_gd ql_K_149 ?_
        refine wp_bd ?_
        refine wp_of (f_X13_isWrong.eq_1 ..) ?_
        refine wp_gd ql_K_149 ?_
        refine wp_zI ?_
        refine wp_ifn qf_110 ?_
        refine wp_of (f_X13_isWrong_14.eq_1 ..) ?_
        refine wp_gd qf_18 ?_
        refine wp_ret_bd ?_
        refine wp_gd qf_18 ?_
        refine wp_ret_bd ?_
        refine wp_ifn qf_19 ?_
        refine wp_of (f_X13_on_21.eq_1 ..) ?_
        refine wp_ret_bd ?_
        refine wp_gd ql_K_149 ?_
        refine wp_bd ?_
        refine wp_of (f_X13_thrown.eq_1 ..) ?_
        refine wp_gd ql_K_149 ?_
        refine wp_lt gI_s ?_
        refine wp_ret_bd ?_
        refine wp_ifp qf_111 ?_
        refine wp_ifn qf_112 ?_
        refine wp_of (f_L_law_1692.eq_1 ..) ?_
        refine wp_of (f_L_law_3632.eq_1 ..) ?_
        refine wp_lt qf_21 ?_
        exact hrc _
      · skip
        refine wp_gd (gZi ql_Z_16 qf_105) ?_
        refine wp_lt (gRk qf_46 ql_R_16_3) ?_
        refine wp_of (f_X8_deckAt_23.eq_1 ..) ?_
        refine wp_ret_bd ?_
        refine wp_ifn qf_106 ?_
        refine wp_ret_bd ?_
        refine wp_gd ql_K_41 ?_
        refine wp_lt ql_R_41_2 ?_
        refine wp_ifp qf_87 ?_
        refine wp_rs_bdc ?_
        refine wp_ifn qf_119 ?_
        refine wp_ifp qf_120 ?_
        refine wp_ret_bd ?_
        refine wp_gd qf_0 ?_
        refine wp_lt (xsk qf_1 hy1) ?_
        refine wp_gd ql_K_149 ?_
        refine wp_bd ?_
        refine wp_of (f_X13_on.eq_1 ..) ?_
        refine wp_gd ql_K_149 ?_
        refine wp_bd ?_
        refine wp_of (f_X13_isNoRecord.eq_1 ..) ?_
        refine wp_bd ?_
        refine wp_of (f_X13_isDeck.eq_1 ..) ?_
        refine wp_bd ?_
        refine wp_of (f_X13_isBetween.eq_1 ..) ?_
        refine wp_ifn qf_43 ?_
        refine wp_ifn qf_107 ?_
        refine wp_of (f_X13_isBetween_15.eq_1 ..) ?_
        refine wp_gd qf_18 ?_
        refine wp_ret_bd ?_
        refine wp_gd qf_18 ?_
        refine wp_ret_bd ?_
        refine wp_ifn qf_19 ?_
        refine wp_gd ql_K_149 ?_
        refine wp_bd ?_
        refine wp_of (f_X13_isEmpty.eq_1 ..) ?_
        refine wp_gd ql_K_149 ?_
        refine wp_lt ql_R_149_2 ?_
        refine wp_gd ql_K_151 ?_
        refine wp_gd (gZi ql_Z_151 qf_105) ?_
        refine wp_lt (gRk qf_46 ql_R_151_3) ?_
        refine wp_gd ql_K_164 ?_
        refine wp_lt ql_R_164_0 ?_
        refine wp_ifp qf_87 ?_
        refine wp_of (f_X13_isEmpty_17.eq_1 ..) ?_
        refine wp_gd qf_18 ?_
        refine wp_ret_bd ?_
        refine wp_ifn qf_19 ?_
        refine wp_of (f_X13_isNoRecord_25.eq_1 ..) ?_
        refine wp_gd ql_K_149 ?_
        refine wp_bd ?_
        refine wp_of (f_X13_isWrong.eq_1 ..) ?_
        refine wp_gd ql_K_149 ?_
        refine wp_zI ?_
        refine wp_ifn qf_110 ?_
        refine wp_of (f_X13_isWrong_14.eq_1 ..) ?_
        refine wp_gd qf_18 ?_
        refine wp_ret_bd ?_
        refine wp_gd qf_18 ?_
        refine wp_ret_bd ?_
        refine wp_ifn qf_19 ?_
        refine wp_of (f_X13_on_21.eq_1 ..) ?_
        refine wp_ret_bd ?_
        refine wp_gd ql_K_149 ?_
        refine wp_bd ?_
        refine wp_of (f_X13_thrown.eq_1 ..) ?_
        refine wp_gd ql_K_149 ?_
        refine wp_lt gI_s ?_
        refine wp_ret_bd ?_
        refine wp_ifp qf_111 ?_
        refine wp_ifn qf_112 ?_
        refine wp_of (f_L_law_1692.eq_1 ..) ?_
        refine wp_of (f_L_law_3632.eq_1 ..) ?_
        refine wp_lt qf_21 ?_
        exact hrc _
set_option maxRecDepth 100000 in
set_option maxHeartbeats 4000000 in
theorem cs_20 {xs : Nat → Int32} {rc : mS → Nat → Nat → Nat → Nat → Int32 → Option (Rs Int32)} {Q : Rs Int32 → Prop} (hrc : ∀ S, WP Q (rc S 1 149 173 174 8)) : WP Q (f_L_law_1695 8 xs rc (M3I, M3L, M3R, M3D, M3K, M3Z, 174) 1 149 173 174 0) := by
  obtain ⟨y1, hy1⟩ : ∃ y, xs 1 = y := ⟨_, rfl⟩
  obtain ⟨y2, hy2⟩ : ∃ y, xs 2 = y := ⟨_, rfl⟩
  refine wp_of (f_L_law_1695.eq_1 ..) ?_
  refine wp_gd qf_0 ?_
  refine wp_lt (xsk qf_1 hy1) ?_
  refine wp_gd qf_2 ?_
  refine wp_lt (xsk qf_3 hy2) ?_
  refine wp_bd ?_
  refine wp_of (f_L_setFader.eq_1 ..) ?_
  refine wp_gd ql_K_1 ?_
  refine wp_bdc ?_
  refine wp_of (f_X10_setFader.eq_1 ..) ?_
  refine wp_gd ql_K_1 ?_
  refine wp_bd ?_
  refine wp_of (f_X10_deckOf.eq_1 ..) ?_
  refine wp_gd ql_K_1 ?_
  refine wp_lt ql_R_1_0 ?_
  refine wp_gd ql_K_2 ?_
  refine wp_bd ?_
  refine wp_of (f_X8_deckAt.eq_1 ..) ?_
  refine wp_if (fun c1 => ?_) (fun c1 => ?_)
  · skip
    refine wp_of (f_X8_deckAt_22.eq_1 ..) ?_
    refine wp_of (f_X8_deckAt_23.eq_1 ..) ?_
    refine wp_ret_bd ?_
    refine wp_ifp qf_87 ?_
    refine wp_rs_bd ?_
    refine wp_rs_bdc ?_
    refine wp_ifp qf_88 ?_
    refine wp_ret_bd ?_
    refine wp_gd qf_0 ?_
    refine wp_lt (xsk qf_1 hy1) ?_
    refine wp_gd qf_2 ?_
    refine wp_lt (xsk qf_3 hy2) ?_
    refine wp_gd ql_K_149 ?_
    refine wp_bd ?_
    refine wp_of (f_X13_setFader.eq_1 ..) ?_
    refine wp_bd ?_
    refine wp_of (f_X13_isDeck.eq_1 ..) ?_
    refine wp_bd ?_
    refine wp_of (f_X13_isBetween.eq_1 ..) ?_
    refine wp_ifp c1 ?_
    refine wp_of (f_X13_isBetween_14.eq_1 ..) ?_
    refine wp_of (f_X13_isBetween_15.eq_1 ..) ?_
    refine wp_gd qf_14 ?_
    refine wp_ret_bd ?_
    refine wp_gd qf_14 ?_
    refine wp_ret_bd ?_
    refine wp_ifp qf_15 ?_
    refine wp_of (f_X13_setFader_27.eq_1 ..) ?_
    refine wp_gd ql_K_149 ?_
    refine wp_bd ?_
    refine wp_of (f_X13_isWrong.eq_1 ..) ?_
    refine wp_gd ql_K_149 ?_
    refine wp_zI ?_
    refine wp_ifn qf_17 ?_
    refine wp_of (f_X13_isWrong_14.eq_1 ..) ?_
    refine wp_gd qf_18 ?_
    refine wp_ret_bd ?_
    refine wp_ifn qf_19 ?_
    refine wp_ret_bd ?_
    refine wp_gd ql_K_149 ?_
    refine wp_bd ?_
    refine wp_of (f_X13_thrown.eq_1 ..) ?_
    refine wp_gd ql_K_149 ?_
    refine wp_lt gI_s ?_
    refine wp_ret_bd ?_
    refine wp_ifp qf_20 ?_
    refine wp_ifn qf_19 ?_
    refine wp_of (f_L_law_1760.eq_1 ..) ?_
    refine wp_of (f_L_law_3632.eq_1 ..) ?_
    refine wp_lt qf_21 ?_
    exact hrc _
  · skip
    refine wp_gd ql_K_2 ?_
    refine wp_lt ql_R_2_1 ?_
    refine wp_gd ql_K_16 ?_
    refine wp_lt (gZo ql_Z_16 qf_92) ?_
    refine wp_if (fun c2 => ?_) (fun c2 => ?_)
    · skip
      refine wp_of (f_X8_deckAt_22.eq_1 ..) ?_
      refine wp_of (f_X8_deckAt_23.eq_1 ..) ?_
      refine wp_ret_bd ?_
      refine wp_ifp qf_87 ?_
      refine wp_rs_bd ?_
      refine wp_rs_bdc ?_
      refine wp_ifp qf_88 ?_
      refine wp_ret_bd ?_
      refine wp_gd qf_0 ?_
      refine wp_lt (xsk qf_1 hy1) ?_
      refine wp_gd qf_2 ?_
      refine wp_lt (xsk qf_3 hy2) ?_
      refine wp_gd ql_K_149 ?_
      refine wp_bd ?_
      refine wp_of (f_X13_setFader.eq_1 ..) ?_
      refine wp_bd ?_
      refine wp_of (f_X13_isDeck.eq_1 ..) ?_
      refine wp_bd ?_
      refine wp_of (f_X13_isBetween.eq_1 ..) ?_
      refine wp_ifn c1 ?_
      refine wp_ifp (show ((3 : Int32) < y1) from by have e0 := qf_90; have e1 := qf_93; have e2 := qf_94; simp only [Int32.lt_iff_toInt_lt, Int32.le_iff_toInt_le, ← Int32.toInt_inj] at c1 c2 ⊢; omega) ?_
      refine wp_of (f_X13_isBetween_14.eq_1 ..) ?_
      refine wp_of (f_X13_isBetween_15.eq_1 ..) ?_
      refine wp_gd qf_14 ?_
      refine wp_ret_bd ?_
      refine wp_gd qf_14 ?_
      refine wp_ret_bd ?_
      refine wp_ifp qf_15 ?_
      refine wp_of (f_X13_setFader_27.eq_1 ..) ?_
      refine wp_gd ql_K_149 ?_
      refine wp_bd ?_
      refine wp_of (f_X13_isWrong.eq_1 ..) ?_
      refine wp_gd ql_K_149 ?_
      refine wp_zI ?_
      refine wp_ifn qf_17 ?_
      refine wp_of (f_X13_isWrong_14.eq_1 ..) ?_
      refine wp_gd qf_18 ?_
      refine wp_ret_bd ?_
      refine wp_ifn qf_19 ?_
      refine wp_ret_bd ?_
      refine wp_gd ql_K_149 ?_
      refine wp_bd ?_
      refine wp_of (f_X13_thrown.eq_1 ..) ?_
      refine wp_gd ql_K_149 ?_
      refine wp_lt gI_s ?_
      refine wp_ret_bd ?_
      refine wp_ifp qf_20 ?_
      refine wp_ifn qf_19 ?_
      refine wp_of (f_L_law_1760.eq_1 ..) ?_
      refine wp_of (f_L_law_3632.eq_1 ..) ?_
      refine wp_lt qf_21 ?_
      exact hrc _
    · skip
      refine wp_lt ql_R_2_1 ?_
      refine wp_gd ql_K_16 ?_
      rcases (show y1 = (0 : Int32) ∨ y1 = (1 : Int32) ∨ y1 = (2 : Int32) ∨ y1 = (3 : Int32) from by have e0 := qf_90; have e1 := qf_95; have e2 := qf_96; have e3 := qf_93; have e4 := qf_94; simp only [Int32.lt_iff_toInt_lt, Int32.le_iff_toInt_le] at c1 c2; simp only [← Int32.toInt_inj]; omega) with rfl | rfl | rfl | rfl
      · skip
        refine wp_gd (gZi ql_Z_16 qf_97) ?_
        refine wp_lt (gRk qf_32 ql_R_16_0) ?_
        refine wp_of (f_X8_deckAt_23.eq_1 ..) ?_
        refine wp_ret_bd ?_
        refine wp_ifn qf_98 ?_
        refine wp_ret_bd ?_
        refine wp_bd ?_
        refine wp_of (f_X10_isIn.eq_1 ..) ?_
        refine wp_if (fun c3 => ?_) (fun c3 => ?_)
        · skip
          refine wp_of (f_X10_isIn_14.eq_1 ..) ?_
          refine wp_of (f_X10_isIn_15.eq_1 ..) ?_
          refine wp_gd qf_14 ?_
          refine wp_ret_bd ?_
          refine wp_bd ?_
          refine wp_of (f_X10_demand.eq_1 ..) ?_
          refine wp_ifp qf_15 ?_
          refine wp_rs_bd ?_
          refine wp_rs_bdc ?_
          refine wp_ifn qf_113 ?_
          refine wp_ifp qf_16 ?_
          refine wp_ret_bd ?_
          refine wp_gd qf_0 ?_
          refine wp_lt (xsk qf_1 hy1) ?_
          refine wp_gd qf_2 ?_
          refine wp_lt (xsk qf_3 hy2) ?_
          refine wp_gd ql_K_149 ?_
          refine wp_bd ?_
          refine wp_of (f_X13_setFader.eq_1 ..) ?_
          refine wp_bd ?_
          refine wp_of (f_X13_isDeck.eq_1 ..) ?_
          refine wp_bd ?_
          refine wp_of (f_X13_isBetween.eq_1 ..) ?_
          refine wp_ifn qf_28 ?_
          refine wp_ifn qf_43 ?_
          refine wp_of (f_X13_isBetween_15.eq_1 ..) ?_
          refine wp_gd qf_18 ?_
          refine wp_ret_bd ?_
          refine wp_gd qf_18 ?_
          refine wp_ret_bd ?_
          refine wp_ifn qf_19 ?_
          refine wp_bd ?_
          refine wp_of (f_X13_isBetween.eq_1 ..) ?_
          refine wp_ifp c3 ?_
          refine wp_of (f_X13_isBetween_14.eq_1 ..) ?_
          refine wp_of (f_X13_isBetween_15.eq_1 ..) ?_
          refine wp_gd qf_14 ?_
          refine wp_ret_bd ?_
          refine wp_ifp qf_15 ?_
          refine wp_of (f_X13_setFader_27.eq_1 ..) ?_
          refine wp_gd ql_K_149 ?_
          refine wp_bd ?_
          refine wp_of (f_X13_isWrong.eq_1 ..) ?_
          refine wp_gd ql_K_149 ?_
          refine wp_zI ?_
          refine wp_ifn qf_110 ?_
          refine wp_of (f_X13_isWrong_14.eq_1 ..) ?_
          refine wp_gd qf_18 ?_
          refine wp_ret_bd ?_
          refine wp_ifn qf_19 ?_
          refine wp_ret_bd ?_
          refine wp_gd ql_K_149 ?_
          refine wp_bd ?_
          refine wp_of (f_X13_thrown.eq_1 ..) ?_
          refine wp_gd ql_K_149 ?_
          refine wp_lt gI_s ?_
          refine wp_ret_bd ?_
          refine wp_ifp qf_111 ?_
          refine wp_ifn qf_112 ?_
          refine wp_of (f_L_law_1760.eq_1 ..) ?_
          refine wp_of (f_L_law_3632.eq_1 ..) ?_
          refine wp_lt qf_21 ?_
          exact hrc _
        · skip
          refine wp_if (fun c4 => ?_) (fun c4 => ?_)
          · skip
            refine wp_of (f_X10_isIn_14.eq_1 ..) ?_
            refine wp_of (f_X10_isIn_15.eq_1 ..) ?_
            refine wp_gd qf_14 ?_
            refine wp_ret_bd ?_
            refine wp_bd ?_
            refine wp_of (f_X10_demand.eq_1 ..) ?_
            refine wp_ifp qf_15 ?_
            refine wp_rs_bd ?_
            refine wp_rs_bdc ?_
            refine wp_ifn qf_113 ?_
            refine wp_ifp qf_16 ?_
            refine wp_ret_bd ?_
            refine wp_gd qf_0 ?_
            refine wp_lt (xsk qf_1 hy1) ?_
            refine wp_gd qf_2 ?_
            refine wp_lt (xsk qf_3 hy2) ?_
            refine wp_gd ql_K_149 ?_
            refine wp_bd ?_
            refine wp_of (f_X13_setFader.eq_1 ..) ?_
            refine wp_bd ?_
            refine wp_of (f_X13_isDeck.eq_1 ..) ?_
            refine wp_bd ?_
            refine wp_of (f_X13_isBetween.eq_1 ..) ?_
            refine wp_ifn qf_28 ?_
            refine wp_ifn qf_43 ?_
            refine wp_of (f_X13_isBetween_15.eq_1 ..) ?_
            refine wp_gd qf_18 ?_
            refine wp_ret_bd ?_
            refine wp_gd qf_18 ?_
            refine wp_ret_bd ?_
            refine wp_ifn qf_19 ?_
            refine wp_bd ?_
            refine wp_of (f_X13_isBetween.eq_1 ..) ?_
            refine wp_ifn c3 ?_
            refine wp_ifp c4 ?_
            refine wp_of (f_X13_isBetween_14.eq_1 ..) ?_
            refine wp_of (f_X13_isBetween_15.eq_1 ..) ?_
            refine wp_gd qf_14 ?_
            refine wp_ret_bd ?_
            refine wp_ifp qf_15 ?_
            refine wp_of (f_X13_setFader_27.eq_1 ..) ?_
            refine wp_gd ql_K_149 ?_
            refine wp_bd ?_
            refine wp_of (f_X13_isWrong.eq_1 ..) ?_
            refine wp_gd ql_K_149 ?_
            refine wp_zI ?_
            refine wp_ifn qf_110 ?_
            refine wp_of (f_X13_isWrong_14.eq_1 ..) ?_
            refine wp_gd qf_18 ?_
            refine wp_ret_bd ?_
            refine wp_ifn qf_19 ?_
            refine wp_ret_bd ?_
            refine wp_gd ql_K_149 ?_
            refine wp_bd ?_
            refine wp_of (f_X13_thrown.eq_1 ..) ?_
            refine wp_gd ql_K_149 ?_
            refine wp_lt gI_s ?_
            refine wp_ret_bd ?_
            refine wp_ifp qf_111 ?_
            refine wp_ifn qf_112 ?_
            refine wp_of (f_L_law_1760.eq_1 ..) ?_
            refine wp_of (f_L_law_3632.eq_1 ..) ?_
            refine wp_lt qf_21 ?_
            exact hrc _
          · skip
            refine wp_of (f_X10_isIn_15.eq_1 ..) ?_
            refine wp_gd qf_18 ?_
            refine wp_ret_bd ?_
            refine wp_bd ?_
            refine wp_of (f_X10_demand.eq_1 ..) ?_
            refine wp_ifn qf_19 ?_
            refine wp_ret_bd ?_
            refine wp_gd ql_K_1 ?_
            refine wp_lt ql_R_1_2 ?_
            refine wp_gd ql_K_106 ?_
            refine wp_bd ?_
            refine wp_of (f_X6_note.eq_1 ..) ?_
            refine wp_gd ql_K_106 ?_
            refine wp_bd ?_
            refine wp_of (f_X6_open.eq_1 ..) ?_
            refine wp_gd ql_K_106 ?_
            refine wp_lt ql_I_106_2 ?_
            refine wp_lt qf_25 ?_
            refine wp_zI ?_
            refine wp_lt (Eq.trans (gI_b rfl) ql_I_106_2) ?_
            refine wp_ifn qf_26 ?_
            refine wp_lt (Eq.trans (gI_b rfl) ql_I_106_2) ?_
            refine wp_lt qf_27 ?_
            refine wp_zI ?_
            refine wp_of (f_X6_open_31.eq_1 ..) ?_
            refine wp_gd ql_K_106 ?_
            refine wp_bd ?_
            refine wp_of (f_X6_put.eq_1 ..) ?_
            refine wp_gd ql_K_106 ?_
            refine wp_lt (Eq.trans (gI_b rfl) gI_s) ?_
            refine wp_ifn qf_28 ?_
            refine wp_lt (Eq.trans (gI_b rfl) gI_s) ?_
            refine wp_lt ql_R_106_0 ?_
            refine wp_gd ql_K_107 ?_
            refine wp_lt (gZo ql_Z_107 qf_29) ?_
            refine wp_ifn qf_30 ?_
            refine wp_lt ql_R_106_0 ?_
            refine wp_lt (Eq.trans (gI_b rfl) gI_s) ?_
            refine wp_gd ql_K_107 ?_
            refine wp_gd (gZi ql_Z_107 qf_31) ?_
            refine wp_zIk qf_32 ?_
            refine wp_lt (Eq.trans (gI_a rfl) (Eq.trans (gI_b rfl) gI_s)) ?_
            refine wp_lt qf_27 ?_
            refine wp_zI ?_
            refine wp_of (f_X6_put_39.eq_1 ..) ?_
            refine wp_ret_bd ?_
            refine wp_ret_bd ?_
            refine wp_gd ql_K_106 ?_
            refine wp_bd ?_
            refine wp_of (f_X6_put.eq_1 ..) ?_
            refine wp_gd ql_K_106 ?_
            refine wp_lt gI_s ?_
            refine wp_ifn qf_33 ?_
            refine wp_lt gI_s ?_
            refine wp_lt ql_R_106_0 ?_
            refine wp_gd ql_K_107 ?_
            refine wp_lt (gZo ql_Z_107 qf_29) ?_
            refine wp_ifn qf_34 ?_
            refine wp_lt ql_R_106_0 ?_
            refine wp_lt gI_s ?_
            refine wp_gd ql_K_107 ?_
            refine wp_gd (gZi ql_Z_107 qf_35) ?_
            refine wp_zIk qf_36 ?_
            refine wp_lt (Eq.trans (gI_a rfl) gI_s) ?_
            refine wp_lt qf_37 ?_
            refine wp_zI ?_
            refine wp_of (f_X6_put_39.eq_1 ..) ?_
            refine wp_ret_bd ?_
            refine wp_gd ql_K_106 ?_
            refine wp_bd ?_
            refine wp_of (f_X6_put.eq_1 ..) ?_
            refine wp_gd ql_K_106 ?_
            refine wp_lt gI_s ?_
            refine wp_ifn qf_38 ?_
            refine wp_lt gI_s ?_
            refine wp_lt ql_R_106_0 ?_
            refine wp_gd ql_K_107 ?_
            refine wp_lt (gZo ql_Z_107 qf_29) ?_
            refine wp_ifn qf_39 ?_
            refine wp_lt ql_R_106_0 ?_
            refine wp_lt gI_s ?_
            refine wp_gd ql_K_107 ?_
            refine wp_gd (gZi ql_Z_107 qf_40) ?_
            refine wp_zIk qf_41 ?_
            refine wp_lt (Eq.trans (gI_a rfl) gI_s) ?_
            refine wp_lt qf_42 ?_
            refine wp_zI ?_
            refine wp_of (f_X6_put_39.eq_1 ..) ?_
            refine wp_ret_bd ?_
            refine wp_gd ql_K_106 ?_
            refine wp_bd ?_
            refine wp_of (f_X6_put.eq_1 ..) ?_
            refine wp_gd ql_K_106 ?_
            refine wp_lt gI_s ?_
            refine wp_ifn qf_43 ?_
            refine wp_lt gI_s ?_
            refine wp_lt ql_R_106_0 ?_
            refine wp_gd ql_K_107 ?_
            refine wp_lt (gZo ql_Z_107 qf_29) ?_
            refine wp_ifn qf_44 ?_
            refine wp_lt ql_R_106_0 ?_
            refine wp_lt gI_s ?_
            refine wp_gd ql_K_107 ?_
            refine wp_gd (gZi ql_Z_107 qf_45) ?_
            refine wp_zIk qf_46 ?_
            refine wp_lt (Eq.trans (gI_a rfl) gI_s) ?_
            refine wp_lt qf_47 ?_
            refine wp_zI ?_
            refine wp_of (f_X6_put_39.eq_1 ..) ?_
            refine wp_ret_bd ?_
            refine wp_ret_bd ?_
            refine wp_gd ql_K_17 ?_
            refine wp_lt ql_R_17_0 ?_
            refine wp_gd ql_K_18 ?_
            refine wp_bd ?_
            refine wp_of (f_X0_slide.eq_1 ..) ?_
            refine wp_gd ql_K_18 ?_
            refine wp_lt (Eq.trans (gI_a rfl) (Eq.trans (gI_a rfl) (Eq.trans (gI_a rfl) (Eq.trans (gI_a rfl) (Eq.trans (gI_a rfl) (Eq.trans (gI_a rfl) (Eq.trans (gI_a rfl) (Eq.trans (gI_a rfl) (Eq.trans (gI_a rfl) (Eq.trans (gI_a rfl) ql_I_18_3)))))))))) ?_
            refine wp_zI ?_
            refine wp_ret_bd ?_
            refine wp_ret_bdc ?_
            refine wp_lt qf_70 ?_
            refine wp_gd ql_K_173 ?_
            refine wp_gd (gZi ql_Z_173 qf_71) ?_
            refine wp_zLk qf_32 ?_
            refine wp_ret_bd ?_
            refine wp_gd qf_0 ?_
            refine wp_lt (xsk qf_1 hy1) ?_
            refine wp_gd qf_2 ?_
            refine wp_lt (xsk qf_3 hy2) ?_
            refine wp_gd ql_K_149 ?_
            refine wp_bd ?_
            refine wp_of (f_X13_setFader.eq_1 ..) ?_
            refine wp_bd ?_
            refine wp_of (f_X13_isDeck.eq_1 ..) ?_
            refine wp_bd ?_
            refine wp_of (f_X13_isBetween.eq_1 ..) ?_
            refine wp_ifn qf_28 ?_
            refine wp_ifn qf_43 ?_
            refine wp_of (f_X13_isBetween_15.eq_1 ..) ?_
            refine wp_gd qf_18 ?_
            refine wp_ret_bd ?_
            refine wp_gd qf_18 ?_
            refine wp_ret_bd ?_
            refine wp_ifn qf_19 ?_
            refine wp_bd ?_
            refine wp_of (f_X13_isBetween.eq_1 ..) ?_
            refine wp_ifn c3 ?_
            refine wp_ifn c4 ?_
            refine wp_of (f_X13_isBetween_15.eq_1 ..) ?_
            refine wp_gd qf_18 ?_
            refine wp_ret_bd ?_
            refine wp_ifn qf_19 ?_
            refine wp_of (f_X13_setFader_27.eq_1 ..) ?_
            refine wp_gd ql_K_149 ?_
            refine wp_bd ?_
            refine wp_of (f_X13_isWrong.eq_1 ..) ?_
            refine wp_gd ql_K_149 ?_
            refine wp_zI ?_
            refine wp_ifp qf_73 ?_
            refine wp_of (f_X13_isWrong_14.eq_1 ..) ?_
            refine wp_gd qf_14 ?_
            refine wp_ret_bd ?_
            refine wp_ifp qf_15 ?_
            refine wp_gd ql_K_149 ?_
            refine wp_lt ql_R_149_2 ?_
            refine wp_gd ql_K_151 ?_
            refine wp_gd (gZi ql_Z_151 qf_97) ?_
            refine wp_lt (gRk qf_32 ql_R_151_0) ?_
            refine wp_gd ql_K_152 ?_
            refine wp_lt (Eq.trans (gI_a rfl) (Eq.trans (gI_a rfl) (Eq.trans (gI_a rfl) (Eq.trans (gI_a rfl) (Eq.trans (gI_a rfl) (Eq.trans (gI_a rfl) (Eq.trans (gI_a rfl) (Eq.trans (gI_a rfl) (Eq.trans (gI_a rfl) (Eq.trans (gI_a rfl) (Eq.trans (gI_a rfl) (Eq.trans (gI_a rfl) ql_I_152_5)))))))))))) ?_
            refine wp_lt ql_R_149_2 ?_
            refine wp_gd ql_K_151 ?_
            refine wp_gd (gZi ql_Z_151 qf_97) ?_
            refine wp_lt (gRk qf_32 ql_R_151_0) ?_
            refine wp_gd ql_K_152 ?_
            refine wp_zI ?_
            refine wp_bd ?_
            refine wp_of (f_X13_logs.eq_1 ..) ?_
            refine wp_gd ql_K_149 ?_
            refine wp_lt (Eq.trans (gI_a rfl) (Eq.trans (gI_b rfl) (Eq.trans (gI_a rfl) (Eq.trans (gI_a rfl) (Eq.trans (gI_a rfl) (Eq.trans (gI_a rfl) (Eq.trans (gI_a rfl) (Eq.trans (gI_a rfl) (Eq.trans (gI_a rfl) (Eq.trans (gI_a rfl) (Eq.trans (gI_a rfl) (Eq.trans (gI_a rfl) (Eq.trans (gI_a rfl) ql_I_149_16))))))))))))) ?_
            refine wp_lt qf_27 ?_
            refine wp_zI ?_
            refine wp_ret_bd ?_
            refine wp_ret_bd ?_
            refine wp_gd ql_K_149 ?_
            refine wp_bd ?_
            refine wp_of (f_X13_thrown.eq_1 ..) ?_
            refine wp_gd ql_K_149 ?_
            refine wp_lt (Eq.trans (gI_b rfl) (Eq.trans (gI_a rfl) gI_s)) ?_
            refine wp_ret_bd ?_
            refine wp_ifp qf_15 ?_
            refine wp_ifp qf_15 ?_
            refine wp_gd ql_K_173 ?_
            refine wp_gd (gZi ql_Z_173 qf_71) ?_
            refine wp_lt (gLk qf_32 gL_s) ?_
            refine wp_lt qf_70 ?_
            refine wp_lt qf_81 ?_
            refine wp_ifp qf_15 ?_
            refine wp_of (f_L_law_1760.eq_1 ..) ?_
            refine wp_of (f_L_law_3632.eq_1 ..) ?_
            refine wp_lt qf_21 ?_
            exact hrc _
      · skip
        refine wp_gd (gZi ql_Z_16 qf_99) ?_
        refine wp_lt (gRk qf_36 ql_R_16_1) ?_
        refine wp_of (f_X8_deckAt_23.eq_1 ..) ?_
        refine wp_ret_bd ?_
        refine wp_ifn qf_100 ?_
        refine wp_ret_bd ?_
        refine wp_bd ?_
        refine wp_of (f_X10_isIn.eq_1 ..) ?_
        refine wp_if (fun c3 => ?_) (fun c3 => ?_)
        · skip
          refine wp_of (f_X10_isIn_14.eq_1 ..) ?_
          refine wp_of (f_X10_isIn_15.eq_1 ..) ?_
          refine wp_gd qf_14 ?_
          refine wp_ret_bd ?_
          refine wp_bd ?_
          refine wp_of (f_X10_demand.eq_1 ..) ?_
          refine wp_ifp qf_15 ?_
          refine wp_rs_bd ?_
          refine wp_rs_bdc ?_
          refine wp_ifn qf_113 ?_
          refine wp_ifp qf_16 ?_
          refine wp_ret_bd ?_
          refine wp_gd qf_0 ?_
          refine wp_lt (xsk qf_1 hy1) ?_
          refine wp_gd qf_2 ?_
          refine wp_lt (xsk qf_3 hy2) ?_
          refine wp_gd ql_K_149 ?_
          refine wp_bd ?_
          refine wp_of (f_X13_setFader.eq_1 ..) ?_
          refine wp_bd ?_
          refine wp_of (f_X13_isDeck.eq_1 ..) ?_
          refine wp_bd ?_
          refine wp_of (f_X13_isBetween.eq_1 ..) ?_
          refine wp_ifn qf_33 ?_
          refine wp_ifn qf_101 ?_
          refine wp_of (f_X13_isBetween_15.eq_1 ..) ?_
          refine wp_gd qf_18 ?_
          refine wp_ret_bd ?_
          refine wp_gd qf_18 ?_
          refine wp_ret_bd ?_
          refine wp_ifn qf_19 ?_
          refine wp_bd ?_
          refine wp_of (f_X13_isBetween.eq_1 ..) ?_
          refine wp_ifp c3 ?_
          refine wp_of (f_X13_isBetween_14.eq_1 ..) ?_
          refine wp_of (f_X13_isBetween_15.eq_1 ..) ?_
          refine wp_gd qf_14 ?_
          refine wp_ret_bd ?_
          refine wp_ifp qf_15 ?_
          refine wp_of (f_X13_setFader_27.eq_1 ..) ?_
          refine wp_gd ql_K_149 ?_
          refine wp_bd ?_
          refine wp_of (f_X13_isWrong.eq_1 ..) ?_
          refine wp_gd ql_K_149 ?_
          refine wp_zI ?_
          refine wp_ifn qf_110 ?_
          refine wp_of (f_X13_isWrong_14.eq_1 ..) ?_
          refine wp_gd qf_18 ?_
          refine wp_ret_bd ?_
          refine wp_ifn qf_19 ?_
          refine wp_ret_bd ?_
          refine wp_gd ql_K_149 ?_
          refine wp_bd ?_
          refine wp_of (f_X13_thrown.eq_1 ..) ?_
          refine wp_gd ql_K_149 ?_
          refine wp_lt gI_s ?_
          refine wp_ret_bd ?_
          refine wp_ifp qf_111 ?_
          refine wp_ifn qf_112 ?_
          refine wp_of (f_L_law_1760.eq_1 ..) ?_
          refine wp_of (f_L_law_3632.eq_1 ..) ?_
          refine wp_lt qf_21 ?_
          exact hrc _
        · skip
          refine wp_if (fun c4 => ?_) (fun c4 => ?_)
          · skip
            refine wp_of (f_X10_isIn_14.eq_1 ..) ?_
            refine wp_of (f_X10_isIn_15.eq_1 ..) ?_
            refine wp_gd qf_14 ?_
            refine wp_ret_bd ?_
            refine wp_bd ?_
            refine wp_of (f_X10_demand.eq_1 ..) ?_
            refine wp_ifp qf_15 ?_
            refine wp_rs_bd ?_
            refine wp_rs_bdc ?_
            refine wp_ifn qf_113 ?_
            refine wp_ifp qf_16 ?_
            refine wp_ret_bd ?_
            refine wp_gd qf_0 ?_
            refine wp_lt (xsk qf_1 hy1) ?_
            refine wp_gd qf_2 ?_
            refine wp_lt (xsk qf_3 hy2) ?_
            refine wp_gd ql_K_149 ?_
            refine wp_bd ?_
            refine wp_of (f_X13_setFader.eq_1 ..) ?_
            refine wp_bd ?_
            refine wp_of (f_X13_isDeck.eq_1 ..) ?_
            refine wp_bd ?_
            refine wp_of (f_X13_isBetween.eq_1 ..) ?_
            refine wp_ifn qf_33 ?_
            refine wp_ifn qf_101 ?_
            refine wp_of (f_X13_isBetween_15.eq_1 ..) ?_
            refine wp_gd qf_18 ?_
            refine wp_ret_bd ?_
            refine wp_gd qf_18 ?_
            refine wp_ret_bd ?_
            refine wp_ifn qf_19 ?_
            refine wp_bd ?_
            refine wp_of (f_X13_isBetween.eq_1 ..) ?_
            refine wp_ifn c3 ?_
            refine wp_ifp c4 ?_
            refine wp_of (f_X13_isBetween_14.eq_1 ..) ?_
            refine wp_of (f_X13_isBetween_15.eq_1 ..) ?_
            refine wp_gd qf_14 ?_
            refine wp_ret_bd ?_
            refine wp_ifp qf_15 ?_
            refine wp_of (f_X13_setFader_27.eq_1 ..) ?_
            refine wp_gd ql_K_149 ?_
            refine wp_bd ?_
            refine wp_of (f_X13_isWrong.eq_1 ..) ?_
            refine wp_gd ql_K_149 ?_
            refine wp_zI ?_
            refine wp_ifn qf_110 ?_
            refine wp_of (f_X13_isWrong_14.eq_1 ..) ?_
            refine wp_gd qf_18 ?_
            refine wp_ret_bd ?_
            refine wp_ifn qf_19 ?_
            refine wp_ret_bd ?_
            refine wp_gd ql_K_149 ?_
            refine wp_bd ?_
            refine wp_of (f_X13_thrown.eq_1 ..) ?_
            refine wp_gd ql_K_149 ?_
            refine wp_lt gI_s ?_
            refine wp_ret_bd ?_
            refine wp_ifp qf_111 ?_
            refine wp_ifn qf_112 ?_
            refine wp_of (f_L_law_1760.eq_1 ..) ?_
            refine wp_of (f_L_law_3632.eq_1 ..) ?_
            refine wp_lt qf_21 ?_
            exact hrc _
          · skip
            refine wp_of (f_X10_isIn_15.eq_1 ..) ?_
            refine wp_gd qf_18 ?_
            refine wp_ret_bd ?_
            refine wp_bd ?_
            refine wp_of (f_X10_demand.eq_1 ..) ?_
            refine wp_ifn qf_19 ?_
            refine wp_ret_bd ?_
            refine wp_gd ql_K_1 ?_
            refine wp_lt ql_R_1_2 ?_
            refine wp_gd ql_K_106 ?_
            refine wp_bd ?_
            refine wp_of (f_X6_note.eq_1 ..) ?_
            refine wp_gd ql_K_106 ?_
            refine wp_bd ?_
            refine wp_of (f_X6_open.eq_1 ..) ?_
            refine wp_gd ql_K_106 ?_
            refine wp_lt ql_I_106_2 ?_
            refine wp_lt qf_25 ?_
            refine wp_zI ?_
            refine wp_lt (Eq.trans (gI_b rfl) ql_I_106_2) ?_
            refine wp_ifn qf_26 ?_
            refine wp_lt (Eq.trans (gI_b rfl) ql_I_106_2) ?_
            refine wp_lt qf_27 ?_
            refine wp_zI ?_
            refine wp_of (f_X6_open_31.eq_1 ..) ?_
            refine wp_gd ql_K_106 ?_
            refine wp_bd ?_
            refine wp_of (f_X6_put.eq_1 ..) ?_
            refine wp_gd ql_K_106 ?_
            refine wp_lt (Eq.trans (gI_b rfl) gI_s) ?_
            refine wp_ifn qf_28 ?_
            refine wp_lt (Eq.trans (gI_b rfl) gI_s) ?_
            refine wp_lt ql_R_106_0 ?_
            refine wp_gd ql_K_107 ?_
            refine wp_lt (gZo ql_Z_107 qf_29) ?_
            refine wp_ifn qf_30 ?_
            refine wp_lt ql_R_106_0 ?_
            refine wp_lt (Eq.trans (gI_b rfl) gI_s) ?_
            refine wp_gd ql_K_107 ?_
            refine wp_gd (gZi ql_Z_107 qf_31) ?_
            refine wp_zIk qf_32 ?_
            refine wp_lt (Eq.trans (gI_a rfl) (Eq.trans (gI_b rfl) gI_s)) ?_
            refine wp_lt qf_27 ?_
            refine wp_zI ?_
            refine wp_of (f_X6_put_39.eq_1 ..) ?_
            refine wp_ret_bd ?_
            refine wp_ret_bd ?_
            refine wp_gd ql_K_106 ?_
            refine wp_bd ?_
            refine wp_of (f_X6_put.eq_1 ..) ?_
            refine wp_gd ql_K_106 ?_
            refine wp_lt gI_s ?_
            refine wp_ifn qf_33 ?_
            refine wp_lt gI_s ?_
            refine wp_lt ql_R_106_0 ?_
            refine wp_gd ql_K_107 ?_
            refine wp_lt (gZo ql_Z_107 qf_29) ?_
            refine wp_ifn qf_34 ?_
            refine wp_lt ql_R_106_0 ?_
            refine wp_lt gI_s ?_
            refine wp_gd ql_K_107 ?_
            refine wp_gd (gZi ql_Z_107 qf_35) ?_
            refine wp_zIk qf_36 ?_
            refine wp_lt (Eq.trans (gI_a rfl) gI_s) ?_
            refine wp_lt qf_37 ?_
            refine wp_zI ?_
            refine wp_of (f_X6_put_39.eq_1 ..) ?_
            refine wp_ret_bd ?_
            refine wp_gd ql_K_106 ?_
            refine wp_bd ?_
            refine wp_of (f_X6_put.eq_1 ..) ?_
            refine wp_gd ql_K_106 ?_
            refine wp_lt gI_s ?_
            refine wp_ifn qf_38 ?_
            refine wp_lt gI_s ?_
            refine wp_lt ql_R_106_0 ?_
            refine wp_gd ql_K_107 ?_
            refine wp_lt (gZo ql_Z_107 qf_29) ?_
            refine wp_ifn qf_39 ?_
            refine wp_lt ql_R_106_0 ?_
            refine wp_lt gI_s ?_
            refine wp_gd ql_K_107 ?_
            refine wp_gd (gZi ql_Z_107 qf_40) ?_
            refine wp_zIk qf_41 ?_
            refine wp_lt (Eq.trans (gI_a rfl) gI_s) ?_
            refine wp_lt qf_42 ?_
            refine wp_zI ?_
            refine wp_of (f_X6_put_39.eq_1 ..) ?_
            refine wp_ret_bd ?_
            refine wp_gd ql_K_106 ?_
            refine wp_bd ?_
            refine wp_of (f_X6_put.eq_1 ..) ?_
            refine wp_gd ql_K_106 ?_
            refine wp_lt gI_s ?_
            refine wp_ifn qf_43 ?_
            refine wp_lt gI_s ?_
            refine wp_lt ql_R_106_0 ?_
            refine wp_gd ql_K_107 ?_
            refine wp_lt (gZo ql_Z_107 qf_29) ?_
            refine wp_ifn qf_44 ?_
            refine wp_lt ql_R_106_0 ?_
            refine wp_lt gI_s ?_
            refine wp_gd ql_K_107 ?_
            refine wp_gd (gZi ql_Z_107 qf_45) ?_
            refine wp_zIk qf_46 ?_
            refine wp_lt (Eq.trans (gI_a rfl) gI_s) ?_
            refine wp_lt qf_47 ?_
            refine wp_zI ?_
            refine wp_of (f_X6_put_39.eq_1 ..) ?_
            refine wp_ret_bd ?_
            refine wp_ret_bd ?_
            refine wp_gd ql_K_25 ?_
            refine wp_lt ql_R_25_0 ?_
            refine wp_gd ql_K_26 ?_
            refine wp_bd ?_
            refine wp_of (f_X0_slide.eq_1 ..) ?_
            refine wp_gd ql_K_26 ?_
            refine wp_lt (Eq.trans (gI_a rfl) (Eq.trans (gI_a rfl) (Eq.trans (gI_a rfl) (Eq.trans (gI_a rfl) (Eq.trans (gI_a rfl) (Eq.trans (gI_a rfl) (Eq.trans (gI_a rfl) (Eq.trans (gI_a rfl) (Eq.trans (gI_a rfl) (Eq.trans (gI_a rfl) ql_I_26_3)))))))))) ?_
            refine wp_zI ?_
            refine wp_ret_bd ?_
            refine wp_ret_bdc ?_
            refine wp_lt qf_70 ?_
            refine wp_gd ql_K_173 ?_
            refine wp_gd (gZi ql_Z_173 qf_71) ?_
            refine wp_zLk qf_32 ?_
            refine wp_ret_bd ?_
            refine wp_gd qf_0 ?_
            refine wp_lt (xsk qf_1 hy1) ?_
            refine wp_gd qf_2 ?_
            refine wp_lt (xsk qf_3 hy2) ?_
            refine wp_gd ql_K_149 ?_
            refine wp_bd ?_
            refine wp_of (f_X13_setFader.eq_1 ..) ?_
            refine wp_bd ?_
            refine wp_of (f_X13_isDeck.eq_1 ..) ?_
            refine wp_bd ?_
            refine wp_of (f_X13_isBetween.eq_1 ..) ?_
            refine wp_ifn qf_33 ?_
            refine wp_ifn qf_101 ?_
            refine wp_of (f_X13_isBetween_15.eq_1 ..) ?_
            refine wp_gd qf_18 ?_
            refine wp_ret_bd ?_
            refine wp_gd qf_18 ?_
            refine wp_ret_bd ?_
            refine wp_ifn qf_19 ?_
            refine wp_bd ?_
            refine wp_of (f_X13_isBetween.eq_1 ..) ?_
            refine wp_ifn c3 ?_
            refine wp_ifn c4 ?_
            refine wp_of (f_X13_isBetween_15.eq_1 ..) ?_
            refine wp_gd qf_18 ?_
            refine wp_ret_bd ?_
            refine wp_ifn qf_19 ?_
            refine wp_of (f_X13_setFader_27.eq_1 ..) ?_
            refine wp_gd ql_K_149 ?_
            refine wp_bd ?_
            refine wp_of (f_X13_isWrong.eq_1 ..) ?_
            refine wp_gd ql_K_149 ?_
            refine wp_zI ?_
            refine wp_ifp qf_73 ?_
            refine wp_of (f_X13_isWrong_14.eq_1 ..) ?_
            refine wp_gd qf_14 ?_
            refine wp_ret_bd ?_
            refine wp_ifp qf_15 ?_
            refine wp_gd ql_K_149 ?_
            refine wp_lt ql_R_149_2 ?_
            refine wp_gd ql_K_151 ?_
            refine wp_gd (gZi ql_Z_151 qf_99) ?_
            refine wp_lt (gRk qf_36 ql_R_151_1) ?_
            refine wp_gd ql_K_156 ?_
            refine wp_lt (Eq.trans (gI_a rfl) (Eq.trans (gI_a rfl) (Eq.trans (gI_a rfl) (Eq.trans (gI_a rfl) (Eq.trans (gI_a rfl) (Eq.trans (gI_a rfl) (Eq.trans (gI_a rfl) (Eq.trans (gI_a rfl) (Eq.trans (gI_a rfl) (Eq.trans (gI_a rfl) (Eq.trans (gI_a rfl) (Eq.trans (gI_a rfl) ql_I_156_5)))))))))))) ?_
            refine wp_lt ql_R_149_2 ?_
            refine wp_gd ql_K_151 ?_
            refine wp_gd (gZi ql_Z_151 qf_99) ?_
            refine wp_lt (gRk qf_36 ql_R_151_1) ?_
            refine wp_gd ql_K_156 ?_
            refine wp_zI ?_
            refine wp_bd ?_
            refine wp_of (f_X13_logs.eq_1 ..) ?_
            refine wp_gd ql_K_149 ?_
            refine wp_lt (Eq.trans (gI_a rfl) (Eq.trans (gI_b rfl) (Eq.trans (gI_a rfl) (Eq.trans (gI_a rfl) (Eq.trans (gI_a rfl) (Eq.trans (gI_a rfl) (Eq.trans (gI_a rfl) (Eq.trans (gI_a rfl) (Eq.trans (gI_a rfl) (Eq.trans (gI_a rfl) (Eq.trans (gI_a rfl) (Eq.trans (gI_a rfl) (Eq.trans (gI_a rfl) ql_I_149_16))))))))))))) ?_
            refine wp_lt qf_27 ?_
            refine wp_zI ?_
            refine wp_ret_bd ?_
            refine wp_ret_bd ?_
            refine wp_gd ql_K_149 ?_
            refine wp_bd ?_
            refine wp_of (f_X13_thrown.eq_1 ..) ?_
            refine wp_gd ql_K_149 ?_
            refine wp_lt (Eq.trans (gI_b rfl) (Eq.trans (gI_a rfl) gI_s)) ?_
            refine wp_ret_bd ?_
            refine wp_ifp qf_15 ?_
            refine wp_ifp qf_15 ?_
            refine wp_gd ql_K_173 ?_
            refine wp_gd (gZi ql_Z_173 qf_71) ?_
            refine wp_lt (gLk qf_32 gL_s) ?_
            refine wp_lt qf_70 ?_
            refine wp_lt qf_81 ?_
            refine wp_ifp qf_15 ?_
            refine wp_of (f_L_law_1760.eq_1 ..) ?_
            refine wp_of (f_L_law_3632.eq_1 ..) ?_
            refine wp_lt qf_21 ?_
            exact hrc _
      · skip
        refine wp_gd (gZi ql_Z_16 qf_102) ?_
        refine wp_lt (gRk qf_41 ql_R_16_2) ?_
        refine wp_of (f_X8_deckAt_23.eq_1 ..) ?_
        refine wp_ret_bd ?_
        refine wp_ifn qf_103 ?_
        refine wp_ret_bd ?_
        refine wp_bd ?_
        refine wp_of (f_X10_isIn.eq_1 ..) ?_
        refine wp_if (fun c3 => ?_) (fun c3 => ?_)
        · skip
          refine wp_of (f_X10_isIn_14.eq_1 ..) ?_
          refine wp_of (f_X10_isIn_15.eq_1 ..) ?_
          refine wp_gd qf_14 ?_
          refine wp_ret_bd ?_
          refine wp_bd ?_
          refine wp_of (f_X10_demand.eq_1 ..) ?_
          refine wp_ifp qf_15 ?_
          refine wp_rs_bd ?_
          refine wp_rs_bdc ?_
          refine wp_ifn qf_113 ?_
          refine wp_ifp qf_16 ?_
          refine wp_ret_bd ?_
          refine wp_gd qf_0 ?_
          refine wp_lt (xsk qf_1 hy1) ?_
          refine wp_gd qf_2 ?_
          refine wp_lt (xsk qf_3 hy2) ?_
          refine wp_gd ql_K_149 ?_
          refine wp_bd ?_
          refine wp_of (f_X13_setFader.eq_1 ..) ?_
          refine wp_bd ?_
          refine wp_of (f_X13_isDeck.eq_1 ..) ?_
          refine wp_bd ?_
          refine wp_of (f_X13_isBetween.eq_1 ..) ?_
          refine wp_ifn qf_38 ?_
          refine wp_ifn qf_104 ?_
          refine wp_of (f_X13_isBetween_15.eq_1 ..) ?_
          refine wp_gd qf_18 ?_
          refine wp_ret_bd ?_
          refine wp_gd qf_18 ?_
          refine wp_ret_bd ?_
          refine wp_ifn qf_19 ?_
          refine wp_bd ?_
          refine wp_of (f_X13_isBetween.eq_1 ..) ?_
          refine wp_ifp c3 ?_
          refine wp_of (f_X13_isBetween_14.eq_1 ..) ?_
          refine wp_of (f_X13_isBetween_15.eq_1 ..) ?_
          refine wp_gd qf_14 ?_
          refine wp_ret_bd ?_
          refine wp_ifp qf_15 ?_
          refine wp_of (f_X13_setFader_27.eq_1 ..) ?_
          refine wp_gd ql_K_149 ?_
          refine wp_bd ?_
          refine wp_of (f_X13_isWrong.eq_1 ..) ?_
          refine wp_gd ql_K_149 ?_
          refine wp_zI ?_
          refine wp_ifn qf_110 ?_
          refine wp_of (f_X13_isWrong_14.eq_1 ..) ?_
          refine wp_gd qf_18 ?_
          refine wp_ret_bd ?_
          refine wp_ifn qf_19 ?_
          refine wp_ret_bd ?_
          refine wp_gd ql_K_149 ?_
          refine wp_bd ?_
          refine wp_of (f_X13_thrown.eq_1 ..) ?_
          refine wp_gd ql_K_149 ?_
          refine wp_lt gI_s ?_
          refine wp_ret_bd ?_
          refine wp_ifp qf_111 ?_
          refine wp_ifn qf_112 ?_
          refine wp_of (f_L_law_1760.eq_1 ..) ?_
          refine wp_of (f_L_law_3632.eq_1 ..) ?_
          refine wp_lt qf_21 ?_
          exact hrc _
        · skip
          refine wp_if (fun c4 => ?_) (fun c4 => ?_)
          · skip
            refine wp_of (f_X10_isIn_14.eq_1 ..) ?_
            refine wp_of (f_X10_isIn_15.eq_1 ..) ?_
            refine wp_gd qf_14 ?_
            refine wp_ret_bd ?_
            refine wp_bd ?_
            refine wp_of (f_X10_demand.eq_1 ..) ?_
            refine wp_ifp qf_15 ?_
            refine wp_rs_bd ?_
            refine wp_rs_bdc ?_
            refine wp_ifn qf_113 ?_
            refine wp_ifp qf_16 ?_
            refine wp_ret_bd ?_
            refine wp_gd qf_0 ?_
            refine wp_lt (xsk qf_1 hy1) ?_
            refine wp_gd qf_2 ?_
            refine wp_lt (xsk qf_3 hy2) ?_
            refine wp_gd ql_K_149 ?_
            refine wp_bd ?_
            refine wp_of (f_X13_setFader.eq_1 ..) ?_
            refine wp_bd ?_
            refine wp_of (f_X13_isDeck.eq_1 ..) ?_
            refine wp_bd ?_
            refine wp_of (f_X13_isBetween.eq_1 ..) ?_
            refine wp_ifn qf_38 ?_
            refine wp_ifn qf_104 ?_
            refine wp_of (f_X13_isBetween_15.eq_1 ..) ?_
            refine wp_gd qf_18 ?_
            refine wp_ret_bd ?_
            refine wp_gd qf_18 ?_
            refine wp_ret_bd ?_
            refine wp_ifn qf_19 ?_
            refine wp_bd ?_
            refine wp_of (f_X13_isBetween.eq_1 ..) ?_
            refine wp_ifn c3 ?_
            refine wp_ifp c4 ?_
            refine wp_of (f_X13_isBetween_14.eq_1 ..) ?_
            refine wp_of (f_X13_isBetween_15.eq_1 ..) ?_
            refine wp_gd qf_14 ?_
            refine wp_ret_bd ?_
            refine wp_ifp qf_15 ?_
            refine wp_of (f_X13_setFader_27.eq_1 ..) ?_
            refine wp_gd ql_K_149 ?_
            refine wp_bd ?_
            refine wp_of (f_X13_isWrong.eq_1 ..) ?_
            refine wp_gd ql_K_149 ?_
            refine wp_zI ?_
            refine wp_ifn qf_110 ?_
            refine wp_of (f_X13_isWrong_14.eq_1 ..) ?_
            refine wp_gd qf_18 ?_
            refine wp_ret_bd ?_
            refine wp_ifn qf_19 ?_
            refine wp_ret_bd ?_
            refine wp_gd ql_K_149 ?_
            refine wp_bd ?_
            refine wp_of (f_X13_thrown.eq_1 ..) ?_
            refine wp_gd ql_K_149 ?_
            refine wp_lt gI_s ?_
            refine wp_ret_bd ?_
            refine wp_ifp qf_111 ?_
            refine wp_ifn qf_112 ?_
            refine wp_of (f_L_law_1760.eq_1 ..) ?_
            refine wp_of (f_L_law_3632.eq_1 ..) ?_
            refine wp_lt qf_21 ?_
            exact hrc _
          · skip
            refine wp_of (f_X10_isIn_15.eq_1 ..) ?_
            refine wp_gd qf_18 ?_
            refine wp_ret_bd ?_
            refine wp_bd ?_
            refine wp_of (f_X10_demand.eq_1 ..) ?_
            refine wp_ifn qf_19 ?_
            refine wp_ret_bd ?_
            refine wp_gd ql_K_1 ?_
            refine wp_lt ql_R_1_2 ?_
            refine wp_gd ql_K_106 ?_
            refine wp_bd ?_
            refine wp_of (f_X6_note.eq_1 ..) ?_
            refine wp_gd ql_K_106 ?_
            refine wp_bd ?_
            refine wp_of (f_X6_open.eq_1 ..) ?_
            refine wp_gd ql_K_106 ?_
            refine wp_lt ql_I_106_2 ?_
            refine wp_lt qf_25 ?_
            refine wp_zI ?_
            refine wp_lt (Eq.trans (gI_b rfl) ql_I_106_2) ?_
            refine wp_ifn qf_26 ?_
            refine wp_lt (Eq.trans (gI_b rfl) ql_I_106_2) ?_
            refine wp_lt qf_27 ?_
            refine wp_zI ?_
            refine wp_of (f_X6_open_31.eq_1 ..) ?_
            refine wp_gd ql_K_106 ?_
            refine wp_bd ?_
            refine wp_of (f_X6_put.eq_1 ..) ?_
            refine wp_gd ql_K_106 ?_
            refine wp_lt (Eq.trans (gI_b rfl) gI_s) ?_
            refine wp_ifn qf_28 ?_
            refine wp_lt (Eq.trans (gI_b rfl) gI_s) ?_
            refine wp_lt ql_R_106_0 ?_
            refine wp_gd ql_K_107 ?_
            refine wp_lt (gZo ql_Z_107 qf_29) ?_
            refine wp_ifn qf_30 ?_
            refine wp_lt ql_R_106_0 ?_
            refine wp_lt (Eq.trans (gI_b rfl) gI_s) ?_
            refine wp_gd ql_K_107 ?_
            refine wp_gd (gZi ql_Z_107 qf_31) ?_
            refine wp_zIk qf_32 ?_
            refine wp_lt (Eq.trans (gI_a rfl) (Eq.trans (gI_b rfl) gI_s)) ?_
            refine wp_lt qf_27 ?_
            refine wp_zI ?_
            refine wp_of (f_X6_put_39.eq_1 ..) ?_
            refine wp_ret_bd ?_
            refine wp_ret_bd ?_
            refine wp_gd ql_K_106 ?_
            refine wp_bd ?_
            refine wp_of (f_X6_put.eq_1 ..) ?_
            refine wp_gd ql_K_106 ?_
            refine wp_lt gI_s ?_
            refine wp_ifn qf_33 ?_
            refine wp_lt gI_s ?_
            refine wp_lt ql_R_106_0 ?_
            refine wp_gd ql_K_107 ?_
            refine wp_lt (gZo ql_Z_107 qf_29) ?_
            refine wp_ifn qf_34 ?_
            refine wp_lt ql_R_106_0 ?_
            refine wp_lt gI_s ?_
            refine wp_gd ql_K_107 ?_
            refine wp_gd (gZi ql_Z_107 qf_35) ?_
            refine wp_zIk qf_36 ?_
            refine wp_lt (Eq.trans (gI_a rfl) gI_s) ?_
            refine wp_lt qf_37 ?_
            refine wp_zI ?_
            refine wp_of (f_X6_put_39.eq_1 ..) ?_
            refine wp_ret_bd ?_
            refine wp_gd ql_K_106 ?_
            refine wp_bd ?_
            refine wp_of (f_X6_put.eq_1 ..) ?_
            refine wp_gd ql_K_106 ?_
            refine wp_lt gI_s ?_
            refine wp_ifn qf_38 ?_
            refine wp_lt gI_s ?_
            refine wp_lt ql_R_106_0 ?_
            refine wp_gd ql_K_107 ?_
            refine wp_lt (gZo ql_Z_107 qf_29) ?_
            refine wp_ifn qf_39 ?_
            refine wp_lt ql_R_106_0 ?_
            refine wp_lt gI_s ?_
            refine wp_gd ql_K_107 ?_
            refine wp_gd (gZi ql_Z_107 qf_40) ?_
            refine wp_zIk qf_41 ?_
            refine wp_lt (Eq.trans (gI_a rfl) gI_s) ?_
            refine wp_lt qf_42 ?_
            refine wp_zI ?_
            refine wp_of (f_X6_put_39.eq_1 ..) ?_
            refine wp_ret_bd ?_
            refine wp_gd ql_K_106 ?_
            refine wp_bd ?_
            refine wp_of (f_X6_put.eq_1 ..) ?_
            refine wp_gd ql_K_106 ?_
            refine wp_lt gI_s ?_
            refine wp_ifn qf_43 ?_
            refine wp_lt gI_s ?_
            refine wp_lt ql_R_106_0 ?_
            refine wp_gd ql_K_107 ?_
            refine wp_lt (gZo ql_Z_107 qf_29) ?_
            refine wp_ifn qf_44 ?_
            refine wp_lt ql_R_106_0 ?_
            refine wp_lt gI_s ?_
            refine wp_gd ql_K_107 ?_
            refine wp_gd (gZi ql_Z_107 qf_45) ?_
            refine wp_zIk qf_46 ?_
            refine wp_lt (Eq.trans (gI_a rfl) gI_s) ?_
            refine wp_lt qf_47 ?_
            refine wp_zI ?_
            refine wp_of (f_X6_put_39.eq_1 ..) ?_
            refine wp_ret_bd ?_
            refine wp_ret_bd ?_
            refine wp_gd ql_K_33 ?_
            refine wp_lt ql_R_33_0 ?_
            refine wp_gd ql_K_34 ?_
            refine wp_bd ?_
            refine wp_of (f_X0_slide.eq_1 ..) ?_
            refine wp_gd ql_K_34 ?_
            refine wp_lt (Eq.trans (gI_a rfl) (Eq.trans (gI_a rfl) (Eq.trans (gI_a rfl) (Eq.trans (gI_a rfl) (Eq.trans (gI_a rfl) (Eq.trans (gI_a rfl) (Eq.trans (gI_a rfl) (Eq.trans (gI_a rfl) (Eq.trans (gI_a rfl) (Eq.trans (gI_a rfl) ql_I_34_3)))))))))) ?_
            refine wp_zI ?_
            refine wp_ret_bd ?_
            refine wp_ret_bdc ?_
            refine wp_lt qf_70 ?_
            refine wp_gd ql_K_173 ?_
            refine wp_gd (gZi ql_Z_173 qf_71) ?_
            refine wp_zLk qf_32 ?_
            refine wp_ret_bd ?_
            refine wp_gd qf_0 ?_
            refine wp_lt (xsk qf_1 hy1) ?_
            refine wp_gd qf_2 ?_
            refine wp_lt (xsk qf_3 hy2) ?_
            refine wp_gd ql_K_149 ?_
            refine wp_bd ?_
            refine wp_of (f_X13_setFader.eq_1 ..) ?_
            refine wp_bd ?_
            refine wp_of (f_X13_isDeck.eq_1 ..) ?_
            refine wp_bd ?_
            refine wp_of (f_X13_isBetween.eq_1 ..) ?_
            refine wp_ifn qf_38 ?_
            refine wp_ifn qf_104 ?_
            refine wp_of (f_X13_isBetween_15.eq_1 ..) ?_
            refine wp_gd qf_18 ?_
            refine wp_ret_bd ?_
            refine wp_gd qf_18 ?_
            refine wp_ret_bd ?_
            refine wp_ifn qf_19 ?_
            refine wp_bd ?_
            refine wp_of (f_X13_isBetween.eq_1 ..) ?_
            refine wp_ifn c3 ?_
            refine wp_ifn c4 ?_
            refine wp_of (f_X13_isBetween_15.eq_1 ..) ?_
            refine wp_gd qf_18 ?_
            refine wp_ret_bd ?_
            refine wp_ifn qf_19 ?_
            refine wp_of (f_X13_setFader_27.eq_1 ..) ?_
            refine wp_gd ql_K_149 ?_
            refine wp_bd ?_
            refine wp_of (f_X13_isWrong.eq_1 ..) ?_
            refine wp_gd ql_K_149 ?_
            refine wp_zI ?_
            refine wp_ifp qf_73 ?_
            refine wp_of (f_X13_isWrong_14.eq_1 ..) ?_
            refine wp_gd qf_14 ?_
            refine wp_ret_bd ?_
            refine wp_ifp qf_15 ?_
            refine wp_gd ql_K_149 ?_
            refine wp_lt ql_R_149_2 ?_
            refine wp_gd ql_K_151 ?_
            refine wp_gd (gZi ql_Z_151 qf_102) ?_
            refine wp_lt (gRk qf_41 ql_R_151_2) ?_
            refine wp_gd ql_K_160 ?_
            refine wp_lt (Eq.trans (gI_a rfl) (Eq.trans (gI_a rfl) (Eq.trans (gI_a rfl) (Eq.trans (gI_a rfl) (Eq.trans (gI_a rfl) (Eq.trans (gI_a rfl) (Eq.trans (gI_a rfl) (Eq.trans (gI_a rfl) (Eq.trans (gI_a rfl) (Eq.trans (gI_a rfl) (Eq.trans (gI_a rfl) (Eq.trans (gI_a rfl) ql_I_160_5)))))))))))) ?_
            refine wp_lt ql_R_149_2 ?_
            refine wp_gd ql_K_151 ?_
            refine wp_gd (gZi ql_Z_151 qf_102) ?_
            refine wp_lt (gRk qf_41 ql_R_151_2) ?_
            refine wp_gd ql_K_160 ?_
            refine wp_zI ?_
            refine wp_bd ?_
            refine wp_of (f_X13_logs.eq_1 ..) ?_
            refine wp_gd ql_K_149 ?_
            refine wp_lt (Eq.trans (gI_a rfl) (Eq.trans (gI_b rfl) (Eq.trans (gI_a rfl) (Eq.trans (gI_a rfl) (Eq.trans (gI_a rfl) (Eq.trans (gI_a rfl) (Eq.trans (gI_a rfl) (Eq.trans (gI_a rfl) (Eq.trans (gI_a rfl) (Eq.trans (gI_a rfl) (Eq.trans (gI_a rfl) (Eq.trans (gI_a rfl) (Eq.trans (gI_a rfl) ql_I_149_16))))))))))))) ?_
            refine wp_lt qf_27 ?_
            refine wp_zI ?_
            refine wp_ret_bd ?_
            refine wp_ret_bd ?_
            refine wp_gd ql_K_149 ?_
            refine wp_bd ?_
            refine wp_of (f_X13_thrown.eq_1 ..) ?_
            refine wp_gd ql_K_149 ?_
            refine wp_lt (Eq.trans (gI_b rfl) (Eq.trans (gI_a rfl) gI_s)) ?_
            refine wp_ret_bd ?_
            refine wp_ifp qf_15 ?_
            refine wp_ifp qf_15 ?_
            refine wp_gd ql_K_173 ?_
            refine wp_gd (gZi ql_Z_173 qf_71) ?_
            refine wp_lt (gLk qf_32 gL_s) ?_
            refine wp_lt qf_70 ?_
            refine wp_lt qf_81 ?_
            refine wp_ifp qf_15 ?_
            refine wp_of (f_L_law_1760.eq_1 ..) ?_
            refine wp_of (f_L_law_3632.eq_1 ..) ?_
            refine wp_lt qf_21 ?_
            exact hrc _
      · skip
        refine wp_gd (gZi ql_Z_16 qf_105) ?_
        refine wp_lt (gRk qf_46 ql_R_16_3) ?_
        refine wp_of (f_X8_deckAt_23.eq_1 ..) ?_
        refine wp_ret_bd ?_
        refine wp_ifn qf_106 ?_
        refine wp_ret_bd ?_
        refine wp_bd ?_
        refine wp_of (f_X10_isIn.eq_1 ..) ?_
        refine wp_if (fun c3 => ?_) (fun c3 => ?_)
        · skip
          refine wp_of (f_X10_isIn_14.eq_1 ..) ?_
          refine wp_of (f_X10_isIn_15.eq_1 ..) ?_
          refine wp_gd qf_14 ?_
          refine wp_ret_bd ?_
          refine wp_bd ?_
          refine wp_of (f_X10_demand.eq_1 ..) ?_
          refine wp_ifp qf_15 ?_
          refine wp_rs_bd ?_
          refine wp_rs_bdc ?_
          refine wp_ifn qf_113 ?_
          refine wp_ifp qf_16 ?_
          refine wp_ret_bd ?_
          refine wp_gd qf_0 ?_
          refine wp_lt (xsk qf_1 hy1) ?_
          refine wp_gd qf_2 ?_
          refine wp_lt (xsk qf_3 hy2) ?_
          refine wp_gd ql_K_149 ?_
          refine wp_bd ?_
          refine wp_of (f_X13_setFader.eq_1 ..) ?_
          refine wp_bd ?_
          refine wp_of (f_X13_isDeck.eq_1 ..) ?_
          refine wp_bd ?_
          refine wp_of (f_X13_isBetween.eq_1 ..) ?_
          refine wp_ifn qf_43 ?_
          refine wp_ifn qf_107 ?_
          refine wp_of (f_X13_isBetween_15.eq_1 ..) ?_
          refine wp_gd qf_18 ?_
          refine wp_ret_bd ?_
          refine wp_gd qf_18 ?_
          refine wp_ret_bd ?_
          refine wp_ifn qf_19 ?_
          refine wp_bd ?_
          refine wp_of (f_X13_isBetween.eq_1 ..) ?_
          refine wp_ifp c3 ?_
          refine wp_of (f_X13_isBetween_14.eq_1 ..) ?_
          refine wp_of (f_X13_isBetween_15.eq_1 ..) ?_
          refine wp_gd qf_14 ?_
          refine wp_ret_bd ?_
          refine wp_ifp qf_15 ?_
          refine wp_of (f_X13_setFader_27.eq_1 ..) ?_
          refine wp_gd ql_K_149 ?_
          refine wp_bd ?_
          refine wp_of (f_X13_isWrong.eq_1 ..) ?_
          refine wp_gd ql_K_149 ?_
          refine wp_zI ?_
          refine wp_ifn qf_110 ?_
          refine wp_of (f_X13_isWrong_14.eq_1 ..) ?_
          refine wp_gd qf_18 ?_
          refine wp_ret_bd ?_
          refine wp_ifn qf_19 ?_
          refine wp_ret_bd ?_
          refine wp_gd ql_K_149 ?_
          refine wp_bd ?_
          refine wp_of (f_X13_thrown.eq_1 ..) ?_
          refine wp_gd ql_K_149 ?_
          refine wp_lt gI_s ?_
          refine wp_ret_bd ?_
          refine wp_ifp qf_111 ?_
          refine wp_ifn qf_112 ?_
          refine wp_of (f_L_law_1760.eq_1 ..) ?_
          refine wp_of (f_L_law_3632.eq_1 ..) ?_
          refine wp_lt qf_21 ?_
          exact hrc _
        · skip
          refine wp_if (fun c4 => ?_) (fun c4 => ?_)
          · skip
            refine wp_of (f_X10_isIn_14.eq_1 ..) ?_
            refine wp_of (f_X10_isIn_15.eq_1 ..) ?_
            refine wp_gd qf_14 ?_
            refine wp_ret_bd ?_
            refine wp_bd ?_
            refine wp_of (f_X10_demand.eq_1 ..) ?_
            refine wp_ifp qf_15 ?_
            refine wp_rs_bd ?_
            refine wp_rs_bdc ?_
            refine wp_ifn qf_113 ?_
            refine wp_ifp qf_16 ?_
            refine wp_ret_bd ?_
            refine wp_gd qf_0 ?_
            refine wp_lt (xsk qf_1 hy1) ?_
            refine wp_gd qf_2 ?_
            refine wp_lt (xsk qf_3 hy2) ?_
            refine wp_gd ql_K_149 ?_
            refine wp_bd ?_
            refine wp_of (f_X13_setFader.eq_1 ..) ?_
            refine wp_bd ?_
            refine wp_of (f_X13_isDeck.eq_1 ..) ?_
            refine wp_bd ?_
            refine wp_of (f_X13_isBetween.eq_1 ..) ?_
            refine wp_ifn qf_43 ?_
            refine wp_ifn qf_107 ?_
            refine wp_of (f_X13_isBetween_15.eq_1 ..) ?_
            refine wp_gd qf_18 ?_
            refine wp_ret_bd ?_
            refine wp_gd qf_18 ?_
            refine wp_ret_bd ?_
            refine wp_ifn qf_19 ?_
            refine wp_bd ?_
            refine wp_of (f_X13_isBetween.eq_1 ..) ?_
            refine wp_ifn c3 ?_
            refine wp_ifp c4 ?_
            refine wp_of (f_X13_isBetween_14.eq_1 ..) ?_
            refine wp_of (f_X13_isBetween_15.eq_1 ..) ?_
            refine wp_gd qf_14 ?_
            refine wp_ret_bd ?_
            refine wp_ifp qf_15 ?_
            refine wp_of (f_X13_setFader_27.eq_1 ..) ?_
            refine wp_gd ql_K_149 ?_
            refine wp_bd ?_
            refine wp_of (f_X13_isWrong.eq_1 ..) ?_
            refine wp_gd ql_K_149 ?_
            refine wp_zI ?_
            refine wp_ifn qf_110 ?_
            refine wp_of (f_X13_isWrong_14.eq_1 ..) ?_
            refine wp_gd qf_18 ?_
            refine wp_ret_bd ?_
            refine wp_ifn qf_19 ?_
            refine wp_ret_bd ?_
            refine wp_gd ql_K_149 ?_
            refine wp_bd ?_
            refine wp_of (f_X13_thrown.eq_1 ..) ?_
            refine wp_gd ql_K_149 ?_
            refine wp_lt gI_s ?_
            refine wp_ret_bd ?_
            refine wp_ifp qf_111 ?_
            refine wp_ifn qf_112 ?_
            refine wp_of (f_L_law_1760.eq_1 ..) ?_
            refine wp_of (f_L_law_3632.eq_1 ..) ?_
            refine wp_lt qf_21 ?_
            exact hrc _
          · skip
            refine wp_of (f_X10_isIn_15.eq_1 ..) ?_
            refine wp_gd qf_18 ?_
            refine wp_ret_bd ?_
            refine wp_bd ?_
            refine wp_of (f_X10_demand.eq_1 ..) ?_
            refine wp_ifn qf_19 ?_
            refine wp_ret_bd ?_
            refine wp_gd ql_K_1 ?_
            refine wp_lt ql_R_1_2 ?_
            refine wp_gd ql_K_106 ?_
            refine wp_bd ?_
            refine wp_of (f_X6_note.eq_1 ..) ?_
            refine wp_gd ql_K_106 ?_
            refine wp_bd ?_
            refine wp_of (f_X6_open.eq_1 ..) ?_
            refine wp_gd ql_K_106 ?_
            refine wp_lt ql_I_106_2 ?_
            refine wp_lt qf_25 ?_
            refine wp_zI ?_
            refine wp_lt (Eq.trans (gI_b rfl) ql_I_106_2) ?_
            refine wp_ifn qf_26 ?_
            refine wp_lt (Eq.trans (gI_b rfl) ql_I_106_2) ?_
            refine wp_lt qf_27 ?_
            refine wp_zI ?_
            refine wp_of (f_X6_open_31.eq_1 ..) ?_
            refine wp_gd ql_K_106 ?_
            refine wp_bd ?_
            refine wp_of (f_X6_put.eq_1 ..) ?_
            refine wp_gd ql_K_106 ?_
            refine wp_lt (Eq.trans (gI_b rfl) gI_s) ?_
            refine wp_ifn qf_28 ?_
            refine wp_lt (Eq.trans (gI_b rfl) gI_s) ?_
            refine wp_lt ql_R_106_0 ?_
            refine wp_gd ql_K_107 ?_
            refine wp_lt (gZo ql_Z_107 qf_29) ?_
            refine wp_ifn qf_30 ?_
            refine wp_lt ql_R_106_0 ?_
            refine wp_lt (Eq.trans (gI_b rfl) gI_s) ?_
            refine wp_gd ql_K_107 ?_
            refine wp_gd (gZi ql_Z_107 qf_31) ?_
            refine wp_zIk qf_32 ?_
            refine wp_lt (Eq.trans (gI_a rfl) (Eq.trans (gI_b rfl) gI_s)) ?_
            refine wp_lt qf_27 ?_
            refine wp_zI ?_
            refine wp_of (f_X6_put_39.eq_1 ..) ?_
            refine wp_ret_bd ?_
            refine wp_ret_bd ?_
            refine wp_gd ql_K_106 ?_
            refine wp_bd ?_
            refine wp_of (f_X6_put.eq_1 ..) ?_
            refine wp_gd ql_K_106 ?_
            refine wp_lt gI_s ?_
            refine wp_ifn qf_33 ?_
            refine wp_lt gI_s ?_
            refine wp_lt ql_R_106_0 ?_
            refine wp_gd ql_K_107 ?_
            refine wp_lt (gZo ql_Z_107 qf_29) ?_
            refine wp_ifn qf_34 ?_
            refine wp_lt ql_R_106_0 ?_
            refine wp_lt gI_s ?_
            refine wp_gd ql_K_107 ?_
            refine wp_gd (gZi ql_Z_107 qf_35) ?_
            refine wp_zIk qf_36 ?_
            refine wp_lt (Eq.trans (gI_a rfl) gI_s) ?_
            refine wp_lt qf_37 ?_
            refine wp_zI ?_
            refine wp_of (f_X6_put_39.eq_1 ..) ?_
            refine wp_ret_bd ?_
            refine wp_gd ql_K_106 ?_
            refine wp_bd ?_
            refine wp_of (f_X6_put.eq_1 ..) ?_
            refine wp_gd ql_K_106 ?_
            refine wp_lt gI_s ?_
            refine wp_ifn qf_38 ?_
            refine wp_lt gI_s ?_
            refine wp_lt ql_R_106_0 ?_
            refine wp_gd ql_K_107 ?_
            refine wp_lt (gZo ql_Z_107 qf_29) ?_
            refine wp_ifn qf_39 ?_
            refine wp_lt ql_R_106_0 ?_
            refine wp_lt gI_s ?_
            refine wp_gd ql_K_107 ?_
            refine wp_gd (gZi ql_Z_107 qf_40) ?_
            refine wp_zIk qf_41 ?_
            refine wp_lt (Eq.trans (gI_a rfl) gI_s) ?_
            refine wp_lt qf_42 ?_
            refine wp_zI ?_
            refine wp_of (f_X6_put_39.eq_1 ..) ?_
            refine wp_ret_bd ?_
            refine wp_gd ql_K_106 ?_
            refine wp_bd ?_
            refine wp_of (f_X6_put.eq_1 ..) ?_
            refine wp_gd ql_K_106 ?_
            refine wp_lt gI_s ?_
            refine wp_ifn qf_43 ?_
            refine wp_lt gI_s ?_
            refine wp_lt ql_R_106_0 ?_
            refine wp_gd ql_K_107 ?_
            refine wp_lt (gZo ql_Z_107 qf_29) ?_
            refine wp_ifn qf_44 ?_
            refine wp_lt ql_R_106_0 ?_
            refine wp_lt gI_s ?_
            refine wp_gd ql_K_107 ?_
            refine wp_gd (gZi ql_Z_107 qf_45) ?_
            refine wp_zIk qf_46 ?_
            refine wp_lt (Eq.trans (gI_a rfl) gI_s) ?_
            refine wp_lt qf_47 ?_
            refine wp_zI ?_
            refine wp_of (f_X6_put_39.eq_1 ..) ?_
            refine wp_ret_bd ?_
            refine wp_ret_bd ?_
            refine wp_gd ql_K_41 ?_
            refine wp_lt ql_R_41_0 ?_
            refine wp_gd ql_K_42 ?_
            refine wp_bd ?_
            refine wp_of (f_X0_slide.eq_1 ..) ?_
            refine wp_gd ql_K_42 ?_
            refine wp_lt (Eq.trans (gI_a rfl) (Eq.trans (gI_a rfl) (Eq.trans (gI_a rfl) (Eq.trans (gI_a rfl) (Eq.trans (gI_a rfl) (Eq.trans (gI_a rfl) (Eq.trans (gI_a rfl) (Eq.trans (gI_a rfl) (Eq.trans (gI_a rfl) (Eq.trans (gI_a rfl) ql_I_42_3)))))))))) ?_
            refine wp_zI ?_
            refine wp_ret_bd ?_
            refine wp_ret_bdc ?_
            refine wp_lt qf_70 ?_
            refine wp_gd ql_K_173 ?_
            refine wp_gd (gZi ql_Z_173 qf_71) ?_
            refine wp_zLk qf_32 ?_
            refine wp_ret_bd ?_
            refine wp_gd qf_0 ?_
            refine wp_lt (xsk qf_1 hy1) ?_
            refine wp_gd qf_2 ?_
            refine wp_lt (xsk qf_3 hy2) ?_
            refine wp_gd ql_K_149 ?_
            refine wp_bd ?_
            refine wp_of (f_X13_setFader.eq_1 ..) ?_
            refine wp_bd ?_
            refine wp_of (f_X13_isDeck.eq_1 ..) ?_
            refine wp_bd ?_
            refine wp_of (f_X13_isBetween.eq_1 ..) ?_
            refine wp_ifn qf_43 ?_
            refine wp_ifn qf_107 ?_
            refine wp_of (f_X13_isBetween_15.eq_1 ..) ?_
            refine wp_gd qf_18 ?_
            refine wp_ret_bd ?_
            refine wp_gd qf_18 ?_
            refine wp_ret_bd ?_
            refine wp_ifn qf_19 ?_
            refine wp_bd ?_
            refine wp_of (f_X13_isBetween.eq_1 ..) ?_
            refine wp_ifn c3 ?_
            refine wp_ifn c4 ?_
            refine wp_of (f_X13_isBetween_15.eq_1 ..) ?_
            refine wp_gd qf_18 ?_
            refine wp_ret_bd ?_
            refine wp_ifn qf_19 ?_
            refine wp_of (f_X13_setFader_27.eq_1 ..) ?_
            refine wp_gd ql_K_149 ?_
            refine wp_bd ?_
            refine wp_of (f_X13_isWrong.eq_1 ..) ?_
            refine wp_gd ql_K_149 ?_
            refine wp_zI ?_
            refine wp_ifp qf_73 ?_
            refine wp_of (f_X13_isWrong_14.eq_1 ..) ?_
            refine wp_gd qf_14 ?_
            refine wp_ret_bd ?_
            refine wp_ifp qf_15 ?_
            refine wp_gd ql_K_149 ?_
            refine wp_lt ql_R_149_2 ?_
            refine wp_gd ql_K_151 ?_
            refine wp_gd (gZi ql_Z_151 qf_105) ?_
            refine wp_lt (gRk qf_46 ql_R_151_3) ?_
            refine wp_gd ql_K_164 ?_
            refine wp_lt (Eq.trans (gI_a rfl) (Eq.trans (gI_a rfl) (Eq.trans (gI_a rfl) (Eq.trans (gI_a rfl) (Eq.trans (gI_a rfl) (Eq.trans (gI_a rfl) (Eq.trans (gI_a rfl) (Eq.trans (gI_a rfl) (Eq.trans (gI_a rfl) (Eq.trans (gI_a rfl) (Eq.trans (gI_a rfl) (Eq.trans (gI_a rfl) ql_I_164_5)))))))))))) ?_
            refine wp_lt ql_R_149_2 ?_
            refine wp_gd ql_K_151 ?_
            refine wp_gd (gZi ql_Z_151 qf_105) ?_
            refine wp_lt (gRk qf_46 ql_R_151_3) ?_
            refine wp_gd ql_K_164 ?_
            refine wp_zI ?_
            refine wp_bd ?_
            refine wp_of (f_X13_logs.eq_1 ..) ?_
            refine wp_gd ql_K_149 ?_
            refine wp_lt (Eq.trans (gI_a rfl) (Eq.trans (gI_b rfl) (Eq.trans (gI_a rfl) (Eq.trans (gI_a rfl) (Eq.trans (gI_a rfl) (Eq.trans (gI_a rfl) (Eq.trans (gI_a rfl) (Eq.trans (gI_a rfl) (Eq.trans (gI_a rfl) (Eq.trans (gI_a rfl) (Eq.trans (gI_a rfl) (Eq.trans (gI_a rfl) (Eq.trans (gI_a rfl) ql_I_149_16))))))))))))) ?_
            refine wp_lt qf_27 ?_
            refine wp_zI ?_
            refine wp_ret_bd ?_
            refine wp_ret_bd ?_
            refine wp_gd ql_K_149 ?_
            refine wp_bd ?_
            refine wp_of (f_X13_thrown.eq_1 ..) ?_
            refine wp_gd ql_K_149 ?_
            refine wp_lt (Eq.trans (gI_b rfl) (Eq.trans (gI_a rfl) gI_s)) ?_
            refine wp_ret_bd ?_
            refine wp_ifp qf_15 ?_
            refine wp_ifp qf_15 ?_
            refine wp_gd ql_K_173 ?_
            refine wp_gd (gZi ql_Z_173 qf_71) ?_
            refine wp_lt (gLk qf_32 gL_s) ?_
            refine wp_lt qf_70 ?_
            refine wp_lt qf_81 ?_
            refine wp_ifp qf_15 ?_
            refine wp_of (f_L_law_1760.eq_1 ..) ?_
            refine wp_of (f_L_law_3632.eq_1 ..) ?_
            refine wp_lt qf_21 ?_
            exact hrc _
set_option maxRecDepth 100000 in
set_option maxHeartbeats 4000000 in
theorem cs_21 {xs : Nat → Int32} {rc : mS → Nat → Nat → Nat → Nat → Int32 → Option (Rs Int32)} {Q : Rs Int32 → Prop} (hrc : ∀ S, WP Q (rc S 1 149 173 174 8)) : WP Q (f_L_law_1763 8 xs rc (M3I, M3L, M3R, M3D, M3K, M3Z, 174) 1 149 173 174 0) := by
  obtain ⟨y1, hy1⟩ : ∃ y, xs 1 = y := ⟨_, rfl⟩
  obtain ⟨y2, hy2⟩ : ∃ y, xs 2 = y := ⟨_, rfl⟩
  obtain ⟨y3, hy3⟩ : ∃ y, xs 3 = y := ⟨_, rfl⟩
  refine wp_of (f_L_law_1763.eq_1 ..) ?_
  refine wp_gd qf_0 ?_
  refine wp_lt (xsk qf_1 hy1) ?_
  refine wp_gd qf_2 ?_
  refine wp_lt (xsk qf_3 hy2) ?_
  refine wp_gd qf_4 ?_
  refine wp_lt (xsk qf_5 hy3) ?_
  refine wp_bd ?_
  refine wp_of (f_L_setBand.eq_1 ..) ?_
  refine wp_gd ql_K_1 ?_
  refine wp_bdc ?_
  refine wp_of (f_X10_setBand.eq_1 ..) ?_
  refine wp_gd ql_K_1 ?_
  refine wp_bd ?_
  refine wp_of (f_X10_deckOf.eq_1 ..) ?_
  refine wp_gd ql_K_1 ?_
  refine wp_lt ql_R_1_0 ?_
  refine wp_gd ql_K_2 ?_
  refine wp_bd ?_
  refine wp_of (f_X8_deckAt.eq_1 ..) ?_
  refine wp_if (fun c1 => ?_) (fun c1 => ?_)
  · skip
    refine wp_of (f_X8_deckAt_22.eq_1 ..) ?_
    refine wp_of (f_X8_deckAt_23.eq_1 ..) ?_
    refine wp_ret_bd ?_
    refine wp_ifp qf_87 ?_
    refine wp_rs_bd ?_
    refine wp_rs_bdc ?_
    refine wp_ifp qf_88 ?_
    refine wp_ret_bd ?_
    refine wp_gd qf_0 ?_
    refine wp_lt (xsk qf_1 hy1) ?_
    refine wp_gd qf_2 ?_
    refine wp_lt (xsk qf_3 hy2) ?_
    refine wp_gd qf_4 ?_
    refine wp_lt (xsk qf_5 hy3) ?_
    refine wp_gd ql_K_149 ?_
    refine wp_bd ?_
    refine wp_of (f_X13_setBand.eq_1 ..) ?_
    refine wp_bd ?_
    refine wp_of (f_X13_isDeck.eq_1 ..) ?_
    refine wp_bd ?_
    refine wp_of (f_X13_isBetween.eq_1 ..) ?_
    refine wp_ifp c1 ?_
    refine wp_of (f_X13_isBetween_14.eq_1 ..) ?_
    refine wp_of (f_X13_isBetween_15.eq_1 ..) ?_
    refine wp_gd qf_14 ?_
    refine wp_ret_bd ?_
    refine wp_gd qf_14 ?_
    refine wp_ret_bd ?_
    refine wp_ifp qf_15 ?_
    refine wp_of (f_X13_setBand_36.eq_1 ..) ?_
    refine wp_gd ql_K_149 ?_
    refine wp_bd ?_
    refine wp_of (f_X13_isWrong.eq_1 ..) ?_
    refine wp_gd ql_K_149 ?_
    refine wp_zI ?_
    refine wp_ifn qf_17 ?_
    refine wp_of (f_X13_isWrong_14.eq_1 ..) ?_
    refine wp_gd qf_18 ?_
    refine wp_ret_bd ?_
    refine wp_ifn qf_19 ?_
    refine wp_ret_bd ?_
    refine wp_gd ql_K_149 ?_
    refine wp_bd ?_
    refine wp_of (f_X13_thrown.eq_1 ..) ?_
    refine wp_gd ql_K_149 ?_
    refine wp_lt gI_s ?_
    refine wp_ret_bd ?_
    refine wp_ifp qf_20 ?_
    refine wp_ifn qf_19 ?_
    refine wp_of (f_L_law_1840.eq_1 ..) ?_
    refine wp_of (f_L_law_3632.eq_1 ..) ?_
    refine wp_lt qf_21 ?_
    exact hrc _
  · skip
    refine wp_gd ql_K_2 ?_
    refine wp_lt ql_R_2_1 ?_
    refine wp_gd ql_K_16 ?_
    refine wp_lt (gZo ql_Z_16 qf_92) ?_
    refine wp_if (fun c2 => ?_) (fun c2 => ?_)
    · skip
      refine wp_of (f_X8_deckAt_22.eq_1 ..) ?_
      refine wp_of (f_X8_deckAt_23.eq_1 ..) ?_
      refine wp_ret_bd ?_
      refine wp_ifp qf_87 ?_
      refine wp_rs_bd ?_
      refine wp_rs_bdc ?_
      refine wp_ifp qf_88 ?_
      refine wp_ret_bd ?_
      refine wp_gd qf_0 ?_
      refine wp_lt (xsk qf_1 hy1) ?_
      refine wp_gd qf_2 ?_
      refine wp_lt (xsk qf_3 hy2) ?_
      refine wp_gd qf_4 ?_
      refine wp_lt (xsk qf_5 hy3) ?_
      refine wp_gd ql_K_149 ?_
      refine wp_bd ?_
      refine wp_of (f_X13_setBand.eq_1 ..) ?_
      refine wp_bd ?_
      refine wp_of (f_X13_isDeck.eq_1 ..) ?_
      refine wp_bd ?_
      refine wp_of (f_X13_isBetween.eq_1 ..) ?_
      refine wp_ifn c1 ?_
      refine wp_ifp (show ((3 : Int32) < y1) from by have e0 := qf_90; have e1 := qf_93; have e2 := qf_94; simp only [Int32.lt_iff_toInt_lt, Int32.le_iff_toInt_le, ← Int32.toInt_inj] at c1 c2 ⊢; omega) ?_
      refine wp_of (f_X13_isBetween_14.eq_1 ..) ?_
      refine wp_of (f_X13_isBetween_15.eq_1 ..) ?_
      refine wp_gd qf_14 ?_
      refine wp_ret_bd ?_
      refine wp_gd qf_14 ?_
      refine wp_ret_bd ?_
      refine wp_ifp qf_15 ?_
      refine wp_of (f_X13_setBand_36.eq_1 ..) ?_
      refine wp_gd ql_K_149 ?_
      refine wp_bd ?_
      refine wp_of (f_X13_isWrong.eq_1 ..) ?_
      refine wp_gd ql_K_149 ?_
      refine wp_zI ?_
      refine wp_ifn qf_17 ?_
      refine wp_of (f_X13_isWrong_14.eq_1 ..) ?_
      refine wp_gd qf_18 ?_
      refine wp_ret_bd ?_
      refine wp_ifn qf_19 ?_
      refine wp_ret_bd ?_
      refine wp_gd ql_K_149 ?_
      refine wp_bd ?_
      refine wp_of (f_X13_thrown.eq_1 ..) ?_
      refine wp_gd ql_K_149 ?_
      refine wp_lt gI_s ?_
      refine wp_ret_bd ?_
      refine wp_ifp qf_20 ?_
      refine wp_ifn qf_19 ?_
      refine wp_of (f_L_law_1840.eq_1 ..) ?_
      refine wp_of (f_L_law_3632.eq_1 ..) ?_
      refine wp_lt qf_21 ?_
      exact hrc _
    · skip
      refine wp_lt ql_R_2_1 ?_
      refine wp_gd ql_K_16 ?_
      rcases (show y1 = (0 : Int32) ∨ y1 = (1 : Int32) ∨ y1 = (2 : Int32) ∨ y1 = (3 : Int32) from by have e0 := qf_90; have e1 := qf_95; have e2 := qf_96; have e3 := qf_93; have e4 := qf_94; simp only [Int32.lt_iff_toInt_lt, Int32.le_iff_toInt_le] at c1 c2; simp only [← Int32.toInt_inj]; omega) with rfl | rfl | rfl | rfl
      · skip
        refine wp_gd (gZi ql_Z_16 qf_97) ?_
        refine wp_lt (gRk qf_32 ql_R_16_0) ?_
        refine wp_of (f_X8_deckAt_23.eq_1 ..) ?_
        refine wp_ret_bd ?_
        refine wp_ifn qf_98 ?_
        refine wp_ret_bd ?_
        refine wp_bd ?_
        refine wp_of (f_X10_isIn.eq_1 ..) ?_
        refine wp_if (fun c3 => ?_) (fun c3 => ?_)
        · skip
          refine wp_of (f_X10_isIn_14.eq_1 ..) ?_
          refine wp_of (f_X10_isIn_15.eq_1 ..) ?_
          refine wp_gd qf_14 ?_
          refine wp_ret_bd ?_
          refine wp_ifp qf_15 ?_
          refine wp_of (f_X10_setBand_30.eq_1 ..) ?_
          refine wp_of (f_X10_setBand_31.eq_1 ..) ?_
          refine wp_bd ?_
          refine wp_of (f_X10_demand.eq_1 ..) ?_
          refine wp_ifp qf_15 ?_
          refine wp_rs_bd ?_
          refine wp_rs_bdc ?_
          refine wp_ifn qf_113 ?_
          refine wp_ifp qf_16 ?_
          refine wp_ret_bd ?_
          refine wp_gd qf_0 ?_
          refine wp_lt (xsk qf_1 hy1) ?_
          refine wp_gd qf_2 ?_
          refine wp_lt (xsk qf_3 hy2) ?_
          refine wp_gd qf_4 ?_
          refine wp_lt (xsk qf_5 hy3) ?_
          refine wp_gd ql_K_149 ?_
          refine wp_bd ?_
          refine wp_of (f_X13_setBand.eq_1 ..) ?_
          refine wp_bd ?_
          refine wp_of (f_X13_isDeck.eq_1 ..) ?_
          refine wp_bd ?_
          refine wp_of (f_X13_isBetween.eq_1 ..) ?_
          refine wp_ifn qf_28 ?_
          refine wp_ifn qf_43 ?_
          refine wp_of (f_X13_isBetween_15.eq_1 ..) ?_
          refine wp_gd qf_18 ?_
          refine wp_ret_bd ?_
          refine wp_gd qf_18 ?_
          refine wp_ret_bd ?_
          refine wp_ifn qf_19 ?_
          refine wp_bd ?_
          refine wp_of (f_X13_isBetween.eq_1 ..) ?_
          refine wp_ifp c3 ?_
          refine wp_of (f_X13_isBetween_14.eq_1 ..) ?_
          refine wp_of (f_X13_isBetween_15.eq_1 ..) ?_
          refine wp_gd qf_14 ?_
          refine wp_ret_bd ?_
          refine wp_ifp qf_15 ?_
          refine wp_of (f_X13_setBand_31.eq_1 ..) ?_
          refine wp_of (f_X13_setBand_36.eq_1 ..) ?_
          refine wp_gd ql_K_149 ?_
          refine wp_bd ?_
          refine wp_of (f_X13_isWrong.eq_1 ..) ?_
          refine wp_gd ql_K_149 ?_
          refine wp_zI ?_
          refine wp_ifn qf_110 ?_
          refine wp_of (f_X13_isWrong_14.eq_1 ..) ?_
          refine wp_gd qf_18 ?_
          refine wp_ret_bd ?_
          refine wp_ifn qf_19 ?_
          refine wp_ret_bd ?_
          refine wp_gd ql_K_149 ?_
          refine wp_bd ?_
          refine wp_of (f_X13_thrown.eq_1 ..) ?_
          refine wp_gd ql_K_149 ?_
          refine wp_lt gI_s ?_
          refine wp_ret_bd ?_
          refine wp_ifp qf_111 ?_
          refine wp_ifn qf_112 ?_
          refine wp_of (f_L_law_1840.eq_1 ..) ?_
          refine wp_of (f_L_law_3632.eq_1 ..) ?_
          refine wp_lt qf_21 ?_
          exact hrc _
        · skip
          refine wp_if (fun c4 => ?_) (fun c4 => ?_)
          · skip
            refine wp_of (f_X10_isIn_14.eq_1 ..) ?_
            refine wp_of (f_X10_isIn_15.eq_1 ..) ?_
            refine wp_gd qf_14 ?_
            refine wp_ret_bd ?_
            refine wp_ifp qf_15 ?_
            refine wp_of (f_X10_setBand_30.eq_1 ..) ?_
            refine wp_of (f_X10_setBand_31.eq_1 ..) ?_
            refine wp_bd ?_
            refine wp_of (f_X10_demand.eq_1 ..) ?_
            refine wp_ifp qf_15 ?_
            refine wp_rs_bd ?_
            refine wp_rs_bdc ?_
            refine wp_ifn qf_113 ?_
            refine wp_ifp qf_16 ?_
            refine wp_ret_bd ?_
            refine wp_gd qf_0 ?_
            refine wp_lt (xsk qf_1 hy1) ?_
            refine wp_gd qf_2 ?_
            refine wp_lt (xsk qf_3 hy2) ?_
            refine wp_gd qf_4 ?_
            refine wp_lt (xsk qf_5 hy3) ?_
            refine wp_gd ql_K_149 ?_
            refine wp_bd ?_
            refine wp_of (f_X13_setBand.eq_1 ..) ?_
            refine wp_bd ?_
            refine wp_of (f_X13_isDeck.eq_1 ..) ?_
            refine wp_bd ?_
            refine wp_of (f_X13_isBetween.eq_1 ..) ?_
            refine wp_ifn qf_28 ?_
            refine wp_ifn qf_43 ?_
            refine wp_of (f_X13_isBetween_15.eq_1 ..) ?_
            refine wp_gd qf_18 ?_
            refine wp_ret_bd ?_
            refine wp_gd qf_18 ?_
            refine wp_ret_bd ?_
            refine wp_ifn qf_19 ?_
            refine wp_bd ?_
            refine wp_of (f_X13_isBetween.eq_1 ..) ?_
            refine wp_ifn c3 ?_
            refine wp_ifp c4 ?_
            refine wp_of (f_X13_isBetween_14.eq_1 ..) ?_
            refine wp_of (f_X13_isBetween_15.eq_1 ..) ?_
            refine wp_gd qf_14 ?_
            refine wp_ret_bd ?_
            refine wp_ifp qf_15 ?_
            refine wp_of (f_X13_setBand_31.eq_1 ..) ?_
            refine wp_of (f_X13_setBand_36.eq_1 ..) ?_
            refine wp_gd ql_K_149 ?_
            refine wp_bd ?_
            refine wp_of (f_X13_isWrong.eq_1 ..) ?_
            refine wp_gd ql_K_149 ?_
            refine wp_zI ?_
            refine wp_ifn qf_110 ?_
            refine wp_of (f_X13_isWrong_14.eq_1 ..) ?_
            refine wp_gd qf_18 ?_
            refine wp_ret_bd ?_
            refine wp_ifn qf_19 ?_
            refine wp_ret_bd ?_
            refine wp_gd ql_K_149 ?_
            refine wp_bd ?_
            refine wp_of (f_X13_thrown.eq_1 ..) ?_
            refine wp_gd ql_K_149 ?_
            refine wp_lt gI_s ?_
            refine wp_ret_bd ?_
            refine wp_ifp qf_111 ?_
            refine wp_ifn qf_112 ?_
            refine wp_of (f_L_law_1840.eq_1 ..) ?_
            refine wp_of (f_L_law_3632.eq_1 ..) ?_
            refine wp_lt qf_21 ?_
            exact hrc _
          · skip
            refine wp_of (f_X10_isIn_15.eq_1 ..) ?_
            refine wp_gd qf_18 ?_
            refine wp_ret_bd ?_
            refine wp_ifn qf_19 ?_
            refine wp_bd ?_
            refine wp_of (f_X10_isIn.eq_1 ..) ?_
            refine wp_if (fun c5 => ?_) (fun c5 => ?_)
            · skip
              refine wp_of (f_X10_isIn_14.eq_1 ..) ?_
              refine wp_of (f_X10_isIn_15.eq_1 ..) ?_
              refine wp_gd qf_14 ?_
              refine wp_ret_bd ?_
              refine wp_ifp qf_15 ?_
              refine wp_of (f_X10_setBand_30.eq_1 ..) ?_
              refine wp_of (f_X10_setBand_31.eq_1 ..) ?_
              refine wp_bd ?_
              refine wp_of (f_X10_demand.eq_1 ..) ?_
              refine wp_ifp qf_15 ?_
              refine wp_rs_bd ?_
              refine wp_rs_bdc ?_
              refine wp_ifn qf_113 ?_
              refine wp_ifp qf_16 ?_
              refine wp_ret_bd ?_
              refine wp_gd qf_0 ?_
              refine wp_lt (xsk qf_1 hy1) ?_
              refine wp_gd qf_2 ?_
              refine wp_lt (xsk qf_3 hy2) ?_
              refine wp_gd qf_4 ?_
              refine wp_lt (xsk qf_5 hy3) ?_
              refine wp_gd ql_K_149 ?_
              refine wp_bd ?_
              refine wp_of (f_X13_setBand.eq_1 ..) ?_
              refine wp_bd ?_
              refine wp_of (f_X13_isDeck.eq_1 ..) ?_
              refine wp_bd ?_
              refine wp_of (f_X13_isBetween.eq_1 ..) ?_
              refine wp_ifn qf_28 ?_
              refine wp_ifn qf_43 ?_
              refine wp_of (f_X13_isBetween_15.eq_1 ..) ?_
              refine wp_gd qf_18 ?_
              refine wp_ret_bd ?_
              refine wp_gd qf_18 ?_
              refine wp_ret_bd ?_
              refine wp_ifn qf_19 ?_
              refine wp_bd ?_
              refine wp_of (f_X13_isBetween.eq_1 ..) ?_
              refine wp_ifn c3 ?_
              refine wp_ifn c4 ?_
              refine wp_of (f_X13_isBetween_15.eq_1 ..) ?_
              refine wp_gd qf_18 ?_
              refine wp_ret_bd ?_
              refine wp_ifn qf_19 ?_
              refine wp_bd ?_
              refine wp_of (f_X13_isBetween.eq_1 ..) ?_
              refine wp_ifp c5 ?_
              refine wp_of (f_X13_isBetween_14.eq_1 ..) ?_
              refine wp_of (f_X13_isBetween_15.eq_1 ..) ?_
              refine wp_gd qf_14 ?_
              refine wp_ret_bd ?_
              refine wp_ifp qf_15 ?_
              refine wp_of (f_X13_setBand_31.eq_1 ..) ?_
              refine wp_of (f_X13_setBand_36.eq_1 ..) ?_
              refine wp_gd ql_K_149 ?_
              refine wp_bd ?_
              refine wp_of (f_X13_isWrong.eq_1 ..) ?_
              refine wp_gd ql_K_149 ?_
              refine wp_zI ?_
              refine wp_ifn qf_110 ?_
              refine wp_of (f_X13_isWrong_14.eq_1 ..) ?_
              refine wp_gd qf_18 ?_
              refine wp_ret_bd ?_
              refine wp_ifn qf_19 ?_
              refine wp_ret_bd ?_
              refine wp_gd ql_K_149 ?_
              refine wp_bd ?_
              refine wp_of (f_X13_thrown.eq_1 ..) ?_
              refine wp_gd ql_K_149 ?_
              refine wp_lt gI_s ?_
              refine wp_ret_bd ?_
              refine wp_ifp qf_111 ?_
              refine wp_ifn qf_112 ?_
              refine wp_of (f_L_law_1840.eq_1 ..) ?_
              refine wp_of (f_L_law_3632.eq_1 ..) ?_
              refine wp_lt qf_21 ?_
              exact hrc _
            · skip
              refine wp_if (fun c6 => ?_) (fun c6 => ?_)
              · skip
                refine wp_of (f_X10_isIn_14.eq_1 ..) ?_
                refine wp_of (f_X10_isIn_15.eq_1 ..) ?_
                refine wp_gd qf_14 ?_
                refine wp_ret_bd ?_
                refine wp_ifp qf_15 ?_
                refine wp_of (f_X10_setBand_30.eq_1 ..) ?_
                refine wp_of (f_X10_setBand_31.eq_1 ..) ?_
                refine wp_bd ?_
                refine wp_of (f_X10_demand.eq_1 ..) ?_
                refine wp_ifp qf_15 ?_
                refine wp_rs_bd ?_
                refine wp_rs_bdc ?_
                refine wp_ifn qf_113 ?_
                refine wp_ifp qf_16 ?_
                refine wp_ret_bd ?_
                refine wp_gd qf_0 ?_
                refine wp_lt (xsk qf_1 hy1) ?_
                refine wp_gd qf_2 ?_
                refine wp_lt (xsk qf_3 hy2) ?_
                refine wp_gd qf_4 ?_
                refine wp_lt (xsk qf_5 hy3) ?_
                refine wp_gd ql_K_149 ?_
                refine wp_bd ?_
                refine wp_of (f_X13_setBand.eq_1 ..) ?_
                refine wp_bd ?_
                refine wp_of (f_X13_isDeck.eq_1 ..) ?_
                refine wp_bd ?_
                refine wp_of (f_X13_isBetween.eq_1 ..) ?_
                refine wp_ifn qf_28 ?_
                refine wp_ifn qf_43 ?_
                refine wp_of (f_X13_isBetween_15.eq_1 ..) ?_
                refine wp_gd qf_18 ?_
                refine wp_ret_bd ?_
                refine wp_gd qf_18 ?_
                refine wp_ret_bd ?_
                refine wp_ifn qf_19 ?_
                refine wp_bd ?_
                refine wp_of (f_X13_isBetween.eq_1 ..) ?_
                refine wp_ifn c3 ?_
                refine wp_ifn c4 ?_
                refine wp_of (f_X13_isBetween_15.eq_1 ..) ?_
                refine wp_gd qf_18 ?_
                refine wp_ret_bd ?_
                refine wp_ifn qf_19 ?_
                refine wp_bd ?_
                refine wp_of (f_X13_isBetween.eq_1 ..) ?_
                refine wp_ifn c5 ?_
                refine wp_ifp c6 ?_
                refine wp_of (f_X13_isBetween_14.eq_1 ..) ?_
                refine wp_of (f_X13_isBetween_15.eq_1 ..) ?_
                refine wp_gd qf_14 ?_
                refine wp_ret_bd ?_
                refine wp_ifp qf_15 ?_
                refine wp_of (f_X13_setBand_31.eq_1 ..) ?_
                refine wp_of (f_X13_setBand_36.eq_1 ..) ?_
                refine wp_gd ql_K_149 ?_
                refine wp_bd ?_
                refine wp_of (f_X13_isWrong.eq_1 ..) ?_
                refine wp_gd ql_K_149 ?_
                refine wp_zI ?_
                refine wp_ifn qf_110 ?_
                refine wp_of (f_X13_isWrong_14.eq_1 ..) ?_
                refine wp_gd qf_18 ?_
                refine wp_ret_bd ?_
                refine wp_ifn qf_19 ?_
                refine wp_ret_bd ?_
                refine wp_gd ql_K_149 ?_
                refine wp_bd ?_
                refine wp_of (f_X13_thrown.eq_1 ..) ?_
                refine wp_gd ql_K_149 ?_
                refine wp_lt gI_s ?_
                refine wp_ret_bd ?_
                refine wp_ifp qf_111 ?_
                refine wp_ifn qf_112 ?_
                refine wp_of (f_L_law_1840.eq_1 ..) ?_
                refine wp_of (f_L_law_3632.eq_1 ..) ?_
                refine wp_lt qf_21 ?_
                exact hrc _
              · skip
                refine wp_of (f_X10_isIn_15.eq_1 ..) ?_
                refine wp_gd qf_18 ?_
                refine wp_ret_bd ?_
                refine wp_ifn qf_19 ?_
                refine wp_of (f_X10_setBand_31.eq_1 ..) ?_
                refine wp_bd ?_
                refine wp_of (f_X10_demand.eq_1 ..) ?_
                refine wp_ifn qf_19 ?_
                refine wp_ret_bd ?_
                refine wp_gd ql_K_1 ?_
                refine wp_lt ql_R_1_2 ?_
                refine wp_gd ql_K_106 ?_
                refine wp_bd ?_
                refine wp_of (f_X6_note.eq_1 ..) ?_
                refine wp_gd ql_K_106 ?_
                refine wp_bd ?_
                refine wp_of (f_X6_open.eq_1 ..) ?_
                refine wp_gd ql_K_106 ?_
                refine wp_lt ql_I_106_2 ?_
                refine wp_lt qf_25 ?_
                refine wp_zI ?_
                refine wp_lt (Eq.trans (gI_b rfl) ql_I_106_2) ?_
                refine wp_ifn qf_26 ?_
                refine wp_lt (Eq.trans (gI_b rfl) ql_I_106_2) ?_
                refine wp_lt qf_27 ?_
                refine wp_zI ?_
                refine wp_of (f_X6_open_31.eq_1 ..) ?_
                refine wp_gd ql_K_106 ?_
                refine wp_bd ?_
                refine wp_of (f_X6_put.eq_1 ..) ?_
                refine wp_gd ql_K_106 ?_
                refine wp_lt (Eq.trans (gI_b rfl) gI_s) ?_
                refine wp_ifn qf_28 ?_
                refine wp_lt (Eq.trans (gI_b rfl) gI_s) ?_
                refine wp_lt ql_R_106_0 ?_
                refine wp_gd ql_K_107 ?_
                refine wp_lt (gZo ql_Z_107 qf_29) ?_
                refine wp_ifn qf_30 ?_
                refine wp_lt ql_R_106_0 ?_
                refine wp_lt (Eq.trans (gI_b rfl) gI_s) ?_
                refine wp_gd ql_K_107 ?_
                refine wp_gd (gZi ql_Z_107 qf_31) ?_
                refine wp_zIk qf_32 ?_
                refine wp_lt (Eq.trans (gI_a rfl) (Eq.trans (gI_b rfl) gI_s)) ?_
                refine wp_lt qf_27 ?_
                refine wp_zI ?_
                refine wp_of (f_X6_put_39.eq_1 ..) ?_
                refine wp_ret_bd ?_
                refine wp_ret_bd ?_
                refine wp_gd ql_K_106 ?_
                refine wp_bd ?_
                refine wp_of (f_X6_put.eq_1 ..) ?_
                refine wp_gd ql_K_106 ?_
                refine wp_lt gI_s ?_
                refine wp_ifn qf_33 ?_
                refine wp_lt gI_s ?_
                refine wp_lt ql_R_106_0 ?_
                refine wp_gd ql_K_107 ?_
                refine wp_lt (gZo ql_Z_107 qf_29) ?_
                refine wp_ifn qf_34 ?_
                refine wp_lt ql_R_106_0 ?_
                refine wp_lt gI_s ?_
                refine wp_gd ql_K_107 ?_
                refine wp_gd (gZi ql_Z_107 qf_35) ?_
                refine wp_zIk qf_36 ?_
                refine wp_lt (Eq.trans (gI_a rfl) gI_s) ?_
                refine wp_lt qf_37 ?_
                refine wp_zI ?_
                refine wp_of (f_X6_put_39.eq_1 ..) ?_
                refine wp_ret_bd ?_
                refine wp_gd ql_K_106 ?_
                refine wp_bd ?_
                refine wp_of (f_X6_put.eq_1 ..) ?_
                refine wp_gd ql_K_106 ?_
                refine wp_lt gI_s ?_
                refine wp_ifn qf_38 ?_
                refine wp_lt gI_s ?_
                refine wp_lt ql_R_106_0 ?_
                refine wp_gd ql_K_107 ?_
                refine wp_lt (gZo ql_Z_107 qf_29) ?_
                refine wp_ifn qf_39 ?_
                refine wp_lt ql_R_106_0 ?_
                refine wp_lt gI_s ?_
                refine wp_gd ql_K_107 ?_
                refine wp_gd (gZi ql_Z_107 qf_40) ?_
                refine wp_zIk qf_41 ?_
                refine wp_lt (Eq.trans (gI_a rfl) gI_s) ?_
                refine wp_lt qf_42 ?_
                refine wp_zI ?_
                refine wp_of (f_X6_put_39.eq_1 ..) ?_
                refine wp_ret_bd ?_
                refine wp_gd ql_K_106 ?_
                refine wp_bd ?_
                refine wp_of (f_X6_put.eq_1 ..) ?_
                refine wp_gd ql_K_106 ?_
                refine wp_lt gI_s ?_
                refine wp_ifn qf_43 ?_
                refine wp_lt gI_s ?_
                refine wp_lt ql_R_106_0 ?_
                refine wp_gd ql_K_107 ?_
                refine wp_lt (gZo ql_Z_107 qf_29) ?_
                refine wp_ifn qf_44 ?_
                refine wp_lt ql_R_106_0 ?_
                refine wp_lt gI_s ?_
                refine wp_gd ql_K_107 ?_
                refine wp_gd (gZi ql_Z_107 qf_45) ?_
                refine wp_zIk qf_46 ?_
                refine wp_lt (Eq.trans (gI_a rfl) gI_s) ?_
                refine wp_lt qf_47 ?_
                refine wp_zI ?_
                refine wp_of (f_X6_put_39.eq_1 ..) ?_
                refine wp_ret_bd ?_
                refine wp_ret_bd ?_
                refine wp_gd ql_K_17 ?_
                refine wp_lt ql_R_17_0 ?_
                refine wp_gd ql_K_18 ?_
                refine wp_bd ?_
                refine wp_of (f_X0_turnBand.eq_1 ..) ?_
                refine wp_ifn c3 ?_
                refine wp_gd ql_K_18 ?_
                refine wp_lt ql_R_18_0 ?_
                refine wp_gd ql_K_19 ?_
                refine wp_lt (gZo ql_Z_19 qf_121) ?_
                refine wp_ifp (show (y2 < (3 : Int32)) from by have e0 := qf_90; have e1 := qf_96; have e2 := qf_93; simp only [Int32.lt_iff_toInt_lt, Int32.le_iff_toInt_le, ← Int32.toInt_inj] at c3 c4 ⊢; omega) ?_
                refine wp_lt ql_R_18_0 ?_
                refine wp_gd ql_K_19 ?_
                rcases (show y2 = (0 : Int32) ∨ y2 = (1 : Int32) ∨ y2 = (2 : Int32) from by have e0 := qf_90; have e1 := qf_95; have e2 := qf_96; simp only [Int32.lt_iff_toInt_lt, Int32.le_iff_toInt_le] at c3 c4; simp only [← Int32.toInt_inj]; omega) with rfl | rfl | rfl
                · skip
                  refine wp_gd (gZi ql_Z_19 qf_122) ?_
                  refine wp_lt (gIk qf_32 (Eq.trans (gI_a rfl) (Eq.trans (gI_a rfl) (Eq.trans (gI_a rfl) (Eq.trans (gI_a rfl) (Eq.trans (gI_a rfl) (Eq.trans (gI_a rfl) (Eq.trans (gI_a rfl) (Eq.trans (gI_a rfl) (Eq.trans (gI_a rfl) (Eq.trans (gI_a rfl) ql_I_19_0))))))))))) ?_
                  refine wp_lt ql_R_18_0 ?_
                  refine wp_gd ql_K_19 ?_
                  refine wp_gd (gZi ql_Z_19 qf_122) ?_
                  refine wp_zIk qf_32 ?_
                  refine wp_ret_bd ?_
                  refine wp_ret_bdc ?_
                  refine wp_lt qf_123 ?_
                  refine wp_gd ql_K_173 ?_
                  refine wp_gd (gZi ql_Z_173 qf_71) ?_
                  refine wp_zLk qf_32 ?_
                  refine wp_ret_bd ?_
                  refine wp_gd qf_0 ?_
                  refine wp_lt (xsk qf_1 hy1) ?_
                  refine wp_gd qf_2 ?_
                  refine wp_lt (xsk qf_3 hy2) ?_
                  refine wp_gd qf_4 ?_
                  refine wp_lt (xsk qf_5 hy3) ?_
                  refine wp_gd ql_K_149 ?_
                  refine wp_bd ?_
                  refine wp_of (f_X13_setBand.eq_1 ..) ?_
                  refine wp_bd ?_
                  refine wp_of (f_X13_isDeck.eq_1 ..) ?_
                  refine wp_bd ?_
                  refine wp_of (f_X13_isBetween.eq_1 ..) ?_
                  refine wp_ifn qf_28 ?_
                  refine wp_ifn qf_43 ?_
                  refine wp_of (f_X13_isBetween_15.eq_1 ..) ?_
                  refine wp_gd qf_18 ?_
                  refine wp_ret_bd ?_
                  refine wp_gd qf_18 ?_
                  refine wp_ret_bd ?_
                  refine wp_ifn qf_19 ?_
                  refine wp_bd ?_
                  refine wp_of (f_X13_isBetween.eq_1 ..) ?_
                  refine wp_ifn qf_28 ?_
                  refine wp_ifn qf_38 ?_
                  refine wp_of (f_X13_isBetween_15.eq_1 ..) ?_
                  refine wp_gd qf_18 ?_
                  refine wp_ret_bd ?_
                  refine wp_ifn qf_19 ?_
                  refine wp_bd ?_
                  refine wp_of (f_X13_isBetween.eq_1 ..) ?_
                  refine wp_ifn c5 ?_
                  refine wp_ifn c6 ?_
                  refine wp_of (f_X13_isBetween_15.eq_1 ..) ?_
                  refine wp_gd qf_18 ?_
                  refine wp_ret_bd ?_
                  refine wp_ifn qf_19 ?_
                  refine wp_of (f_X13_setBand_36.eq_1 ..) ?_
                  refine wp_gd ql_K_149 ?_
                  refine wp_bd ?_
                  refine wp_of (f_X13_isWrong.eq_1 ..) ?_
                  refine wp_gd ql_K_149 ?_
                  refine wp_zI ?_
                  refine wp_ifp qf_73 ?_
                  refine wp_of (f_X13_isWrong_14.eq_1 ..) ?_
                  refine wp_gd qf_14 ?_
                  refine wp_ret_bd ?_
                  refine wp_ifp qf_15 ?_
                  refine wp_gd ql_K_149 ?_
                  refine wp_lt ql_R_149_2 ?_
                  refine wp_gd ql_K_151 ?_
                  refine wp_gd (gZi ql_Z_151 qf_97) ?_
                  refine wp_lt (gRk qf_32 ql_R_151_0) ?_
                  refine wp_gd ql_K_152 ?_
                  refine wp_lt ql_R_152_6 ?_
                  refine wp_gd ql_K_153 ?_
                  refine wp_gd (gZi ql_Z_153 qf_122) ?_
                  refine wp_lt (gIk qf_32 (Eq.trans (gI_a rfl) (Eq.trans (gI_a rfl) (Eq.trans (gI_a rfl) (Eq.trans (gI_a rfl) (Eq.trans (gI_a rfl) (Eq.trans (gI_a rfl) (Eq.trans (gI_a rfl) (Eq.trans (gI_a rfl) (Eq.trans (gI_a rfl) (Eq.trans (gI_a rfl) (Eq.trans (gI_a rfl) (Eq.trans (gI_a rfl) ql_I_153_0))))))))))))) ?_
                  refine wp_lt ql_R_149_2 ?_
                  refine wp_gd ql_K_151 ?_
                  refine wp_gd (gZi ql_Z_151 qf_97) ?_
                  refine wp_lt (gRk qf_32 ql_R_151_0) ?_
                  refine wp_gd ql_K_152 ?_
                  refine wp_lt ql_R_152_6 ?_
                  refine wp_gd ql_K_153 ?_
                  refine wp_gd (gZi ql_Z_153 qf_122) ?_
                  refine wp_zIk qf_32 ?_
                  refine wp_bd ?_
                  refine wp_of (f_X13_logs.eq_1 ..) ?_
                  refine wp_gd ql_K_149 ?_
                  refine wp_lt (Eq.trans (gI_a rfl) (Eq.trans (gI_b rfl) (Eq.trans (gI_a rfl) (Eq.trans (gI_a rfl) (Eq.trans (gI_a rfl) (Eq.trans (gI_a rfl) (Eq.trans (gI_a rfl) (Eq.trans (gI_a rfl) (Eq.trans (gI_a rfl) (Eq.trans (gI_a rfl) (Eq.trans (gI_a rfl) (Eq.trans (gI_a rfl) (Eq.trans (gI_a rfl) ql_I_149_16))))))))))))) ?_
                  refine wp_lt qf_27 ?_
                  refine wp_zI ?_
                  refine wp_ret_bd ?_
                  refine wp_ret_bd ?_
                  refine wp_gd ql_K_149 ?_
                  refine wp_bd ?_
                  refine wp_of (f_X13_thrown.eq_1 ..) ?_
                  refine wp_gd ql_K_149 ?_
                  refine wp_lt (Eq.trans (gI_b rfl) (Eq.trans (gI_a rfl) gI_s)) ?_
                  refine wp_ret_bd ?_
                  refine wp_ifp qf_15 ?_
                  refine wp_ifp qf_15 ?_
                  refine wp_gd ql_K_173 ?_
                  refine wp_gd (gZi ql_Z_173 qf_71) ?_
                  refine wp_lt (gLk qf_32 gL_s) ?_
                  refine wp_lt qf_123 ?_
                  refine wp_lt qf_124 ?_
                  refine wp_ifp qf_15 ?_
                  refine wp_of (f_L_law_1840.eq_1 ..) ?_
                  refine wp_of (f_L_law_3632.eq_1 ..) ?_
                  refine wp_lt qf_21 ?_
                  exact hrc _
                · skip
                  refine wp_gd (gZi ql_Z_19 qf_125) ?_
                  refine wp_lt (gIk qf_36 (Eq.trans (gI_a rfl) (Eq.trans (gI_a rfl) (Eq.trans (gI_a rfl) (Eq.trans (gI_a rfl) (Eq.trans (gI_a rfl) (Eq.trans (gI_a rfl) (Eq.trans (gI_a rfl) (Eq.trans (gI_a rfl) (Eq.trans (gI_a rfl) (Eq.trans (gI_a rfl) ql_I_19_1))))))))))) ?_
                  refine wp_lt ql_R_18_0 ?_
                  refine wp_gd ql_K_19 ?_
                  refine wp_gd (gZi ql_Z_19 qf_125) ?_
                  refine wp_zIk qf_36 ?_
                  refine wp_ret_bd ?_
                  refine wp_ret_bdc ?_
                  refine wp_lt qf_123 ?_
                  refine wp_gd ql_K_173 ?_
                  refine wp_gd (gZi ql_Z_173 qf_71) ?_
                  refine wp_zLk qf_32 ?_
                  refine wp_ret_bd ?_
                  refine wp_gd qf_0 ?_
                  refine wp_lt (xsk qf_1 hy1) ?_
                  refine wp_gd qf_2 ?_
                  refine wp_lt (xsk qf_3 hy2) ?_
                  refine wp_gd qf_4 ?_
                  refine wp_lt (xsk qf_5 hy3) ?_
                  refine wp_gd ql_K_149 ?_
                  refine wp_bd ?_
                  refine wp_of (f_X13_setBand.eq_1 ..) ?_
                  refine wp_bd ?_
                  refine wp_of (f_X13_isDeck.eq_1 ..) ?_
                  refine wp_bd ?_
                  refine wp_of (f_X13_isBetween.eq_1 ..) ?_
                  refine wp_ifn qf_28 ?_
                  refine wp_ifn qf_43 ?_
                  refine wp_of (f_X13_isBetween_15.eq_1 ..) ?_
                  refine wp_gd qf_18 ?_
                  refine wp_ret_bd ?_
                  refine wp_gd qf_18 ?_
                  refine wp_ret_bd ?_
                  refine wp_ifn qf_19 ?_
                  refine wp_bd ?_
                  refine wp_of (f_X13_isBetween.eq_1 ..) ?_
                  refine wp_ifn qf_33 ?_
                  refine wp_ifn qf_126 ?_
                  refine wp_of (f_X13_isBetween_15.eq_1 ..) ?_
                  refine wp_gd qf_18 ?_
                  refine wp_ret_bd ?_
                  refine wp_ifn qf_19 ?_
                  refine wp_bd ?_
                  refine wp_of (f_X13_isBetween.eq_1 ..) ?_
                  refine wp_ifn c5 ?_
                  refine wp_ifn c6 ?_
                  refine wp_of (f_X13_isBetween_15.eq_1 ..) ?_
                  refine wp_gd qf_18 ?_
                  refine wp_ret_bd ?_
                  refine wp_ifn qf_19 ?_
                  refine wp_of (f_X13_setBand_36.eq_1 ..) ?_
                  refine wp_gd ql_K_149 ?_
                  refine wp_bd ?_
                  refine wp_of (f_X13_isWrong.eq_1 ..) ?_
                  refine wp_gd ql_K_149 ?_
                  refine wp_zI ?_
                  refine wp_ifp qf_73 ?_
                  refine wp_of (f_X13_isWrong_14.eq_1 ..) ?_
                  refine wp_gd qf_14 ?_
                  refine wp_ret_bd ?_
                  refine wp_ifp qf_15 ?_
                  refine wp_gd ql_K_149 ?_
                  refine wp_lt ql_R_149_2 ?_
                  refine wp_gd ql_K_151 ?_
                  refine wp_gd (gZi ql_Z_151 qf_97) ?_
                  refine wp_lt (gRk qf_32 ql_R_151_0) ?_
                  refine wp_gd ql_K_152 ?_
                  refine wp_lt ql_R_152_6 ?_
                  refine wp_gd ql_K_153 ?_
                  refine wp_gd (gZi ql_Z_153 qf_125) ?_
                  refine wp_lt (gIk qf_36 (Eq.trans (gI_a rfl) (Eq.trans (gI_a rfl) (Eq.trans (gI_a rfl) (Eq.trans (gI_a rfl) (Eq.trans (gI_a rfl) (Eq.trans (gI_a rfl) (Eq.trans (gI_a rfl) (Eq.trans (gI_a rfl) (Eq.trans (gI_a rfl) (Eq.trans (gI_a rfl) (Eq.trans (gI_a rfl) (Eq.trans (gI_a rfl) ql_I_153_1))))))))))))) ?_
                  refine wp_lt ql_R_149_2 ?_
                  refine wp_gd ql_K_151 ?_
                  refine wp_gd (gZi ql_Z_151 qf_97) ?_
                  refine wp_lt (gRk qf_32 ql_R_151_0) ?_
                  refine wp_gd ql_K_152 ?_
                  refine wp_lt ql_R_152_6 ?_
                  refine wp_gd ql_K_153 ?_
                  refine wp_gd (gZi ql_Z_153 qf_125) ?_
                  refine wp_zIk qf_36 ?_
                  refine wp_bd ?_
                  refine wp_of (f_X13_logs.eq_1 ..) ?_
                  refine wp_gd ql_K_149 ?_
                  refine wp_lt (Eq.trans (gI_a rfl) (Eq.trans (gI_b rfl) (Eq.trans (gI_a rfl) (Eq.trans (gI_a rfl) (Eq.trans (gI_a rfl) (Eq.trans (gI_a rfl) (Eq.trans (gI_a rfl) (Eq.trans (gI_a rfl) (Eq.trans (gI_a rfl) (Eq.trans (gI_a rfl) (Eq.trans (gI_a rfl) (Eq.trans (gI_a rfl) (Eq.trans (gI_a rfl) ql_I_149_16))))))))))))) ?_
                  refine wp_lt qf_27 ?_
                  refine wp_zI ?_
                  refine wp_ret_bd ?_
                  refine wp_ret_bd ?_
                  refine wp_gd ql_K_149 ?_
                  refine wp_bd ?_
                  refine wp_of (f_X13_thrown.eq_1 ..) ?_
                  refine wp_gd ql_K_149 ?_
                  refine wp_lt (Eq.trans (gI_b rfl) (Eq.trans (gI_a rfl) gI_s)) ?_
                  refine wp_ret_bd ?_
                  refine wp_ifp qf_15 ?_
                  refine wp_ifp qf_15 ?_
                  refine wp_gd ql_K_173 ?_
                  refine wp_gd (gZi ql_Z_173 qf_71) ?_
                  refine wp_lt (gLk qf_32 gL_s) ?_
                  refine wp_lt qf_123 ?_
                  refine wp_lt qf_124 ?_
                  refine wp_ifp qf_15 ?_
                  refine wp_of (f_L_law_1840.eq_1 ..) ?_
                  refine wp_of (f_L_law_3632.eq_1 ..) ?_
                  refine wp_lt qf_21 ?_
                  exact hrc _
                · skip
                  refine wp_gd (gZi ql_Z_19 qf_127) ?_
                  refine wp_lt (gIk qf_41 (Eq.trans (gI_a rfl) (Eq.trans (gI_a rfl) (Eq.trans (gI_a rfl) (Eq.trans (gI_a rfl) (Eq.trans (gI_a rfl) (Eq.trans (gI_a rfl) (Eq.trans (gI_a rfl) (Eq.trans (gI_a rfl) (Eq.trans (gI_a rfl) (Eq.trans (gI_a rfl) ql_I_19_2))))))))))) ?_
                  refine wp_lt ql_R_18_0 ?_
                  refine wp_gd ql_K_19 ?_
                  refine wp_gd (gZi ql_Z_19 qf_127) ?_
                  refine wp_zIk qf_41 ?_
                  refine wp_ret_bd ?_
                  refine wp_ret_bdc ?_
                  refine wp_lt qf_123 ?_
                  refine wp_gd ql_K_173 ?_
                  refine wp_gd (gZi ql_Z_173 qf_71) ?_
                  refine wp_zLk qf_32 ?_
                  refine wp_ret_bd ?_
                  refine wp_gd qf_0 ?_
                  refine wp_lt (xsk qf_1 hy1) ?_
                  refine wp_gd qf_2 ?_
                  refine wp_lt (xsk qf_3 hy2) ?_
                  refine wp_gd qf_4 ?_
                  refine wp_lt (xsk qf_5 hy3) ?_
                  refine wp_gd ql_K_149 ?_
                  refine wp_bd ?_
                  refine wp_of (f_X13_setBand.eq_1 ..) ?_
                  refine wp_bd ?_
                  refine wp_of (f_X13_isDeck.eq_1 ..) ?_
                  refine wp_bd ?_
                  refine wp_of (f_X13_isBetween.eq_1 ..) ?_
                  refine wp_ifn qf_28 ?_
                  refine wp_ifn qf_43 ?_
                  refine wp_of (f_X13_isBetween_15.eq_1 ..) ?_
                  refine wp_gd qf_18 ?_
                  refine wp_ret_bd ?_
                  refine wp_gd qf_18 ?_
                  refine wp_ret_bd ?_
                  refine wp_ifn qf_19 ?_
                  refine wp_bd ?_
                  refine wp_of (f_X13_isBetween.eq_1 ..) ?_
                  refine wp_ifn qf_38 ?_
                  refine wp_ifn qf_128 ?_
                  refine wp_of (f_X13_isBetween_15.eq_1 ..) ?_
                  refine wp_gd qf_18 ?_
                  refine wp_ret_bd ?_
                  refine wp_ifn qf_19 ?_
                  refine wp_bd ?_
                  refine wp_of (f_X13_isBetween.eq_1 ..) ?_
                  refine wp_ifn c5 ?_
                  refine wp_ifn c6 ?_
                  refine wp_of (f_X13_isBetween_15.eq_1 ..) ?_
                  refine wp_gd qf_18 ?_
                  refine wp_ret_bd ?_
                  refine wp_ifn qf_19 ?_
                  refine wp_of (f_X13_setBand_36.eq_1 ..) ?_
                  refine wp_gd ql_K_149 ?_
                  refine wp_bd ?_
                  refine wp_of (f_X13_isWrong.eq_1 ..) ?_
                  refine wp_gd ql_K_149 ?_
                  refine wp_zI ?_
                  refine wp_ifp qf_73 ?_
                  refine wp_of (f_X13_isWrong_14.eq_1 ..) ?_
                  refine wp_gd qf_14 ?_
                  refine wp_ret_bd ?_
                  refine wp_ifp qf_15 ?_
                  refine wp_gd ql_K_149 ?_
                  refine wp_lt ql_R_149_2 ?_
                  refine wp_gd ql_K_151 ?_
                  refine wp_gd (gZi ql_Z_151 qf_97) ?_
                  refine wp_lt (gRk qf_32 ql_R_151_0) ?_
                  refine wp_gd ql_K_152 ?_
                  refine wp_lt ql_R_152_6 ?_
                  refine wp_gd ql_K_153 ?_
                  refine wp_gd (gZi ql_Z_153 qf_127) ?_
                  refine wp_lt (gIk qf_41 (Eq.trans (gI_a rfl) (Eq.trans (gI_a rfl) (Eq.trans (gI_a rfl) (Eq.trans (gI_a rfl) (Eq.trans (gI_a rfl) (Eq.trans (gI_a rfl) (Eq.trans (gI_a rfl) (Eq.trans (gI_a rfl) (Eq.trans (gI_a rfl) (Eq.trans (gI_a rfl) (Eq.trans (gI_a rfl) (Eq.trans (gI_a rfl) ql_I_153_2))))))))))))) ?_
                  refine wp_lt ql_R_149_2 ?_
                  refine wp_gd ql_K_151 ?_
                  refine wp_gd (gZi ql_Z_151 qf_97) ?_
                  refine wp_lt (gRk qf_32 ql_R_151_0) ?_
                  refine wp_gd ql_K_152 ?_
                  refine wp_lt ql_R_152_6 ?_
                  refine wp_gd ql_K_153 ?_
                  refine wp_gd (gZi ql_Z_153 qf_127) ?_
                  refine wp_zIk qf_41 ?_
                  refine wp_bd ?_
                  refine wp_of (f_X13_logs.eq_1 ..) ?_
                  refine wp_gd ql_K_149 ?_
                  refine wp_lt (Eq.trans (gI_a rfl) (Eq.trans (gI_b rfl) (Eq.trans (gI_a rfl) (Eq.trans (gI_a rfl) (Eq.trans (gI_a rfl) (Eq.trans (gI_a rfl) (Eq.trans (gI_a rfl) (Eq.trans (gI_a rfl) (Eq.trans (gI_a rfl) (Eq.trans (gI_a rfl) (Eq.trans (gI_a rfl) (Eq.trans (gI_a rfl) (Eq.trans (gI_a rfl) ql_I_149_16))))))))))))) ?_
                  refine wp_lt qf_27 ?_
                  refine wp_zI ?_
                  refine wp_ret_bd ?_
                  refine wp_ret_bd ?_
                  refine wp_gd ql_K_149 ?_
                  refine wp_bd ?_
                  refine wp_of (f_X13_thrown.eq_1 ..) ?_
                  refine wp_gd ql_K_149 ?_
                  refine wp_lt (Eq.trans (gI_b rfl) (Eq.trans (gI_a rfl) gI_s)) ?_
                  refine wp_ret_bd ?_
                  refine wp_ifp qf_15 ?_
                  refine wp_ifp qf_15 ?_
                  refine wp_gd ql_K_173 ?_
                  refine wp_gd (gZi ql_Z_173 qf_71) ?_
                  refine wp_lt (gLk qf_32 gL_s) ?_
                  refine wp_lt qf_123 ?_
                  refine wp_lt qf_124 ?_
                  refine wp_ifp qf_15 ?_
                  refine wp_of (f_L_law_1840.eq_1 ..) ?_
                  refine wp_of (f_L_law_3632.eq_1 ..) ?_
                  refine wp_lt qf_21 ?_
                  exact hrc _
      · skip
        refine wp_gd (gZi ql_Z_16 qf_99) ?_
        refine wp_lt (gRk qf_36 ql_R_16_1) ?_
        refine wp_of (f_X8_deckAt_23.eq_1 ..) ?_
        refine wp_ret_bd ?_
        refine wp_ifn qf_100 ?_
        refine wp_ret_bd ?_
        refine wp_bd ?_
        refine wp_of (f_X10_isIn.eq_1 ..) ?_
        refine wp_if (fun c3 => ?_) (fun c3 => ?_)
        · skip
          refine wp_of (f_X10_isIn_14.eq_1 ..) ?_
          refine wp_of (f_X10_isIn_15.eq_1 ..) ?_
          refine wp_gd qf_14 ?_
          refine wp_ret_bd ?_
          refine wp_ifp qf_15 ?_
          refine wp_of (f_X10_setBand_30.eq_1 ..) ?_
          refine wp_of (f_X10_setBand_31.eq_1 ..) ?_
          refine wp_bd ?_
          refine wp_of (f_X10_demand.eq_1 ..) ?_
          refine wp_ifp qf_15 ?_
          refine wp_rs_bd ?_
          refine wp_rs_bdc ?_
          refine wp_ifn qf_113 ?_
          refine wp_ifp qf_16 ?_
          refine wp_ret_bd ?_
          refine wp_gd qf_0 ?_
          refine wp_lt (xsk qf_1 hy1) ?_
          refine wp_gd qf_2 ?_
          refine wp_lt (xsk qf_3 hy2) ?_
          refine wp_gd qf_4 ?_
          refine wp_lt (xsk qf_5 hy3) ?_
          refine wp_gd ql_K_149 ?_
          refine wp_bd ?_
          refine wp_of (f_X13_setBand.eq_1 ..) ?_
          refine wp_bd ?_
          refine wp_of (f_X13_isDeck.eq_1 ..) ?_
          refine wp_bd ?_
          refine wp_of (f_X13_isBetween.eq_1 ..) ?_
          refine wp_ifn qf_33 ?_
          refine wp_ifn qf_101 ?_
          refine wp_of (f_X13_isBetween_15.eq_1 ..) ?_
          refine wp_gd qf_18 ?_
          refine wp_ret_bd ?_
          refine wp_gd qf_18 ?_
          refine wp_ret_bd ?_
          refine wp_ifn qf_19 ?_
          refine wp_bd ?_
          refine wp_of (f_X13_isBetween.eq_1 ..) ?_
          refine wp_ifp c3 ?_
          refine wp_of (f_X13_isBetween_14.eq_1 ..) ?_
          refine wp_of (f_X13_isBetween_15.eq_1 ..) ?_
          refine wp_gd qf_14 ?_
          refine wp_ret_bd ?_
          refine wp_ifp qf_15 ?_
          refine wp_of (f_X13_setBand_31.eq_1 ..) ?_
          refine wp_of (f_X13_setBand_36.eq_1 ..) ?_
          refine wp_gd ql_K_149 ?_
          refine wp_bd ?_
          refine wp_of (f_X13_isWrong.eq_1 ..) ?_
          refine wp_gd ql_K_149 ?_
          refine wp_zI ?_
          refine wp_ifn qf_110 ?_
          refine wp_of (f_X13_isWrong_14.eq_1 ..) ?_
          refine wp_gd qf_18 ?_
          refine wp_ret_bd ?_
          refine wp_ifn qf_19 ?_
          refine wp_ret_bd ?_
          refine wp_gd ql_K_149 ?_
          refine wp_bd ?_
          refine wp_of (f_X13_thrown.eq_1 ..) ?_
          refine wp_gd ql_K_149 ?_
          refine wp_lt gI_s ?_
          refine wp_ret_bd ?_
          refine wp_ifp qf_111 ?_
          refine wp_ifn qf_112 ?_
          refine wp_of (f_L_law_1840.eq_1 ..) ?_
          refine wp_of (f_L_law_3632.eq_1 ..) ?_
          refine wp_lt qf_21 ?_
          exact hrc _
        · skip
          refine wp_if (fun c4 => ?_) (fun c4 => ?_)
          · skip
            refine wp_of (f_X10_isIn_14.eq_1 ..) ?_
            refine wp_of (f_X10_isIn_15.eq_1 ..) ?_
            refine wp_gd qf_14 ?_
            refine wp_ret_bd ?_
            refine wp_ifp qf_15 ?_
            refine wp_of (f_X10_setBand_30.eq_1 ..) ?_
            refine wp_of (f_X10_setBand_31.eq_1 ..) ?_
            refine wp_bd ?_
            refine wp_of (f_X10_demand.eq_1 ..) ?_
            refine wp_ifp qf_15 ?_
            refine wp_rs_bd ?_
            refine wp_rs_bdc ?_
            refine wp_ifn qf_113 ?_
            refine wp_ifp qf_16 ?_
            refine wp_ret_bd ?_
            refine wp_gd qf_0 ?_
            refine wp_lt (xsk qf_1 hy1) ?_
            refine wp_gd qf_2 ?_
            refine wp_lt (xsk qf_3 hy2) ?_
            refine wp_gd qf_4 ?_
            refine wp_lt (xsk qf_5 hy3) ?_
            refine wp_gd ql_K_149 ?_
            refine wp_bd ?_
            refine wp_of (f_X13_setBand.eq_1 ..) ?_
            refine wp_bd ?_
            refine wp_of (f_X13_isDeck.eq_1 ..) ?_
            refine wp_bd ?_
            refine wp_of (f_X13_isBetween.eq_1 ..) ?_
            refine wp_ifn qf_33 ?_
            refine wp_ifn qf_101 ?_
            refine wp_of (f_X13_isBetween_15.eq_1 ..) ?_
            refine wp_gd qf_18 ?_
            refine wp_ret_bd ?_
            refine wp_gd qf_18 ?_
            refine wp_ret_bd ?_
            refine wp_ifn qf_19 ?_
            refine wp_bd ?_
            refine wp_of (f_X13_isBetween.eq_1 ..) ?_
            refine wp_ifn c3 ?_
            refine wp_ifp c4 ?_
            refine wp_of (f_X13_isBetween_14.eq_1 ..) ?_
            refine wp_of (f_X13_isBetween_15.eq_1 ..) ?_
            refine wp_gd qf_14 ?_
            refine wp_ret_bd ?_
            refine wp_ifp qf_15 ?_
            refine wp_of (f_X13_setBand_31.eq_1 ..) ?_
            refine wp_of (f_X13_setBand_36.eq_1 ..) ?_
            refine wp_gd ql_K_149 ?_
            refine wp_bd ?_
            refine wp_of (f_X13_isWrong.eq_1 ..) ?_
            refine wp_gd ql_K_149 ?_
            refine wp_zI ?_
            refine wp_ifn qf_110 ?_
            refine wp_of (f_X13_isWrong_14.eq_1 ..) ?_
            refine wp_gd qf_18 ?_
            refine wp_ret_bd ?_
            refine wp_ifn qf_19 ?_
            refine wp_ret_bd ?_
            refine wp_gd ql_K_149 ?_
            refine wp_bd ?_
            refine wp_of (f_X13_thrown.eq_1 ..) ?_
            refine wp_gd ql_K_149 ?_
            refine wp_lt gI_s ?_
            refine wp_ret_bd ?_
            refine wp_ifp qf_111 ?_
            refine wp_ifn qf_112 ?_
            refine wp_of (f_L_law_1840.eq_1 ..) ?_
            refine wp_of (f_L_law_3632.eq_1 ..) ?_
            refine wp_lt qf_21 ?_
            exact hrc _
          · skip
            refine wp_of (f_X10_isIn_15.eq_1 ..) ?_
            refine wp_gd qf_18 ?_
            refine wp_ret_bd ?_
            refine wp_ifn qf_19 ?_
            refine wp_bd ?_
            refine wp_of (f_X10_isIn.eq_1 ..) ?_
            refine wp_if (fun c5 => ?_) (fun c5 => ?_)
            · skip
              refine wp_of (f_X10_isIn_14.eq_1 ..) ?_
              refine wp_of (f_X10_isIn_15.eq_1 ..) ?_
              refine wp_gd qf_14 ?_
              refine wp_ret_bd ?_
              refine wp_ifp qf_15 ?_
              refine wp_of (f_X10_setBand_30.eq_1 ..) ?_
              refine wp_of (f_X10_setBand_31.eq_1 ..) ?_
              refine wp_bd ?_
              refine wp_of (f_X10_demand.eq_1 ..) ?_
              refine wp_ifp qf_15 ?_
              refine wp_rs_bd ?_
              refine wp_rs_bdc ?_
              refine wp_ifn qf_113 ?_
              refine wp_ifp qf_16 ?_
              refine wp_ret_bd ?_
              refine wp_gd qf_0 ?_
              refine wp_lt (xsk qf_1 hy1) ?_
              refine wp_gd qf_2 ?_
              refine wp_lt (xsk qf_3 hy2) ?_
              refine wp_gd qf_4 ?_
              refine wp_lt (xsk qf_5 hy3) ?_
              refine wp_gd ql_K_149 ?_
              refine wp_bd ?_
              refine wp_of (f_X13_setBand.eq_1 ..) ?_
              refine wp_bd ?_
              refine wp_of (f_X13_isDeck.eq_1 ..) ?_
              refine wp_bd ?_
              refine wp_of (f_X13_isBetween.eq_1 ..) ?_
              refine wp_ifn qf_33 ?_
              refine wp_ifn qf_101 ?_
              refine wp_of (f_X13_isBetween_15.eq_1 ..) ?_
              refine wp_gd qf_18 ?_
              refine wp_ret_bd ?_
              refine wp_gd qf_18 ?_
              refine wp_ret_bd ?_
              refine wp_ifn qf_19 ?_
              refine wp_bd ?_
              refine wp_of (f_X13_isBetween.eq_1 ..) ?_
              refine wp_ifn c3 ?_
              refine wp_ifn c4 ?_
              refine wp_of (f_X13_isBetween_15.eq_1 ..) ?_
              refine wp_gd qf_18 ?_
              refine wp_ret_bd ?_
              refine wp_ifn qf_19 ?_
              refine wp_bd ?_
              refine wp_of (f_X13_isBetween.eq_1 ..) ?_
              refine wp_ifp c5 ?_
              refine wp_of (f_X13_isBetween_14.eq_1 ..) ?_
              refine wp_of (f_X13_isBetween_15.eq_1 ..) ?_
              refine wp_gd qf_14 ?_
              refine wp_ret_bd ?_
              refine wp_ifp qf_15 ?_
              refine wp_of (f_X13_setBand_31.eq_1 ..) ?_
              refine wp_of (f_X13_setBand_36.eq_1 ..) ?_
              refine wp_gd ql_K_149 ?_
              refine wp_bd ?_
              refine wp_of (f_X13_isWrong.eq_1 ..) ?_
              refine wp_gd ql_K_149 ?_
              refine wp_zI ?_
              refine wp_ifn qf_110 ?_
              refine wp_of (f_X13_isWrong_14.eq_1 ..) ?_
              refine wp_gd qf_18 ?_
              refine wp_ret_bd ?_
              refine wp_ifn qf_19 ?_
              refine wp_ret_bd ?_
              refine wp_gd ql_K_149 ?_
              refine wp_bd ?_
              refine wp_of (f_X13_thrown.eq_1 ..) ?_
              refine wp_gd ql_K_149 ?_
              refine wp_lt gI_s ?_
              refine wp_ret_bd ?_
              refine wp_ifp qf_111 ?_
              refine wp_ifn qf_112 ?_
              refine wp_of (f_L_law_1840.eq_1 ..) ?_
              refine wp_of (f_L_law_3632.eq_1 ..) ?_
              refine wp_lt qf_21 ?_
              exact hrc _
            · skip
              refine wp_if (fun c6 => ?_) (fun c6 => ?_)
              · skip
                refine wp_of (f_X10_isIn_14.eq_1 ..) ?_
                refine wp_of (f_X10_isIn_15.eq_1 ..) ?_
                refine wp_gd qf_14 ?_
                refine wp_ret_bd ?_
                refine wp_ifp qf_15 ?_
                refine wp_of (f_X10_setBand_30.eq_1 ..) ?_
                refine wp_of (f_X10_setBand_31.eq_1 ..) ?_
                refine wp_bd ?_
                refine wp_of (f_X10_demand.eq_1 ..) ?_
                refine wp_ifp qf_15 ?_
                refine wp_rs_bd ?_
                refine wp_rs_bdc ?_
                refine wp_ifn qf_113 ?_
                refine wp_ifp qf_16 ?_
                refine wp_ret_bd ?_
                refine wp_gd qf_0 ?_
                refine wp_lt (xsk qf_1 hy1) ?_
                refine wp_gd qf_2 ?_
                refine wp_lt (xsk qf_3 hy2) ?_
                refine wp_gd qf_4 ?_
                refine wp_lt (xsk qf_5 hy3) ?_
                refine wp_gd ql_K_149 ?_
                refine wp_bd ?_
                refine wp_of (f_X13_setBand.eq_1 ..) ?_
                refine wp_bd ?_
                refine wp_of (f_X13_isDeck.eq_1 ..) ?_
                refine wp_bd ?_
                refine wp_of (f_X13_isBetween.eq_1 ..) ?_
                refine wp_ifn qf_33 ?_
                refine wp_ifn qf_101 ?_
                refine wp_of (f_X13_isBetween_15.eq_1 ..) ?_
                refine wp_gd qf_18 ?_
                refine wp_ret_bd ?_
                refine wp_gd qf_18 ?_
                refine wp_ret_bd ?_
                refine wp_ifn qf_19 ?_
                refine wp_bd ?_
                refine wp_of (f_X13_isBetween.eq_1 ..) ?_
                refine wp_ifn c3 ?_
                refine wp_ifn c4 ?_
                refine wp_of (f_X13_isBetween_15.eq_1 ..) ?_
                refine wp_gd qf_18 ?_
                refine wp_ret_bd ?_
                refine wp_ifn qf_19 ?_
                refine wp_bd ?_
                refine wp_of (f_X13_isBetween.eq_1 ..) ?_
                refine wp_ifn c5 ?_
                refine wp_ifp c6 ?_
                refine wp_of (f_X13_isBetween_14.eq_1 ..) ?_
                refine wp_of (f_X13_isBetween_15.eq_1 ..) ?_
                refine wp_gd qf_14 ?_
                refine wp_ret_bd ?_
                refine wp_ifp qf_15 ?_
                refine wp_of (f_X13_setBand_31.eq_1 ..) ?_
                refine wp_of (f_X13_setBand_36.eq_1 ..) ?_
                refine wp_gd ql_K_149 ?_
                refine wp_bd ?_
                refine wp_of (f_X13_isWrong.eq_1 ..) ?_
                refine wp_gd ql_K_149 ?_
                refine wp_zI ?_
                refine wp_ifn qf_110 ?_
                refine wp_of (f_X13_isWrong_14.eq_1 ..) ?_
                refine wp_gd qf_18 ?_
                refine wp_ret_bd ?_
                refine wp_ifn qf_19 ?_
                refine wp_ret_bd ?_
                refine wp_gd ql_K_149 ?_
                refine wp_bd ?_
                refine wp_of (f_X13_thrown.eq_1 ..) ?_
                refine wp_gd ql_K_149 ?_
                refine wp_lt gI_s ?_
                refine wp_ret_bd ?_
                refine wp_ifp qf_111 ?_
                refine wp_ifn qf_112 ?_
                refine wp_of (f_L_law_1840.eq_1 ..) ?_
                refine wp_of (f_L_law_3632.eq_1 ..) ?_
                refine wp_lt qf_21 ?_
                exact hrc _
              · skip
                refine wp_of (f_X10_isIn_15.eq_1 ..) ?_
                refine wp_gd qf_18 ?_
                refine wp_ret_bd ?_
                refine wp_ifn qf_19 ?_
                refine wp_of (f_X10_setBand_31.eq_1 ..) ?_
                refine wp_bd ?_
                refine wp_of (f_X10_demand.eq_1 ..) ?_
                refine wp_ifn qf_19 ?_
                refine wp_ret_bd ?_
                refine wp_gd ql_K_1 ?_
                refine wp_lt ql_R_1_2 ?_
                refine wp_gd ql_K_106 ?_
                refine wp_bd ?_
                refine wp_of (f_X6_note.eq_1 ..) ?_
                refine wp_gd ql_K_106 ?_
                refine wp_bd ?_
                refine wp_of (f_X6_open.eq_1 ..) ?_
                refine wp_gd ql_K_106 ?_
                refine wp_lt ql_I_106_2 ?_
                refine wp_lt qf_25 ?_
                refine wp_zI ?_
                refine wp_lt (Eq.trans (gI_b rfl) ql_I_106_2) ?_
                refine wp_ifn qf_26 ?_
                refine wp_lt (Eq.trans (gI_b rfl) ql_I_106_2) ?_
                refine wp_lt qf_27 ?_
                refine wp_zI ?_
                refine wp_of (f_X6_open_31.eq_1 ..) ?_
                refine wp_gd ql_K_106 ?_
                refine wp_bd ?_
                refine wp_of (f_X6_put.eq_1 ..) ?_
                refine wp_gd ql_K_106 ?_
                refine wp_lt (Eq.trans (gI_b rfl) gI_s) ?_
                refine wp_ifn qf_28 ?_
                refine wp_lt (Eq.trans (gI_b rfl) gI_s) ?_
                refine wp_lt ql_R_106_0 ?_
                refine wp_gd ql_K_107 ?_
                refine wp_lt (gZo ql_Z_107 qf_29) ?_
                refine wp_ifn qf_30 ?_
                refine wp_lt ql_R_106_0 ?_
                refine wp_lt (Eq.trans (gI_b rfl) gI_s) ?_
                refine wp_gd ql_K_107 ?_
                refine wp_gd (gZi ql_Z_107 qf_31) ?_
                refine wp_zIk qf_32 ?_
                refine wp_lt (Eq.trans (gI_a rfl) (Eq.trans (gI_b rfl) gI_s)) ?_
                refine wp_lt qf_27 ?_
                refine wp_zI ?_
                refine wp_of (f_X6_put_39.eq_1 ..) ?_
                refine wp_ret_bd ?_
                refine wp_ret_bd ?_
                refine wp_gd ql_K_106 ?_
                refine wp_bd ?_
                refine wp_of (f_X6_put.eq_1 ..) ?_
                refine wp_gd ql_K_106 ?_
                refine wp_lt gI_s ?_
                refine wp_ifn qf_33 ?_
                refine wp_lt gI_s ?_
                refine wp_lt ql_R_106_0 ?_
                refine wp_gd ql_K_107 ?_
                refine wp_lt (gZo ql_Z_107 qf_29) ?_
                refine wp_ifn qf_34 ?_
                refine wp_lt ql_R_106_0 ?_
                refine wp_lt gI_s ?_
                refine wp_gd ql_K_107 ?_
                refine wp_gd (gZi ql_Z_107 qf_35) ?_
                refine wp_zIk qf_36 ?_
                refine wp_lt (Eq.trans (gI_a rfl) gI_s) ?_
                refine wp_lt qf_37 ?_
                refine wp_zI ?_
                refine wp_of (f_X6_put_39.eq_1 ..) ?_
                refine wp_ret_bd ?_
                refine wp_gd ql_K_106 ?_
                refine wp_bd ?_
                refine wp_of (f_X6_put.eq_1 ..) ?_
                refine wp_gd ql_K_106 ?_
                refine wp_lt gI_s ?_
                refine wp_ifn qf_38 ?_
                refine wp_lt gI_s ?_
                refine wp_lt ql_R_106_0 ?_
                refine wp_gd ql_K_107 ?_
                refine wp_lt (gZo ql_Z_107 qf_29) ?_
                refine wp_ifn qf_39 ?_
                refine wp_lt ql_R_106_0 ?_
                refine wp_lt gI_s ?_
                refine wp_gd ql_K_107 ?_
                refine wp_gd (gZi ql_Z_107 qf_40) ?_
                refine wp_zIk qf_41 ?_
                refine wp_lt (Eq.trans (gI_a rfl) gI_s) ?_
                refine wp_lt qf_42 ?_
                refine wp_zI ?_
                refine wp_of (f_X6_put_39.eq_1 ..) ?_
                refine wp_ret_bd ?_
                refine wp_gd ql_K_106 ?_
                refine wp_bd ?_
                refine wp_of (f_X6_put.eq_1 ..) ?_
                refine wp_gd ql_K_106 ?_
                refine wp_lt gI_s ?_
                refine wp_ifn qf_43 ?_
                refine wp_lt gI_s ?_
                refine wp_lt ql_R_106_0 ?_
                refine wp_gd ql_K_107 ?_
                refine wp_lt (gZo ql_Z_107 qf_29) ?_
                refine wp_ifn qf_44 ?_
                refine wp_lt ql_R_106_0 ?_
                refine wp_lt gI_s ?_
                refine wp_gd ql_K_107 ?_
                refine wp_gd (gZi ql_Z_107 qf_45) ?_
                refine wp_zIk qf_46 ?_
                refine wp_lt (Eq.trans (gI_a rfl) gI_s) ?_
                refine wp_lt qf_47 ?_
                refine wp_zI ?_
                refine wp_of (f_X6_put_39.eq_1 ..) ?_
                refine wp_ret_bd ?_
                refine wp_ret_bd ?_
                refine wp_gd ql_K_25 ?_
                refine wp_lt ql_R_25_0 ?_
                refine wp_gd ql_K_26 ?_
                refine wp_bd ?_
                refine wp_of (f_X0_turnBand.eq_1 ..) ?_
                refine wp_ifn c3 ?_
                refine wp_gd ql_K_26 ?_
                refine wp_lt ql_R_26_0 ?_
                refine wp_gd ql_K_27 ?_
                refine wp_lt (gZo ql_Z_27 qf_121) ?_
                refine wp_ifp (show (y2 < (3 : Int32)) from by have e0 := qf_90; have e1 := qf_96; have e2 := qf_93; simp only [Int32.lt_iff_toInt_lt, Int32.le_iff_toInt_le, ← Int32.toInt_inj] at c3 c4 ⊢; omega) ?_
                refine wp_lt ql_R_26_0 ?_
                refine wp_gd ql_K_27 ?_
                rcases (show y2 = (0 : Int32) ∨ y2 = (1 : Int32) ∨ y2 = (2 : Int32) from by have e0 := qf_90; have e1 := qf_95; have e2 := qf_96; simp only [Int32.lt_iff_toInt_lt, Int32.le_iff_toInt_le] at c3 c4; simp only [← Int32.toInt_inj]; omega) with rfl | rfl | rfl
                · skip
                  refine wp_gd (gZi ql_Z_27 qf_122) ?_
                  refine wp_lt (gIk qf_32 (Eq.trans (gI_a rfl) (Eq.trans (gI_a rfl) (Eq.trans (gI_a rfl) (Eq.trans (gI_a rfl) (Eq.trans (gI_a rfl) (Eq.trans (gI_a rfl) (Eq.trans (gI_a rfl) (Eq.trans (gI_a rfl) (Eq.trans (gI_a rfl) (Eq.trans (gI_a rfl) ql_I_27_0))))))))))) ?_
                  refine wp_lt ql_R_26_0 ?_
                  refine wp_gd ql_K_27 ?_
                  refine wp_gd (gZi ql_Z_27 qf_122) ?_
                  refine wp_zIk qf_32 ?_
                  refine wp_ret_bd ?_
                  refine wp_ret_bdc ?_
                  refine wp_lt qf_123 ?_
                  refine wp_gd ql_K_173 ?_
                  refine wp_gd (gZi ql_Z_173 qf_71) ?_
                  refine wp_zLk qf_32 ?_
                  refine wp_ret_bd ?_
                  refine wp_gd qf_0 ?_
                  refine wp_lt (xsk qf_1 hy1) ?_
                  refine wp_gd qf_2 ?_
                  refine wp_lt (xsk qf_3 hy2) ?_
                  refine wp_gd qf_4 ?_
                  refine wp_lt (xsk qf_5 hy3) ?_
                  refine wp_gd ql_K_149 ?_
                  refine wp_bd ?_
                  refine wp_of (f_X13_setBand.eq_1 ..) ?_
                  refine wp_bd ?_
                  refine wp_of (f_X13_isDeck.eq_1 ..) ?_
                  refine wp_bd ?_
                  refine wp_of (f_X13_isBetween.eq_1 ..) ?_
                  refine wp_ifn qf_33 ?_
                  refine wp_ifn qf_101 ?_
                  refine wp_of (f_X13_isBetween_15.eq_1 ..) ?_
                  refine wp_gd qf_18 ?_
                  refine wp_ret_bd ?_
                  refine wp_gd qf_18 ?_
                  refine wp_ret_bd ?_
                  refine wp_ifn qf_19 ?_
                  refine wp_bd ?_
                  refine wp_of (f_X13_isBetween.eq_1 ..) ?_
                  refine wp_ifn qf_28 ?_
                  refine wp_ifn qf_38 ?_
                  refine wp_of (f_X13_isBetween_15.eq_1 ..) ?_
                  refine wp_gd qf_18 ?_
                  refine wp_ret_bd ?_
                  refine wp_ifn qf_19 ?_
                  refine wp_bd ?_
                  refine wp_of (f_X13_isBetween.eq_1 ..) ?_
                  refine wp_ifn c5 ?_
                  refine wp_ifn c6 ?_
                  refine wp_of (f_X13_isBetween_15.eq_1 ..) ?_
                  refine wp_gd qf_18 ?_
                  refine wp_ret_bd ?_
                  refine wp_ifn qf_19 ?_
                  refine wp_of (f_X13_setBand_36.eq_1 ..) ?_
                  refine wp_gd ql_K_149 ?_
                  refine wp_bd ?_
                  refine wp_of (f_X13_isWrong.eq_1 ..) ?_
                  refine wp_gd ql_K_149 ?_
                  refine wp_zI ?_
                  refine wp_ifp qf_73 ?_
                  refine wp_of (f_X13_isWrong_14.eq_1 ..) ?_
                  refine wp_gd qf_14 ?_
                  refine wp_ret_bd ?_
                  refine wp_ifp qf_15 ?_
                  refine wp_gd ql_K_149 ?_
                  refine wp_lt ql_R_149_2 ?_
                  refine wp_gd ql_K_151 ?_
                  refine wp_gd (gZi ql_Z_151 qf_99) ?_
                  refine wp_lt (gRk qf_36 ql_R_151_1) ?_
                  refine wp_gd ql_K_156 ?_
                  refine wp_lt ql_R_156_6 ?_
                  refine wp_gd ql_K_157 ?_
                  refine wp_gd (gZi ql_Z_157 qf_122) ?_
                  refine wp_lt (gIk qf_32 (Eq.trans (gI_a rfl) (Eq.trans (gI_a rfl) (Eq.trans (gI_a rfl) (Eq.trans (gI_a rfl) (Eq.trans (gI_a rfl) (Eq.trans (gI_a rfl) (Eq.trans (gI_a rfl) (Eq.trans (gI_a rfl) (Eq.trans (gI_a rfl) (Eq.trans (gI_a rfl) (Eq.trans (gI_a rfl) (Eq.trans (gI_a rfl) ql_I_157_0))))))))))))) ?_
                  refine wp_lt ql_R_149_2 ?_
                  refine wp_gd ql_K_151 ?_
                  refine wp_gd (gZi ql_Z_151 qf_99) ?_
                  refine wp_lt (gRk qf_36 ql_R_151_1) ?_
                  refine wp_gd ql_K_156 ?_
                  refine wp_lt ql_R_156_6 ?_
                  refine wp_gd ql_K_157 ?_
                  refine wp_gd (gZi ql_Z_157 qf_122) ?_
                  refine wp_zIk qf_32 ?_
                  refine wp_bd ?_
                  refine wp_of (f_X13_logs.eq_1 ..) ?_
                  refine wp_gd ql_K_149 ?_
                  refine wp_lt (Eq.trans (gI_a rfl) (Eq.trans (gI_b rfl) (Eq.trans (gI_a rfl) (Eq.trans (gI_a rfl) (Eq.trans (gI_a rfl) (Eq.trans (gI_a rfl) (Eq.trans (gI_a rfl) (Eq.trans (gI_a rfl) (Eq.trans (gI_a rfl) (Eq.trans (gI_a rfl) (Eq.trans (gI_a rfl) (Eq.trans (gI_a rfl) (Eq.trans (gI_a rfl) ql_I_149_16))))))))))))) ?_
                  refine wp_lt qf_27 ?_
                  refine wp_zI ?_
                  refine wp_ret_bd ?_
                  refine wp_ret_bd ?_
                  refine wp_gd ql_K_149 ?_
                  refine wp_bd ?_
                  refine wp_of (f_X13_thrown.eq_1 ..) ?_
                  refine wp_gd ql_K_149 ?_
                  refine wp_lt (Eq.trans (gI_b rfl) (Eq.trans (gI_a rfl) gI_s)) ?_
                  refine wp_ret_bd ?_
                  refine wp_ifp qf_15 ?_
                  refine wp_ifp qf_15 ?_
                  refine wp_gd ql_K_173 ?_
                  refine wp_gd (gZi ql_Z_173 qf_71) ?_
                  refine wp_lt (gLk qf_32 gL_s) ?_
                  refine wp_lt qf_123 ?_
                  refine wp_lt qf_124 ?_
                  refine wp_ifp qf_15 ?_
                  refine wp_of (f_L_law_1840.eq_1 ..) ?_
                  refine wp_of (f_L_law_3632.eq_1 ..) ?_
                  refine wp_lt qf_21 ?_
                  exact hrc _
                · skip
                  refine wp_gd (gZi ql_Z_27 qf_125) ?_
                  refine wp_lt (gIk qf_36 (Eq.trans (gI_a rfl) (Eq.trans (gI_a rfl) (Eq.trans (gI_a rfl) (Eq.trans (gI_a rfl) (Eq.trans (gI_a rfl) (Eq.trans (gI_a rfl) (Eq.trans (gI_a rfl) (Eq.trans (gI_a rfl) (Eq.trans (gI_a rfl) (Eq.trans (gI_a rfl) ql_I_27_1))))))))))) ?_
                  refine wp_lt ql_R_26_0 ?_
                  refine wp_gd ql_K_27 ?_
                  refine wp_gd (gZi ql_Z_27 qf_125) ?_
                  refine wp_zIk qf_36 ?_
                  refine wp_ret_bd ?_
                  refine wp_ret_bdc ?_
                  refine wp_lt qf_123 ?_
                  refine wp_gd ql_K_173 ?_
                  refine wp_gd (gZi ql_Z_173 qf_71) ?_
                  refine wp_zLk qf_32 ?_
                  refine wp_ret_bd ?_
                  refine wp_gd qf_0 ?_
                  refine wp_lt (xsk qf_1 hy1) ?_
                  refine wp_gd qf_2 ?_
                  refine wp_lt (xsk qf_3 hy2) ?_
                  refine wp_gd qf_4 ?_
                  refine wp_lt (xsk qf_5 hy3) ?_
                  refine wp_gd ql_K_149 ?_
                  refine wp_bd ?_
                  refine wp_of (f_X13_setBand.eq_1 ..) ?_
                  refine wp_bd ?_
                  refine wp_of (f_X13_isDeck.eq_1 ..) ?_
                  refine wp_bd ?_
                  refine wp_of (f_X13_isBetween.eq_1 ..) ?_
                  refine wp_ifn qf_33 ?_
                  refine wp_ifn qf_101 ?_
                  refine wp_of (f_X13_isBetween_15.eq_1 ..) ?_
                  refine wp_gd qf_18 ?_
                  refine wp_ret_bd ?_
                  refine wp_gd qf_18 ?_
                  refine wp_ret_bd ?_
                  refine wp_ifn qf_19 ?_
                  refine wp_bd ?_
                  refine wp_of (f_X13_isBetween.eq_1 ..) ?_
                  refine wp_ifn qf_33 ?_
                  refine wp_ifn qf_126 ?_
                  refine wp_of (f_X13_isBetween_15.eq_1 ..) ?_
                  refine wp_gd qf_18 ?_
                  refine wp_ret_bd ?_
                  refine wp_ifn qf_19 ?_
                  refine wp_bd ?_
                  refine wp_of (f_X13_isBetween.eq_1 ..) ?_
                  refine wp_ifn c5 ?_
                  refine wp_ifn c6 ?_
                  refine wp_of (f_X13_isBetween_15.eq_1 ..) ?_
                  refine wp_gd qf_18 ?_
                  refine wp_ret_bd ?_
                  refine wp_ifn qf_19 ?_
                  refine wp_of (f_X13_setBand_36.eq_1 ..) ?_
                  refine wp_gd ql_K_149 ?_
                  refine wp_bd ?_
                  refine wp_of (f_X13_isWrong.eq_1 ..) ?_
                  refine wp_gd ql_K_149 ?_
                  refine wp_zI ?_
                  refine wp_ifp qf_73 ?_
                  refine wp_of (f_X13_isWrong_14.eq_1 ..) ?_
                  refine wp_gd qf_14 ?_
                  refine wp_ret_bd ?_
                  refine wp_ifp qf_15 ?_
                  refine wp_gd ql_K_149 ?_
                  refine wp_lt ql_R_149_2 ?_
                  refine wp_gd ql_K_151 ?_
                  refine wp_gd (gZi ql_Z_151 qf_99) ?_
                  refine wp_lt (gRk qf_36 ql_R_151_1) ?_
                  refine wp_gd ql_K_156 ?_
                  refine wp_lt ql_R_156_6 ?_
                  refine wp_gd ql_K_157 ?_
                  refine wp_gd (gZi ql_Z_157 qf_125) ?_
                  refine wp_lt (gIk qf_36 (Eq.trans (gI_a rfl) (Eq.trans (gI_a rfl) (Eq.trans (gI_a rfl) (Eq.trans (gI_a rfl) (Eq.trans (gI_a rfl) (Eq.trans (gI_a rfl) (Eq.trans (gI_a rfl) (Eq.trans (gI_a rfl) (Eq.trans (gI_a rfl) (Eq.trans (gI_a rfl) (Eq.trans (gI_a rfl) (Eq.trans (gI_a rfl) ql_I_157_1))))))))))))) ?_
                  refine wp_lt ql_R_149_2 ?_
                  refine wp_gd ql_K_151 ?_
                  refine wp_gd (gZi ql_Z_151 qf_99) ?_
                  refine wp_lt (gRk qf_36 ql_R_151_1) ?_
                  refine wp_gd ql_K_156 ?_
                  refine wp_lt ql_R_156_6 ?_
                  refine wp_gd ql_K_157 ?_
                  refine wp_gd (gZi ql_Z_157 qf_125) ?_
                  refine wp_zIk qf_36 ?_
                  refine wp_bd ?_
                  refine wp_of (f_X13_logs.eq_1 ..) ?_
                  refine wp_gd ql_K_149 ?_
                  refine wp_lt (Eq.trans (gI_a rfl) (Eq.trans (gI_b rfl) (Eq.trans (gI_a rfl) (Eq.trans (gI_a rfl) (Eq.trans (gI_a rfl) (Eq.trans (gI_a rfl) (Eq.trans (gI_a rfl) (Eq.trans (gI_a rfl) (Eq.trans (gI_a rfl) (Eq.trans (gI_a rfl) (Eq.trans (gI_a rfl) (Eq.trans (gI_a rfl) (Eq.trans (gI_a rfl) ql_I_149_16))))))))))))) ?_
                  refine wp_lt qf_27 ?_
                  refine wp_zI ?_
                  refine wp_ret_bd ?_
                  refine wp_ret_bd ?_
                  refine wp_gd ql_K_149 ?_
                  refine wp_bd ?_
                  refine wp_of (f_X13_thrown.eq_1 ..) ?_
                  refine wp_gd ql_K_149 ?_
                  refine wp_lt (Eq.trans (gI_b rfl) (Eq.trans (gI_a rfl) gI_s)) ?_
                  refine wp_ret_bd ?_
                  refine wp_ifp qf_15 ?_
                  refine wp_ifp qf_15 ?_
                  refine wp_gd ql_K_173 ?_
                  refine wp_gd (gZi ql_Z_173 qf_71) ?_
                  refine wp_lt (gLk qf_32 gL_s) ?_
                  refine wp_lt qf_123 ?_
                  refine wp_lt qf_124 ?_
                  refine wp_ifp qf_15 ?_
                  refine wp_of (f_L_law_1840.eq_1 ..) ?_
                  refine wp_of (f_L_law_3632.eq_1 ..) ?_
                  refine wp_lt qf_21 ?_
                  exact hrc _
                · skip
                  refine wp_gd (gZi ql_Z_27 qf_127) ?_
                  refine wp_lt (gIk qf_41 (Eq.trans (gI_a rfl) (Eq.trans (gI_a rfl) (Eq.trans (gI_a rfl) (Eq.trans (gI_a rfl) (Eq.trans (gI_a rfl) (Eq.trans (gI_a rfl) (Eq.trans (gI_a rfl) (Eq.trans (gI_a rfl) (Eq.trans (gI_a rfl) (Eq.trans (gI_a rfl) ql_I_27_2))))))))))) ?_
                  refine wp_lt ql_R_26_0 ?_
                  refine wp_gd ql_K_27 ?_
                  refine wp_gd (gZi ql_Z_27 qf_127) ?_
                  refine wp_zIk qf_41 ?_
                  refine wp_ret_bd ?_
                  refine wp_ret_bdc ?_
                  refine wp_lt qf_123 ?_
                  refine wp_gd ql_K_173 ?_
                  refine wp_gd (gZi ql_Z_173 qf_71) ?_
                  refine wp_zLk qf_32 ?_
                  refine wp_ret_bd ?_
                  refine wp_gd qf_0 ?_
                  refine wp_lt (xsk qf_1 hy1) ?_
                  refine wp_gd qf_2 ?_
                  refine wp_lt (xsk qf_3 hy2) ?_
                  refine wp_gd qf_4 ?_
                  refine wp_lt (xsk qf_5 hy3) ?_
                  refine wp_gd ql_K_149 ?_
                  refine wp_bd ?_
                  refine wp_of (f_X13_setBand.eq_1 ..) ?_
                  refine wp_bd ?_
                  refine wp_of (f_X13_isDeck.eq_1 ..) ?_
                  refine wp_bd ?_
                  refine wp_of (f_X13_isBetween.eq_1 ..) ?_
                  refine wp_ifn qf_33 ?_
                  refine wp_ifn qf_101 ?_
                  refine wp_of (f_X13_isBetween_15.eq_1 ..) ?_
                  refine wp_gd qf_18 ?_
                  refine wp_ret_bd ?_
                  refine wp_gd qf_18 ?_
                  refine wp_ret_bd ?_
                  refine wp_ifn qf_19 ?_
                  refine wp_bd ?_
                  refine wp_of (f_X13_isBetween.eq_1 ..) ?_
                  refine wp_ifn qf_38 ?_
                  refine wp_ifn qf_128 ?_
                  refine wp_of (f_X13_isBetween_15.eq_1 ..) ?_
                  refine wp_gd qf_18 ?_
                  refine wp_ret_bd ?_
                  refine wp_ifn qf_19 ?_
                  refine wp_bd ?_
                  refine wp_of (f_X13_isBetween.eq_1 ..) ?_
                  refine wp_ifn c5 ?_
                  refine wp_ifn c6 ?_
                  refine wp_of (f_X13_isBetween_15.eq_1 ..) ?_
                  refine wp_gd qf_18 ?_
                  refine wp_ret_bd ?_
                  refine wp_ifn qf_19 ?_
                  refine wp_of (f_X13_setBand_36.eq_1 ..) ?_
                  refine wp_gd ql_K_149 ?_
                  refine wp_bd ?_
                  refine wp_of (f_X13_isWrong.eq_1 ..) ?_
                  refine wp_gd ql_K_149 ?_
                  refine wp_zI ?_
                  refine wp_ifp qf_73 ?_
                  refine wp_of (f_X13_isWrong_14.eq_1 ..) ?_
                  refine wp_gd qf_14 ?_
                  refine wp_ret_bd ?_
                  refine wp_ifp qf_15 ?_
                  refine wp_gd ql_K_149 ?_
                  refine wp_lt ql_R_149_2 ?_
                  refine wp_gd ql_K_151 ?_
                  refine wp_gd (gZi ql_Z_151 qf_99) ?_
                  refine wp_lt (gRk qf_36 ql_R_151_1) ?_
                  refine wp_gd ql_K_156 ?_
                  refine wp_lt ql_R_156_6 ?_
                  refine wp_gd ql_K_157 ?_
                  refine wp_gd (gZi ql_Z_157 qf_127) ?_
                  refine wp_lt (gIk qf_41 (Eq.trans (gI_a rfl) (Eq.trans (gI_a rfl) (Eq.trans (gI_a rfl) (Eq.trans (gI_a rfl) (Eq.trans (gI_a rfl) (Eq.trans (gI_a rfl) (Eq.trans (gI_a rfl) (Eq.trans (gI_a rfl) (Eq.trans (gI_a rfl) (Eq.trans (gI_a rfl) (Eq.trans (gI_a rfl) (Eq.trans (gI_a rfl) ql_I_157_2))))))))))))) ?_
                  refine wp_lt ql_R_149_2 ?_
                  refine wp_gd ql_K_151 ?_
                  refine wp_gd (gZi ql_Z_151 qf_99) ?_
                  refine wp_lt (gRk qf_36 ql_R_151_1) ?_
                  refine wp_gd ql_K_156 ?_
                  refine wp_lt ql_R_156_6 ?_
                  refine wp_gd ql_K_157 ?_
                  refine wp_gd (gZi ql_Z_157 qf_127) ?_
                  refine wp_zIk qf_41 ?_
                  refine wp_bd ?_
                  refine wp_of (f_X13_logs.eq_1 ..) ?_
                  refine wp_gd ql_K_149 ?_
                  refine wp_lt (Eq.trans (gI_a rfl) (Eq.trans (gI_b rfl) (Eq.trans (gI_a rfl) (Eq.trans (gI_a rfl) (Eq.trans (gI_a rfl) (Eq.trans (gI_a rfl) (Eq.trans (gI_a rfl) (Eq.trans (gI_a rfl) (Eq.trans (gI_a rfl) (Eq.trans (gI_a rfl) (Eq.trans (gI_a rfl) (Eq.trans (gI_a rfl) (Eq.trans (gI_a rfl) ql_I_149_16))))))))))))) ?_
                  refine wp_lt qf_27 ?_
                  refine wp_zI ?_
                  refine wp_ret_bd ?_
                  refine wp_ret_bd ?_
                  refine wp_gd ql_K_149 ?_
                  refine wp_bd ?_
                  refine wp_of (f_X13_thrown.eq_1 ..) ?_
                  refine wp_gd ql_K_149 ?_
                  refine wp_lt (Eq.trans (gI_b rfl) (Eq.trans (gI_a rfl) gI_s)) ?_
                  refine wp_ret_bd ?_
                  refine wp_ifp qf_15 ?_
                  refine wp_ifp qf_15 ?_
                  refine wp_gd ql_K_173 ?_
                  refine wp_gd (gZi ql_Z_173 qf_71) ?_
                  refine wp_lt (gLk qf_32 gL_s) ?_
                  refine wp_lt qf_123 ?_
                  refine wp_lt qf_124 ?_
                  refine wp_ifp qf_15 ?_
                  refine wp_of (f_L_law_1840.eq_1 ..) ?_
                  refine wp_of (f_L_law_3632.eq_1 ..) ?_
                  refine wp_lt qf_21 ?_
                  exact hrc _
      · skip
        refine wp_gd (gZi ql_Z_16 qf_102) ?_
        refine wp_lt (gRk qf_41 ql_R_16_2) ?_
        refine wp_of (f_X8_deckAt_23.eq_1 ..) ?_
        refine wp_ret_bd ?_
        refine wp_ifn qf_103 ?_
        refine wp_ret_bd ?_
        refine wp_bd ?_
        refine wp_of (f_X10_isIn.eq_1 ..) ?_
        refine wp_if (fun c3 => ?_) (fun c3 => ?_)
        · skip
          refine wp_of (f_X10_isIn_14.eq_1 ..) ?_
          refine wp_of (f_X10_isIn_15.eq_1 ..) ?_
          refine wp_gd qf_14 ?_
          refine wp_ret_bd ?_
          refine wp_ifp qf_15 ?_
          refine wp_of (f_X10_setBand_30.eq_1 ..) ?_
          refine wp_of (f_X10_setBand_31.eq_1 ..) ?_
          refine wp_bd ?_
          refine wp_of (f_X10_demand.eq_1 ..) ?_
          refine wp_ifp qf_15 ?_
          refine wp_rs_bd ?_
          refine wp_rs_bdc ?_
          refine wp_ifn qf_113 ?_
          refine wp_ifp qf_16 ?_
          refine wp_ret_bd ?_
          refine wp_gd qf_0 ?_
          refine wp_lt (xsk qf_1 hy1) ?_
          refine wp_gd qf_2 ?_
          refine wp_lt (xsk qf_3 hy2) ?_
          refine wp_gd qf_4 ?_
          refine wp_lt (xsk qf_5 hy3) ?_
          refine wp_gd ql_K_149 ?_
          refine wp_bd ?_
          refine wp_of (f_X13_setBand.eq_1 ..) ?_
          refine wp_bd ?_
          refine wp_of (f_X13_isDeck.eq_1 ..) ?_
          refine wp_bd ?_
          refine wp_of (f_X13_isBetween.eq_1 ..) ?_
          refine wp_ifn qf_38 ?_
          refine wp_ifn qf_104 ?_
          refine wp_of (f_X13_isBetween_15.eq_1 ..) ?_
          refine wp_gd qf_18 ?_
          refine wp_ret_bd ?_
          refine wp_gd qf_18 ?_
          refine wp_ret_bd ?_
          refine wp_ifn qf_19 ?_
          refine wp_bd ?_
          refine wp_of (f_X13_isBetween.eq_1 ..) ?_
          refine wp_ifp c3 ?_
          refine wp_of (f_X13_isBetween_14.eq_1 ..) ?_
          refine wp_of (f_X13_isBetween_15.eq_1 ..) ?_
          refine wp_gd qf_14 ?_
          refine wp_ret_bd ?_
          refine wp_ifp qf_15 ?_
          refine wp_of (f_X13_setBand_31.eq_1 ..) ?_
          refine wp_of (f_X13_setBand_36.eq_1 ..) ?_
          refine wp_gd ql_K_149 ?_
          refine wp_bd ?_
          refine wp_of (f_X13_isWrong.eq_1 ..) ?_
          refine wp_gd ql_K_149 ?_
          refine wp_zI ?_
          refine wp_ifn qf_110 ?_
          refine wp_of (f_X13_isWrong_14.eq_1 ..) ?_
          refine wp_gd qf_18 ?_
          refine wp_ret_bd ?_
          refine wp_ifn qf_19 ?_
          refine wp_ret_bd ?_
          refine wp_gd ql_K_149 ?_
          refine wp_bd ?_
          refine wp_of (f_X13_thrown.eq_1 ..) ?_
          refine wp_gd ql_K_149 ?_
          refine wp_lt gI_s ?_
          refine wp_ret_bd ?_
          refine wp_ifp qf_111 ?_
          refine wp_ifn qf_112 ?_
          refine wp_of (f_L_law_1840.eq_1 ..) ?_
          refine wp_of (f_L_law_3632.eq_1 ..) ?_
          refine wp_lt qf_21 ?_
          exact hrc _
        · skip
          refine wp_if (fun c4 => ?_) (fun c4 => ?_)
          · skip
            refine wp_of (f_X10_isIn_14.eq_1 ..) ?_
            refine wp_of (f_X10_isIn_15.eq_1 ..) ?_
            refine wp_gd qf_14 ?_
            refine wp_ret_bd ?_
            refine wp_ifp qf_15 ?_
            refine wp_of (f_X10_setBand_30.eq_1 ..) ?_
            refine wp_of (f_X10_setBand_31.eq_1 ..) ?_
            refine wp_bd ?_
            refine wp_of (f_X10_demand.eq_1 ..) ?_
            refine wp_ifp qf_15 ?_
            refine wp_rs_bd ?_
            refine wp_rs_bdc ?_
            refine wp_ifn qf_113 ?_
            refine wp_ifp qf_16 ?_
            refine wp_ret_bd ?_
            refine wp_gd qf_0 ?_
            refine wp_lt (xsk qf_1 hy1) ?_
            refine wp_gd qf_2 ?_
            refine wp_lt (xsk qf_3 hy2) ?_
            refine wp_gd qf_4 ?_
            refine wp_lt (xsk qf_5 hy3) ?_
            refine wp_gd ql_K_149 ?_
            refine wp_bd ?_
            refine wp_of (f_X13_setBand.eq_1 ..) ?_
            refine wp_bd ?_
            refine wp_of (f_X13_isDeck.eq_1 ..) ?_
            refine wp_bd ?_
            refine wp_of (f_X13_isBetween.eq_1 ..) ?_
            refine wp_ifn qf_38 ?_
            refine wp_ifn qf_104 ?_
            refine wp_of (f_X13_isBetween_15.eq_1 ..) ?_
            refine wp_gd qf_18 ?_
            refine wp_ret_bd ?_
            refine wp_gd qf_18 ?_
            refine wp_ret_bd ?_
            refine wp_ifn qf_19 ?_
            refine wp_bd ?_
            refine wp_of (f_X13_isBetween.eq_1 ..) ?_
            refine wp_ifn c3 ?_
            refine wp_ifp c4 ?_
            refine wp_of (f_X13_isBetween_14.eq_1 ..) ?_
            refine wp_of (f_X13_isBetween_15.eq_1 ..) ?_
            refine wp_gd qf_14 ?_
            refine wp_ret_bd ?_
            refine wp_ifp qf_15 ?_
            refine wp_of (f_X13_setBand_31.eq_1 ..) ?_
            refine wp_of (f_X13_setBand_36.eq_1 ..) ?_
            refine wp_gd ql_K_149 ?_
            refine wp_bd ?_
            refine wp_of (f_X13_isWrong.eq_1 ..) ?_
            refine wp_gd ql_K_149 ?_
            refine wp_zI ?_
            refine wp_ifn qf_110 ?_
            refine wp_of (f_X13_isWrong_14.eq_1 ..) ?_
            refine wp_gd qf_18 ?_
            refine wp_ret_bd ?_
            refine wp_ifn qf_19 ?_
            refine wp_ret_bd ?_
            refine wp_gd ql_K_149 ?_
            refine wp_bd ?_
            refine wp_of (f_X13_thrown.eq_1 ..) ?_
            refine wp_gd ql_K_149 ?_
            refine wp_lt gI_s ?_
            refine wp_ret_bd ?_
            refine wp_ifp qf_111 ?_
            refine wp_ifn qf_112 ?_
            refine wp_of (f_L_law_1840.eq_1 ..) ?_
            refine wp_of (f_L_law_3632.eq_1 ..) ?_
            refine wp_lt qf_21 ?_
            exact hrc _
          · skip
            refine wp_of (f_X10_isIn_15.eq_1 ..) ?_
            refine wp_gd qf_18 ?_
            refine wp_ret_bd ?_
            refine wp_ifn qf_19 ?_
            refine wp_bd ?_
            refine wp_of (f_X10_isIn.eq_1 ..) ?_
            refine wp_if (fun c5 => ?_) (fun c5 => ?_)
            · skip
              refine wp_of (f_X10_isIn_14.eq_1 ..) ?_
              refine wp_of (f_X10_isIn_15.eq_1 ..) ?_
              refine wp_gd qf_14 ?_
              refine wp_ret_bd ?_
              refine wp_ifp qf_15 ?_
              refine wp_of (f_X10_setBand_30.eq_1 ..) ?_
              refine wp_of (f_X10_setBand_31.eq_1 ..) ?_
              refine wp_bd ?_
              refine wp_of (f_X10_demand.eq_1 ..) ?_
              refine wp_ifp qf_15 ?_
              refine wp_rs_bd ?_
              refine wp_rs_bdc ?_
              refine wp_ifn qf_113 ?_
              refine wp_ifp qf_16 ?_
              refine wp_ret_bd ?_
              refine wp_gd qf_0 ?_
              refine wp_lt (xsk qf_1 hy1) ?_
              refine wp_gd qf_2 ?_
              refine wp_lt (xsk qf_3 hy2) ?_
              refine wp_gd qf_4 ?_
              refine wp_lt (xsk qf_5 hy3) ?_
              refine wp_gd ql_K_149 ?_
              refine wp_bd ?_
              refine wp_of (f_X13_setBand.eq_1 ..) ?_
              refine wp_bd ?_
              refine wp_of (f_X13_isDeck.eq_1 ..) ?_
              refine wp_bd ?_
              refine wp_of (f_X13_isBetween.eq_1 ..) ?_
              refine wp_ifn qf_38 ?_
              refine wp_ifn qf_104 ?_
              refine wp_of (f_X13_isBetween_15.eq_1 ..) ?_
              refine wp_gd qf_18 ?_
              refine wp_ret_bd ?_
              refine wp_gd qf_18 ?_
              refine wp_ret_bd ?_
              refine wp_ifn qf_19 ?_
              refine wp_bd ?_
              refine wp_of (f_X13_isBetween.eq_1 ..) ?_
              refine wp_ifn c3 ?_
              refine wp_ifn c4 ?_
              refine wp_of (f_X13_isBetween_15.eq_1 ..) ?_
              refine wp_gd qf_18 ?_
              refine wp_ret_bd ?_
              refine wp_ifn qf_19 ?_
              refine wp_bd ?_
              refine wp_of (f_X13_isBetween.eq_1 ..) ?_
              refine wp_ifp c5 ?_
              refine wp_of (f_X13_isBetween_14.eq_1 ..) ?_
              refine wp_of (f_X13_isBetween_15.eq_1 ..) ?_
              refine wp_gd qf_14 ?_
              refine wp_ret_bd ?_
              refine wp_ifp qf_15 ?_
              refine wp_of (f_X13_setBand_31.eq_1 ..) ?_
              refine wp_of (f_X13_setBand_36.eq_1 ..) ?_
              refine wp_gd ql_K_149 ?_
              refine wp_bd ?_
              refine wp_of (f_X13_isWrong.eq_1 ..) ?_
              refine wp_gd ql_K_149 ?_
              refine wp_zI ?_
              refine wp_ifn qf_110 ?_
              refine wp_of (f_X13_isWrong_14.eq_1 ..) ?_
              refine wp_gd qf_18 ?_
              refine wp_ret_bd ?_
              refine wp_ifn qf_19 ?_
              refine wp_ret_bd ?_
              refine wp_gd ql_K_149 ?_
              refine wp_bd ?_
              refine wp_of (f_X13_thrown.eq_1 ..) ?_
              refine wp_gd ql_K_149 ?_
              refine wp_lt gI_s ?_
              refine wp_ret_bd ?_
              refine wp_ifp qf_111 ?_
              refine wp_ifn qf_112 ?_
              refine wp_of (f_L_law_1840.eq_1 ..) ?_
              refine wp_of (f_L_law_3632.eq_1 ..) ?_
              refine wp_lt qf_21 ?_
              exact hrc _
            · skip
              refine wp_if (fun c6 => ?_) (fun c6 => ?_)
              · skip
                refine wp_of (f_X10_isIn_14.eq_1 ..) ?_
                refine wp_of (f_X10_isIn_15.eq_1 ..) ?_
                refine wp_gd qf_14 ?_
                refine wp_ret_bd ?_
                refine wp_ifp qf_15 ?_
                refine wp_of (f_X10_setBand_30.eq_1 ..) ?_
                refine wp_of (f_X10_setBand_31.eq_1 ..) ?_
                refine wp_bd ?_
                refine wp_of (f_X10_demand.eq_1 ..) ?_
                refine wp_ifp qf_15 ?_
                refine wp_rs_bd ?_
                refine wp_rs_bdc ?_
                refine wp_ifn qf_113 ?_
                refine wp_ifp qf_16 ?_
                refine wp_ret_bd ?_
                refine wp_gd qf_0 ?_
                refine wp_lt (xsk qf_1 hy1) ?_
                refine wp_gd qf_2 ?_
                refine wp_lt (xsk qf_3 hy2) ?_
                refine wp_gd qf_4 ?_
                refine wp_lt (xsk qf_5 hy3) ?_
                refine wp_gd ql_K_149 ?_
                refine wp_bd ?_
                refine wp_of (f_X13_setBand.eq_1 ..) ?_
                refine wp_bd ?_
                refine wp_of (f_X13_isDeck.eq_1 ..) ?_
                refine wp_bd ?_
                refine wp_of (f_X13_isBetween.eq_1 ..) ?_
                refine wp_ifn qf_38 ?_
                refine wp_ifn qf_104 ?_
                refine wp_of (f_X13_isBetween_15.eq_1 ..) ?_
                refine wp_gd qf_18 ?_
                refine wp_ret_bd ?_
                refine wp_gd qf_18 ?_
                refine wp_ret_bd ?_
                refine wp_ifn qf_19 ?_
                refine wp_bd ?_
                refine wp_of (f_X13_isBetween.eq_1 ..) ?_
                refine wp_ifn c3 ?_
                refine wp_ifn c4 ?_
                refine wp_of (f_X13_isBetween_15.eq_1 ..) ?_
                refine wp_gd qf_18 ?_
                refine wp_ret_bd ?_
                refine wp_ifn qf_19 ?_
                refine wp_bd ?_
                refine wp_of (f_X13_isBetween.eq_1 ..) ?_
                refine wp_ifn c5 ?_
                refine wp_ifp c6 ?_
                refine wp_of (f_X13_isBetween_14.eq_1 ..) ?_
                refine wp_of (f_X13_isBetween_15.eq_1 ..) ?_
                refine wp_gd qf_14 ?_
                refine wp_ret_bd ?_
                refine wp_ifp qf_15 ?_
                refine wp_of (f_X13_setBand_31.eq_1 ..) ?_
                refine wp_of (f_X13_setBand_36.eq_1 ..) ?_
                refine wp_gd ql_K_149 ?_
                refine wp_bd ?_
                refine wp_of (f_X13_isWrong.eq_1 ..) ?_
                refine wp_gd ql_K_149 ?_
                refine wp_zI ?_
                refine wp_ifn qf_110 ?_
                refine wp_of (f_X13_isWrong_14.eq_1 ..) ?_
                refine wp_gd qf_18 ?_
                refine wp_ret_bd ?_
                refine wp_ifn qf_19 ?_
                refine wp_ret_bd ?_
                refine wp_gd ql_K_149 ?_
                refine wp_bd ?_
                refine wp_of (f_X13_thrown.eq_1 ..) ?_
                refine wp_gd ql_K_149 ?_
                refine wp_lt gI_s ?_
                refine wp_ret_bd ?_
                refine wp_ifp qf_111 ?_
                refine wp_ifn qf_112 ?_
                refine wp_of (f_L_law_1840.eq_1 ..) ?_
                refine wp_of (f_L_law_3632.eq_1 ..) ?_
                refine wp_lt qf_21 ?_
                exact hrc _
              · skip
                refine wp_of (f_X10_isIn_15.eq_1 ..) ?_
                refine wp_gd qf_18 ?_
                refine wp_ret_bd ?_
                refine wp_ifn qf_19 ?_
                refine wp_of (f_X10_setBand_31.eq_1 ..) ?_
                refine wp_bd ?_
                refine wp_of (f_X10_demand.eq_1 ..) ?_
                refine wp_ifn qf_19 ?_
                refine wp_ret_bd ?_
                refine wp_gd ql_K_1 ?_
                refine wp_lt ql_R_1_2 ?_
                refine wp_gd ql_K_106 ?_
                refine wp_bd ?_
                refine wp_of (f_X6_note.eq_1 ..) ?_
                refine wp_gd ql_K_106 ?_
                refine wp_bd ?_
                refine wp_of (f_X6_open.eq_1 ..) ?_
                refine wp_gd ql_K_106 ?_
                refine wp_lt ql_I_106_2 ?_
                refine wp_lt qf_25 ?_
                refine wp_zI ?_
                refine wp_lt (Eq.trans (gI_b rfl) ql_I_106_2) ?_
                refine wp_ifn qf_26 ?_
                refine wp_lt (Eq.trans (gI_b rfl) ql_I_106_2) ?_
                refine wp_lt qf_27 ?_
                refine wp_zI ?_
                refine wp_of (f_X6_open_31.eq_1 ..) ?_
                refine wp_gd ql_K_106 ?_
                refine wp_bd ?_
                refine wp_of (f_X6_put.eq_1 ..) ?_
                refine wp_gd ql_K_106 ?_
                refine wp_lt (Eq.trans (gI_b rfl) gI_s) ?_
                refine wp_ifn qf_28 ?_
                refine wp_lt (Eq.trans (gI_b rfl) gI_s) ?_
                refine wp_lt ql_R_106_0 ?_
                refine wp_gd ql_K_107 ?_
                refine wp_lt (gZo ql_Z_107 qf_29) ?_
                refine wp_ifn qf_30 ?_
                refine wp_lt ql_R_106_0 ?_
                refine wp_lt (Eq.trans (gI_b rfl) gI_s) ?_
                refine wp_gd ql_K_107 ?_
                refine wp_gd (gZi ql_Z_107 qf_31) ?_
                refine wp_zIk qf_32 ?_
                refine wp_lt (Eq.trans (gI_a rfl) (Eq.trans (gI_b rfl) gI_s)) ?_
                refine wp_lt qf_27 ?_
                refine wp_zI ?_
                refine wp_of (f_X6_put_39.eq_1 ..) ?_
                refine wp_ret_bd ?_
                refine wp_ret_bd ?_
                refine wp_gd ql_K_106 ?_
                refine wp_bd ?_
                refine wp_of (f_X6_put.eq_1 ..) ?_
                refine wp_gd ql_K_106 ?_
                refine wp_lt gI_s ?_
                refine wp_ifn qf_33 ?_
                refine wp_lt gI_s ?_
                refine wp_lt ql_R_106_0 ?_
                refine wp_gd ql_K_107 ?_
                refine wp_lt (gZo ql_Z_107 qf_29) ?_
                refine wp_ifn qf_34 ?_
                refine wp_lt ql_R_106_0 ?_
                refine wp_lt gI_s ?_
                refine wp_gd ql_K_107 ?_
                refine wp_gd (gZi ql_Z_107 qf_35) ?_
                refine wp_zIk qf_36 ?_
                refine wp_lt (Eq.trans (gI_a rfl) gI_s) ?_
                refine wp_lt qf_37 ?_
                refine wp_zI ?_
                refine wp_of (f_X6_put_39.eq_1 ..) ?_
                refine wp_ret_bd ?_
                refine wp_gd ql_K_106 ?_
                refine wp_bd ?_
                refine wp_of (f_X6_put.eq_1 ..) ?_
                refine wp_gd ql_K_106 ?_
                refine wp_lt gI_s ?_
                refine wp_ifn qf_38 ?_
                refine wp_lt gI_s ?_
                refine wp_lt ql_R_106_0 ?_
                refine wp_gd ql_K_107 ?_
                refine wp_lt (gZo ql_Z_107 qf_29) ?_
                refine wp_ifn qf_39 ?_
                refine wp_lt ql_R_106_0 ?_
                refine wp_lt gI_s ?_
                refine wp_gd ql_K_107 ?_
                refine wp_gd (gZi ql_Z_107 qf_40) ?_
                refine wp_zIk qf_41 ?_
                refine wp_lt (Eq.trans (gI_a rfl) gI_s) ?_
                refine wp_lt qf_42 ?_
                refine wp_zI ?_
                refine wp_of (f_X6_put_39.eq_1 ..) ?_
                refine wp_ret_bd ?_
                refine wp_gd ql_K_106 ?_
                refine wp_bd ?_
                refine wp_of (f_X6_put.eq_1 ..) ?_
                refine wp_gd ql_K_106 ?_
                refine wp_lt gI_s ?_
                refine wp_ifn qf_43 ?_
                refine wp_lt gI_s ?_
                refine wp_lt ql_R_106_0 ?_
                refine wp_gd ql_K_107 ?_
                refine wp_lt (gZo ql_Z_107 qf_29) ?_
                refine wp_ifn qf_44 ?_
                refine wp_lt ql_R_106_0 ?_
                refine wp_lt gI_s ?_
                refine wp_gd ql_K_107 ?_
                refine wp_gd (gZi ql_Z_107 qf_45) ?_
                refine wp_zIk qf_46 ?_
                refine wp_lt (Eq.trans (gI_a rfl) gI_s) ?_
                refine wp_lt qf_47 ?_
                refine wp_zI ?_
                refine wp_of (f_X6_put_39.eq_1 ..) ?_
                refine wp_ret_bd ?_
                refine wp_ret_bd ?_
                refine wp_gd ql_K_33 ?_
                refine wp_lt ql_R_33_0 ?_
                refine wp_gd ql_K_34 ?_
                refine wp_bd ?_
                refine wp_of (f_X0_turnBand.eq_1 ..) ?_
                refine wp_ifn c3 ?_
                refine wp_gd ql_K_34 ?_
                refine wp_lt ql_R_34_0 ?_
                refine wp_gd ql_K_35 ?_
                refine wp_lt (gZo ql_Z_35 qf_121) ?_
                refine wp_ifp (show (y2 < (3 : Int32)) from by have e0 := qf_90; have e1 := qf_96; have e2 := qf_93; simp only [Int32.lt_iff_toInt_lt, Int32.le_iff_toInt_le, ← Int32.toInt_inj] at c3 c4 ⊢; omega) ?_
                refine wp_lt ql_R_34_0 ?_
                refine wp_gd ql_K_35 ?_
                rcases (show y2 = (0 : Int32) ∨ y2 = (1 : Int32) ∨ y2 = (2 : Int32) from by have e0 := qf_90; have e1 := qf_95; have e2 := qf_96; simp only [Int32.lt_iff_toInt_lt, Int32.le_iff_toInt_le] at c3 c4; simp only [← Int32.toInt_inj]; omega) with rfl | rfl | rfl
                · skip
                  refine wp_gd (gZi ql_Z_35 qf_122) ?_
                  refine wp_lt (gIk qf_32 (Eq.trans (gI_a rfl) (Eq.trans (gI_a rfl) (Eq.trans (gI_a rfl) (Eq.trans (gI_a rfl) (Eq.trans (gI_a rfl) (Eq.trans (gI_a rfl) (Eq.trans (gI_a rfl) (Eq.trans (gI_a rfl) (Eq.trans (gI_a rfl) (Eq.trans (gI_a rfl) ql_I_35_0))))))))))) ?_
                  refine wp_lt ql_R_34_0 ?_
                  refine wp_gd ql_K_35 ?_
                  refine wp_gd (gZi ql_Z_35 qf_122) ?_
                  refine wp_zIk qf_32 ?_
                  refine wp_ret_bd ?_
                  refine wp_ret_bdc ?_
                  refine wp_lt qf_123 ?_
                  refine wp_gd ql_K_173 ?_
                  refine wp_gd (gZi ql_Z_173 qf_71) ?_
                  refine wp_zLk qf_32 ?_
                  refine wp_ret_bd ?_
                  refine wp_gd qf_0 ?_
                  refine wp_lt (xsk qf_1 hy1) ?_
                  refine wp_gd qf_2 ?_
                  refine wp_lt (xsk qf_3 hy2) ?_
                  refine wp_gd qf_4 ?_
                  refine wp_lt (xsk qf_5 hy3) ?_
                  refine wp_gd ql_K_149 ?_
                  refine wp_bd ?_
                  refine wp_of (f_X13_setBand.eq_1 ..) ?_
                  refine wp_bd ?_
                  refine wp_of (f_X13_isDeck.eq_1 ..) ?_
                  refine wp_bd ?_
                  refine wp_of (f_X13_isBetween.eq_1 ..) ?_
                  refine wp_ifn qf_38 ?_
                  refine wp_ifn qf_104 ?_
                  refine wp_of (f_X13_isBetween_15.eq_1 ..) ?_
                  refine wp_gd qf_18 ?_
                  refine wp_ret_bd ?_
                  refine wp_gd qf_18 ?_
                  refine wp_ret_bd ?_
                  refine wp_ifn qf_19 ?_
                  refine wp_bd ?_
                  refine wp_of (f_X13_isBetween.eq_1 ..) ?_
                  refine wp_ifn qf_28 ?_
                  refine wp_ifn qf_38 ?_
                  refine wp_of (f_X13_isBetween_15.eq_1 ..) ?_
                  refine wp_gd qf_18 ?_
                  refine wp_ret_bd ?_
                  refine wp_ifn qf_19 ?_
                  refine wp_bd ?_
                  refine wp_of (f_X13_isBetween.eq_1 ..) ?_
                  refine wp_ifn c5 ?_
                  refine wp_ifn c6 ?_
                  refine wp_of (f_X13_isBetween_15.eq_1 ..) ?_
                  refine wp_gd qf_18 ?_
                  refine wp_ret_bd ?_
                  refine wp_ifn qf_19 ?_
                  refine wp_of (f_X13_setBand_36.eq_1 ..) ?_
                  refine wp_gd ql_K_149 ?_
                  refine wp_bd ?_
                  refine wp_of (f_X13_isWrong.eq_1 ..) ?_
                  refine wp_gd ql_K_149 ?_
                  refine wp_zI ?_
                  refine wp_ifp qf_73 ?_
                  refine wp_of (f_X13_isWrong_14.eq_1 ..) ?_
                  refine wp_gd qf_14 ?_
                  refine wp_ret_bd ?_
                  refine wp_ifp qf_15 ?_
                  refine wp_gd ql_K_149 ?_
                  refine wp_lt ql_R_149_2 ?_
                  refine wp_gd ql_K_151 ?_
                  refine wp_gd (gZi ql_Z_151 qf_102) ?_
                  refine wp_lt (gRk qf_41 ql_R_151_2) ?_
                  refine wp_gd ql_K_160 ?_
                  refine wp_lt ql_R_160_6 ?_
                  refine wp_gd ql_K_161 ?_
                  refine wp_gd (gZi ql_Z_161 qf_122) ?_
                  refine wp_lt (gIk qf_32 (Eq.trans (gI_a rfl) (Eq.trans (gI_a rfl) (Eq.trans (gI_a rfl) (Eq.trans (gI_a rfl) (Eq.trans (gI_a rfl) (Eq.trans (gI_a rfl) (Eq.trans (gI_a rfl) (Eq.trans (gI_a rfl) (Eq.trans (gI_a rfl) (Eq.trans (gI_a rfl) (Eq.trans (gI_a rfl) (Eq.trans (gI_a rfl) ql_I_161_0))))))))))))) ?_
                  refine wp_lt ql_R_149_2 ?_
                  refine wp_gd ql_K_151 ?_
                  refine wp_gd (gZi ql_Z_151 qf_102) ?_
                  refine wp_lt (gRk qf_41 ql_R_151_2) ?_
                  refine wp_gd ql_K_160 ?_
                  refine wp_lt ql_R_160_6 ?_
                  refine wp_gd ql_K_161 ?_
                  refine wp_gd (gZi ql_Z_161 qf_122) ?_
                  refine wp_zIk qf_32 ?_
                  refine wp_bd ?_
                  refine wp_of (f_X13_logs.eq_1 ..) ?_
                  refine wp_gd ql_K_149 ?_
                  refine wp_lt (Eq.trans (gI_a rfl) (Eq.trans (gI_b rfl) (Eq.trans (gI_a rfl) (Eq.trans (gI_a rfl) (Eq.trans (gI_a rfl) (Eq.trans (gI_a rfl) (Eq.trans (gI_a rfl) (Eq.trans (gI_a rfl) (Eq.trans (gI_a rfl) (Eq.trans (gI_a rfl) (Eq.trans (gI_a rfl) (Eq.trans (gI_a rfl) (Eq.trans (gI_a rfl) ql_I_149_16))))))))))))) ?_
                  refine wp_lt qf_27 ?_
                  refine wp_zI ?_
                  refine wp_ret_bd ?_
                  refine wp_ret_bd ?_
                  refine wp_gd ql_K_149 ?_
                  refine wp_bd ?_
                  refine wp_of (f_X13_thrown.eq_1 ..) ?_
                  refine wp_gd ql_K_149 ?_
                  refine wp_lt (Eq.trans (gI_b rfl) (Eq.trans (gI_a rfl) gI_s)) ?_
                  refine wp_ret_bd ?_
                  refine wp_ifp qf_15 ?_
                  refine wp_ifp qf_15 ?_
                  refine wp_gd ql_K_173 ?_
                  refine wp_gd (gZi ql_Z_173 qf_71) ?_
                  refine wp_lt (gLk qf_32 gL_s) ?_
                  refine wp_lt qf_123 ?_
                  refine wp_lt qf_124 ?_
                  refine wp_ifp qf_15 ?_
                  refine wp_of (f_L_law_1840.eq_1 ..) ?_
                  refine wp_of (f_L_law_3632.eq_1 ..) ?_
                  refine wp_lt qf_21 ?_
                  exact hrc _
                · skip
                  refine wp_gd (gZi ql_Z_35 qf_125) ?_
                  refine wp_lt (gIk qf_36 (Eq.trans (gI_a rfl) (Eq.trans (gI_a rfl) (Eq.trans (gI_a rfl) (Eq.trans (gI_a rfl) (Eq.trans (gI_a rfl) (Eq.trans (gI_a rfl) (Eq.trans (gI_a rfl) (Eq.trans (gI_a rfl) (Eq.trans (gI_a rfl) (Eq.trans (gI_a rfl) ql_I_35_1))))))))))) ?_
                  refine wp_lt ql_R_34_0 ?_
                  refine wp_gd ql_K_35 ?_
                  refine wp_gd (gZi ql_Z_35 qf_125) ?_
                  refine wp_zIk qf_36 ?_
                  refine wp_ret_bd ?_
                  refine wp_ret_bdc ?_
                  refine wp_lt qf_123 ?_
                  refine wp_gd ql_K_173 ?_
                  refine wp_gd (gZi ql_Z_173 qf_71) ?_
                  refine wp_zLk qf_32 ?_
                  refine wp_ret_bd ?_
                  refine wp_gd qf_0 ?_
                  refine wp_lt (xsk qf_1 hy1) ?_
                  refine wp_gd qf_2 ?_
                  refine wp_lt (xsk qf_3 hy2) ?_
                  refine wp_gd qf_4 ?_
                  refine wp_lt (xsk qf_5 hy3) ?_
                  refine wp_gd ql_K_149 ?_
                  refine wp_bd ?_
                  refine wp_of (f_X13_setBand.eq_1 ..) ?_
                  refine wp_bd ?_
                  refine wp_of (f_X13_isDeck.eq_1 ..) ?_
                  refine wp_bd ?_
                  refine wp_of (f_X13_isBetween.eq_1 ..) ?_
                  refine wp_ifn qf_38 ?_
                  refine wp_ifn qf_104 ?_
                  refine wp_of (f_X13_isBetween_15.eq_1 ..) ?_
                  refine wp_gd qf_18 ?_
                  refine wp_ret_bd ?_
                  refine wp_gd qf_18 ?_
                  refine wp_ret_bd ?_
                  refine wp_ifn qf_19 ?_
                  refine wp_bd ?_
                  refine wp_of (f_X13_isBetween.eq_1 ..) ?_
                  refine wp_ifn qf_33 ?_
                  refine wp_ifn qf_126 ?_
                  refine wp_of (f_X13_isBetween_15.eq_1 ..) ?_
                  refine wp_gd qf_18 ?_
                  refine wp_ret_bd ?_
                  refine wp_ifn qf_19 ?_
                  refine wp_bd ?_
                  refine wp_of (f_X13_isBetween.eq_1 ..) ?_
                  refine wp_ifn c5 ?_
                  refine wp_ifn c6 ?_
                  refine wp_of (f_X13_isBetween_15.eq_1 ..) ?_
                  refine wp_gd qf_18 ?_
                  refine wp_ret_bd ?_
                  refine wp_ifn qf_19 ?_
                  refine wp_of (f_X13_setBand_36.eq_1 ..) ?_
                  refine wp_gd ql_K_149 ?_
                  refine wp_bd ?_
                  refine wp_of (f_X13_isWrong.eq_1 ..) ?_
                  refine wp_gd ql_K_149 ?_
                  refine wp_zI ?_
                  refine wp_ifp qf_73 ?_
                  refine wp_of (f_X13_isWrong_14.eq_1 ..) ?_
                  refine wp_gd qf_14 ?_
                  refine wp_ret_bd ?_
                  refine wp_ifp qf_15 ?_
                  refine wp_gd ql_K_149 ?_
                  refine wp_lt ql_R_149_2 ?_
                  refine wp_gd ql_K_151 ?_
                  refine wp_gd (gZi ql_Z_151 qf_102) ?_
                  refine wp_lt (gRk qf_41 ql_R_151_2) ?_
                  refine wp_gd ql_K_160 ?_
                  refine wp_lt ql_R_160_6 ?_
                  refine wp_gd ql_K_161 ?_
                  refine wp_gd (gZi ql_Z_161 qf_125) ?_
                  refine wp_lt (gIk qf_36 (Eq.trans (gI_a rfl) (Eq.trans (gI_a rfl) (Eq.trans (gI_a rfl) (Eq.trans (gI_a rfl) (Eq.trans (gI_a rfl) (Eq.trans (gI_a rfl) (Eq.trans (gI_a rfl) (Eq.trans (gI_a rfl) (Eq.trans (gI_a rfl) (Eq.trans (gI_a rfl) (Eq.trans (gI_a rfl) (Eq.trans (gI_a rfl) ql_I_161_1))))))))))))) ?_
                  refine wp_lt ql_R_149_2 ?_
                  refine wp_gd ql_K_151 ?_
                  refine wp_gd (gZi ql_Z_151 qf_102) ?_
                  refine wp_lt (gRk qf_41 ql_R_151_2) ?_
                  refine wp_gd ql_K_160 ?_
                  refine wp_lt ql_R_160_6 ?_
                  refine wp_gd ql_K_161 ?_
                  refine wp_gd (gZi ql_Z_161 qf_125) ?_
                  refine wp_zIk qf_36 ?_
                  refine wp_bd ?_
                  refine wp_of (f_X13_logs.eq_1 ..) ?_
                  refine wp_gd ql_K_149 ?_
                  refine wp_lt (Eq.trans (gI_a rfl) (Eq.trans (gI_b rfl) (Eq.trans (gI_a rfl) (Eq.trans (gI_a rfl) (Eq.trans (gI_a rfl) (Eq.trans (gI_a rfl) (Eq.trans (gI_a rfl) (Eq.trans (gI_a rfl) (Eq.trans (gI_a rfl) (Eq.trans (gI_a rfl) (Eq.trans (gI_a rfl) (Eq.trans (gI_a rfl) (Eq.trans (gI_a rfl) ql_I_149_16))))))))))))) ?_
                  refine wp_lt qf_27 ?_
                  refine wp_zI ?_
                  refine wp_ret_bd ?_
                  refine wp_ret_bd ?_
                  refine wp_gd ql_K_149 ?_
                  refine wp_bd ?_
                  refine wp_of (f_X13_thrown.eq_1 ..) ?_
                  refine wp_gd ql_K_149 ?_
                  refine wp_lt (Eq.trans (gI_b rfl) (Eq.trans (gI_a rfl) gI_s)) ?_
                  refine wp_ret_bd ?_
                  refine wp_ifp qf_15 ?_
                  refine wp_ifp qf_15 ?_
                  refine wp_gd ql_K_173 ?_
                  refine wp_gd (gZi ql_Z_173 qf_71) ?_
                  refine wp_lt (gLk qf_32 gL_s) ?_
                  refine wp_lt qf_123 ?_
                  refine wp_lt qf_124 ?_
                  refine wp_ifp qf_15 ?_
                  refine wp_of (f_L_law_1840.eq_1 ..) ?_
                  refine wp_of (f_L_law_3632.eq_1 ..) ?_
                  refine wp_lt qf_21 ?_
                  exact hrc _
                · skip
                  refine wp_gd (gZi ql_Z_35 qf_127) ?_
                  refine wp_lt (gIk qf_41 (Eq.trans (gI_a rfl) (Eq.trans (gI_a rfl) (Eq.trans (gI_a rfl) (Eq.trans (gI_a rfl) (Eq.trans (gI_a rfl) (Eq.trans (gI_a rfl) (Eq.trans (gI_a rfl) (Eq.trans (gI_a rfl) (Eq.trans (gI_a rfl) (Eq.trans (gI_a rfl) ql_I_35_2))))))))))) ?_
                  refine wp_lt ql_R_34_0 ?_
                  refine wp_gd ql_K_35 ?_
                  refine wp_gd (gZi ql_Z_35 qf_127) ?_
                  refine wp_zIk qf_41 ?_
                  refine wp_ret_bd ?_
                  refine wp_ret_bdc ?_
                  refine wp_lt qf_123 ?_
                  refine wp_gd ql_K_173 ?_
                  refine wp_gd (gZi ql_Z_173 qf_71) ?_
                  refine wp_zLk qf_32 ?_
                  refine wp_ret_bd ?_
                  refine wp_gd qf_0 ?_
                  refine wp_lt (xsk qf_1 hy1) ?_
                  refine wp_gd qf_2 ?_
                  refine wp_lt (xsk qf_3 hy2) ?_
                  refine wp_gd qf_4 ?_
                  refine wp_lt (xsk qf_5 hy3) ?_
                  refine wp_gd ql_K_149 ?_
                  refine wp_bd ?_
                  refine wp_of (f_X13_setBand.eq_1 ..) ?_
                  refine wp_bd ?_
                  refine wp_of (f_X13_isDeck.eq_1 ..) ?_
                  refine wp_bd ?_
                  refine wp_of (f_X13_isBetween.eq_1 ..) ?_
                  refine wp_ifn qf_38 ?_
                  refine wp_ifn qf_104 ?_
                  refine wp_of (f_X13_isBetween_15.eq_1 ..) ?_
                  refine wp_gd qf_18 ?_
                  refine wp_ret_bd ?_
                  refine wp_gd qf_18 ?_
                  refine wp_ret_bd ?_
                  refine wp_ifn qf_19 ?_
                  refine wp_bd ?_
                  refine wp_of (f_X13_isBetween.eq_1 ..) ?_
                  refine wp_ifn qf_38 ?_
                  refine wp_ifn qf_128 ?_
                  refine wp_of (f_X13_isBetween_15.eq_1 ..) ?_
                  refine wp_gd qf_18 ?_
                  refine wp_ret_bd ?_
                  refine wp_ifn qf_19 ?_
                  refine wp_bd ?_
                  refine wp_of (f_X13_isBetween.eq_1 ..) ?_
                  refine wp_ifn c5 ?_
                  refine wp_ifn c6 ?_
                  refine wp_of (f_X13_isBetween_15.eq_1 ..) ?_
                  refine wp_gd qf_18 ?_
                  refine wp_ret_bd ?_
                  refine wp_ifn qf_19 ?_
                  refine wp_of (f_X13_setBand_36.eq_1 ..) ?_
                  refine wp_gd ql_K_149 ?_
                  refine wp_bd ?_
                  refine wp_of (f_X13_isWrong.eq_1 ..) ?_
                  refine wp_gd ql_K_149 ?_
                  refine wp_zI ?_
                  refine wp_ifp qf_73 ?_
                  refine wp_of (f_X13_isWrong_14.eq_1 ..) ?_
                  refine wp_gd qf_14 ?_
                  refine wp_ret_bd ?_
                  refine wp_ifp qf_15 ?_
                  refine wp_gd ql_K_149 ?_
                  refine wp_lt ql_R_149_2 ?_
                  refine wp_gd ql_K_151 ?_
                  refine wp_gd (gZi ql_Z_151 qf_102) ?_
                  refine wp_lt (gRk qf_41 ql_R_151_2) ?_
                  refine wp_gd ql_K_160 ?_
                  refine wp_lt ql_R_160_6 ?_
                  refine wp_gd ql_K_161 ?_
                  refine wp_gd (gZi ql_Z_161 qf_127) ?_
                  refine wp_lt (gIk qf_41 (Eq.trans (gI_a rfl) (Eq.trans (gI_a rfl) (Eq.trans (gI_a rfl) (Eq.trans (gI_a rfl) (Eq.trans (gI_a rfl) (Eq.trans (gI_a rfl) (Eq.trans (gI_a rfl) (Eq.trans (gI_a rfl) (Eq.trans (gI_a rfl) (Eq.trans (gI_a rfl) (Eq.trans (gI_a rfl) (Eq.trans (gI_a rfl) ql_I_161_2))))))))))))) ?_
                  refine wp_lt ql_R_149_2 ?_
                  refine wp_gd ql_K_151 ?_
                  refine wp_gd (gZi ql_Z_151 qf_102) ?_
                  refine wp_lt (gRk qf_41 ql_R_151_2) ?_
                  refine wp_gd ql_K_160 ?_
                  refine wp_lt ql_R_160_6 ?_
                  refine wp_gd ql_K_161 ?_
                  refine wp_gd (gZi ql_Z_161 qf_127) ?_
                  refine wp_zIk qf_41 ?_
                  refine wp_bd ?_
                  refine wp_of (f_X13_logs.eq_1 ..) ?_
                  refine wp_gd ql_K_149 ?_
                  refine wp_lt (Eq.trans (gI_a rfl) (Eq.trans (gI_b rfl) (Eq.trans (gI_a rfl) (Eq.trans (gI_a rfl) (Eq.trans (gI_a rfl) (Eq.trans (gI_a rfl) (Eq.trans (gI_a rfl) (Eq.trans (gI_a rfl) (Eq.trans (gI_a rfl) (Eq.trans (gI_a rfl) (Eq.trans (gI_a rfl) (Eq.trans (gI_a rfl) (Eq.trans (gI_a rfl) ql_I_149_16))))))))))))) ?_
                  refine wp_lt qf_27 ?_
                  refine wp_zI ?_
                  refine wp_ret_bd ?_
                  refine wp_ret_bd ?_
                  refine wp_gd ql_K_149 ?_
                  refine wp_bd ?_
                  refine wp_of (f_X13_thrown.eq_1 ..) ?_
                  refine wp_gd ql_K_149 ?_
                  refine wp_lt (Eq.trans (gI_b rfl) (Eq.trans (gI_a rfl) gI_s)) ?_
                  refine wp_ret_bd ?_
                  refine wp_ifp qf_15 ?_
                  refine wp_ifp qf_15 ?_
                  refine wp_gd ql_K_173 ?_
                  refine wp_gd (gZi ql_Z_173 qf_71) ?_
                  refine wp_lt (gLk qf_32 gL_s) ?_
                  refine wp_lt qf_123 ?_
                  refine wp_lt qf_124 ?_
                  refine wp_ifp qf_15 ?_
                  refine wp_of (f_L_law_1840.eq_1 ..) ?_
                  refine wp_of (f_L_law_3632.eq_1 ..) ?_
                  refine wp_lt qf_21 ?_
                  exact hrc _
      · skip
        refine wp_gd (gZi ql_Z_16 qf_105) ?_
        refine wp_lt (gRk qf_46 ql_R_16_3) ?_
        refine wp_of (f_X8_deckAt_23.eq_1 ..) ?_
        refine wp_ret_bd ?_
        refine wp_ifn qf_106 ?_
        refine wp_ret_bd ?_
        refine wp_bd ?_
        refine wp_of (f_X10_isIn.eq_1 ..) ?_
        refine wp_if (fun c3 => ?_) (fun c3 => ?_)
        · skip
          refine wp_of (f_X10_isIn_14.eq_1 ..) ?_
          refine wp_of (f_X10_isIn_15.eq_1 ..) ?_
          refine wp_gd qf_14 ?_
          refine wp_ret_bd ?_
          refine wp_ifp qf_15 ?_
          refine wp_of (f_X10_setBand_30.eq_1 ..) ?_
          refine wp_of (f_X10_setBand_31.eq_1 ..) ?_
          refine wp_bd ?_
          refine wp_of (f_X10_demand.eq_1 ..) ?_
          refine wp_ifp qf_15 ?_
          refine wp_rs_bd ?_
          refine wp_rs_bdc ?_
          refine wp_ifn qf_113 ?_
          refine wp_ifp qf_16 ?_
          refine wp_ret_bd ?_
          refine wp_gd qf_0 ?_
          refine wp_lt (xsk qf_1 hy1) ?_
          refine wp_gd qf_2 ?_
          refine wp_lt (xsk qf_3 hy2) ?_
          refine wp_gd qf_4 ?_
          refine wp_lt (xsk qf_5 hy3) ?_
          refine wp_gd ql_K_149 ?_
          refine wp_bd ?_
          refine wp_of (f_X13_setBand.eq_1 ..) ?_
          refine wp_bd ?_
          refine wp_of (f_X13_isDeck.eq_1 ..) ?_
          refine wp_bd ?_
          refine wp_of (f_X13_isBetween.eq_1 ..) ?_
          refine wp_ifn qf_43 ?_
          refine wp_ifn qf_107 ?_
          refine wp_of (f_X13_isBetween_15.eq_1 ..) ?_
          refine wp_gd qf_18 ?_
          refine wp_ret_bd ?_
          refine wp_gd qf_18 ?_
          refine wp_ret_bd ?_
          refine wp_ifn qf_19 ?_
          refine wp_bd ?_
          refine wp_of (f_X13_isBetween.eq_1 ..) ?_
          refine wp_ifp c3 ?_
          refine wp_of (f_X13_isBetween_14.eq_1 ..) ?_
          refine wp_of (f_X13_isBetween_15.eq_1 ..) ?_
          refine wp_gd qf_14 ?_
          refine wp_ret_bd ?_
          refine wp_ifp qf_15 ?_
          refine wp_of (f_X13_setBand_31.eq_1 ..) ?_
          refine wp_of (f_X13_setBand_36.eq_1 ..) ?_
          refine wp_gd ql_K_149 ?_
          refine wp_bd ?_
          refine wp_of (f_X13_isWrong.eq_1 ..) ?_
          refine wp_gd ql_K_149 ?_
          refine wp_zI ?_
          refine wp_ifn qf_110 ?_
          refine wp_of (f_X13_isWrong_14.eq_1 ..) ?_
          refine wp_gd qf_18 ?_
          refine wp_ret_bd ?_
          refine wp_ifn qf_19 ?_
          refine wp_ret_bd ?_
          refine wp_gd ql_K_149 ?_
          refine wp_bd ?_
          refine wp_of (f_X13_thrown.eq_1 ..) ?_
          refine wp_gd ql_K_149 ?_
          refine wp_lt gI_s ?_
          refine wp_ret_bd ?_
          refine wp_ifp qf_111 ?_
          refine wp_ifn qf_112 ?_
          refine wp_of (f_L_law_1840.eq_1 ..) ?_
          refine wp_of (f_L_law_3632.eq_1 ..) ?_
          refine wp_lt qf_21 ?_
          exact hrc _
        · skip
          refine wp_if (fun c4 => ?_) (fun c4 => ?_)
          · skip
            refine wp_of (f_X10_isIn_14.eq_1 ..) ?_
            refine wp_of (f_X10_isIn_15.eq_1 ..) ?_
            refine wp_gd qf_14 ?_
            refine wp_ret_bd ?_
            refine wp_ifp qf_15 ?_
            refine wp_of (f_X10_setBand_30.eq_1 ..) ?_
            refine wp_of (f_X10_setBand_31.eq_1 ..) ?_
            refine wp_bd ?_
            refine wp_of (f_X10_demand.eq_1 ..) ?_
            refine wp_ifp qf_15 ?_
            refine wp_rs_bd ?_
            refine wp_rs_bdc ?_
            refine wp_ifn qf_113 ?_
            refine wp_ifp qf_16 ?_
            refine wp_ret_bd ?_
            refine wp_gd qf_0 ?_
            refine wp_lt (xsk qf_1 hy1) ?_
            refine wp_gd qf_2 ?_
            refine wp_lt (xsk qf_3 hy2) ?_
            refine wp_gd qf_4 ?_
            refine wp_lt (xsk qf_5 hy3) ?_
            refine wp_gd ql_K_149 ?_
            refine wp_bd ?_
            refine wp_of (f_X13_setBand.eq_1 ..) ?_
            refine wp_bd ?_
            refine wp_of (f_X13_isDeck.eq_1 ..) ?_
            refine wp_bd ?_
            refine wp_of (f_X13_isBetween.eq_1 ..) ?_
            refine wp_ifn qf_43 ?_
            refine wp_ifn qf_107 ?_
            refine wp_of (f_X13_isBetween_15.eq_1 ..) ?_
            refine wp_gd qf_18 ?_
            refine wp_ret_bd ?_
            refine wp_gd qf_18 ?_
            refine wp_ret_bd ?_
            refine wp_ifn qf_19 ?_
            refine wp_bd ?_
            refine wp_of (f_X13_isBetween.eq_1 ..) ?_
            refine wp_ifn c3 ?_
            refine wp_ifp c4 ?_
            refine wp_of (f_X13_isBetween_14.eq_1 ..) ?_
            refine wp_of (f_X13_isBetween_15.eq_1 ..) ?_
            refine wp_gd qf_14 ?_
            refine wp_ret_bd ?_
            refine wp_ifp qf_15 ?_
            refine wp_of (f_X13_setBand_31.eq_1 ..) ?_
            refine wp_of (f_X13_setBand_36.eq_1 ..) ?_
            refine wp_gd ql_K_149 ?_
            refine wp_bd ?_
            refine wp_of (f_X13_isWrong.eq_1 ..) ?_
            refine wp_gd ql_K_149 ?_
            refine wp_zI ?_
            refine wp_ifn qf_110 ?_
            refine wp_of (f_X13_isWrong_14.eq_1 ..) ?_
            refine wp_gd qf_18 ?_
            refine wp_ret_bd ?_
            refine wp_ifn qf_19 ?_
            refine wp_ret_bd ?_
            refine wp_gd ql_K_149 ?_
            refine wp_bd ?_
            refine wp_of (f_X13_thrown.eq_1 ..) ?_
            refine wp_gd ql_K_149 ?_
            refine wp_lt gI_s ?_
            refine wp_ret_bd ?_
            refine wp_ifp qf_111 ?_
            refine wp_ifn qf_112 ?_
            refine wp_of (f_L_law_1840.eq_1 ..) ?_
            refine wp_of (f_L_law_3632.eq_1 ..) ?_
            refine wp_lt qf_21 ?_
            exact hrc _
          · skip
            refine wp_of (f_X10_isIn_15.eq_1 ..) ?_
            refine wp_gd qf_18 ?_
            refine wp_ret_bd ?_
            refine wp_ifn qf_19 ?_
            refine wp_bd ?_
            refine wp_of (f_X10_isIn.eq_1 ..) ?_
            refine wp_if (fun c5 => ?_) (fun c5 => ?_)
            · skip
              refine wp_of (f_X10_isIn_14.eq_1 ..) ?_
              refine wp_of (f_X10_isIn_15.eq_1 ..) ?_
              refine wp_gd qf_14 ?_
              refine wp_ret_bd ?_
              refine wp_ifp qf_15 ?_
              refine wp_of (f_X10_setBand_30.eq_1 ..) ?_
              refine wp_of (f_X10_setBand_31.eq_1 ..) ?_
              refine wp_bd ?_
              refine wp_of (f_X10_demand.eq_1 ..) ?_
              refine wp_ifp qf_15 ?_
              refine wp_rs_bd ?_
              refine wp_rs_bdc ?_
              refine wp_ifn qf_113 ?_
              refine wp_ifp qf_16 ?_
              refine wp_ret_bd ?_
              refine wp_gd qf_0 ?_
              refine wp_lt (xsk qf_1 hy1) ?_
              refine wp_gd qf_2 ?_
              refine wp_lt (xsk qf_3 hy2) ?_
              refine wp_gd qf_4 ?_
              refine wp_lt (xsk qf_5 hy3) ?_
              refine wp_gd ql_K_149 ?_
              refine wp_bd ?_
              refine wp_of (f_X13_setBand.eq_1 ..) ?_
              refine wp_bd ?_
              refine wp_of (f_X13_isDeck.eq_1 ..) ?_
              refine wp_bd ?_
              refine wp_of (f_X13_isBetween.eq_1 ..) ?_
              refine wp_ifn qf_43 ?_
              refine wp_ifn qf_107 ?_
              refine wp_of (f_X13_isBetween_15.eq_1 ..) ?_
              refine wp_gd qf_18 ?_
              refine wp_ret_bd ?_
              refine wp_gd qf_18 ?_
              refine wp_ret_bd ?_
              refine wp_ifn qf_19 ?_
              refine wp_bd ?_
              refine wp_of (f_X13_isBetween.eq_1 ..) ?_
              refine wp_ifn c3 ?_
              refine wp_ifn c4 ?_
              refine wp_of (f_X13_isBetween_15.eq_1 ..) ?_
              refine wp_gd qf_18 ?_
              refine wp_ret_bd ?_
              refine wp_ifn qf_19 ?_
              refine wp_bd ?_
              refine wp_of (f_X13_isBetween.eq_1 ..) ?_
              refine wp_ifp c5 ?_
              refine wp_of (f_X13_isBetween_14.eq_1 ..) ?_
              refine wp_of (f_X13_isBetween_15.eq_1 ..) ?_
              refine wp_gd qf_14 ?_
              refine wp_ret_bd ?_
              refine wp_ifp qf_15 ?_
              refine wp_of (f_X13_setBand_31.eq_1 ..) ?_
              refine wp_of (f_X13_setBand_36.eq_1 ..) ?_
              refine wp_gd ql_K_149 ?_
              refine wp_bd ?_
              refine wp_of (f_X13_isWrong.eq_1 ..) ?_
              refine wp_gd ql_K_149 ?_
              refine wp_zI ?_
              refine wp_ifn qf_110 ?_
              refine wp_of (f_X13_isWrong_14.eq_1 ..) ?_
              refine wp_gd qf_18 ?_
              refine wp_ret_bd ?_
              refine wp_ifn qf_19 ?_
              refine wp_ret_bd ?_
              refine wp_gd ql_K_149 ?_
              refine wp_bd ?_
              refine wp_of (f_X13_thrown.eq_1 ..) ?_
              refine wp_gd ql_K_149 ?_
              refine wp_lt gI_s ?_
              refine wp_ret_bd ?_
              refine wp_ifp qf_111 ?_
              refine wp_ifn qf_112 ?_
              refine wp_of (f_L_law_1840.eq_1 ..) ?_
              refine wp_of (f_L_law_3632.eq_1 ..) ?_
              refine wp_lt qf_21 ?_
              exact hrc _
            · skip
              refine wp_if (fun c6 => ?_) (fun c6 => ?_)
              · skip
                refine wp_of (f_X10_isIn_14.eq_1 ..) ?_
                refine wp_of (f_X10_isIn_15.eq_1 ..) ?_
                refine wp_gd qf_14 ?_
                refine wp_ret_bd ?_
                refine wp_ifp qf_15 ?_
                refine wp_of (f_X10_setBand_30.eq_1 ..) ?_
                refine wp_of (f_X10_setBand_31.eq_1 ..) ?_
                refine wp_bd ?_
                refine wp_of (f_X10_demand.eq_1 ..) ?_
                refine wp_ifp qf_15 ?_
                refine wp_rs_bd ?_
                refine wp_rs_bdc ?_
                refine wp_ifn qf_113 ?_
                refine wp_ifp qf_16 ?_
                refine wp_ret_bd ?_
                refine wp_gd qf_0 ?_
                refine wp_lt (xsk qf_1 hy1) ?_
                refine wp_gd qf_2 ?_
                refine wp_lt (xsk qf_3 hy2) ?_
                refine wp_gd qf_4 ?_
                refine wp_lt (xsk qf_5 hy3) ?_
                refine wp_gd ql_K_149 ?_
                refine wp_bd ?_
                refine wp_of (f_X13_setBand.eq_1 ..) ?_
                refine wp_bd ?_
                refine wp_of (f_X13_isDeck.eq_1 ..) ?_
                refine wp_bd ?_
                refine wp_of (f_X13_isBetween.eq_1 ..) ?_
                refine wp_ifn qf_43 ?_
                refine wp_ifn qf_107 ?_
                refine wp_of (f_X13_isBetween_15.eq_1 ..) ?_
                refine wp_gd qf_18 ?_
                refine wp_ret_bd ?_
                refine wp_gd qf_18 ?_
                refine wp_ret_bd ?_
                refine wp_ifn qf_19 ?_
                refine wp_bd ?_
                refine wp_of (f_X13_isBetween.eq_1 ..) ?_
                refine wp_ifn c3 ?_
                refine wp_ifn c4 ?_
                refine wp_of (f_X13_isBetween_15.eq_1 ..) ?_
                refine wp_gd qf_18 ?_
                refine wp_ret_bd ?_
                refine wp_ifn qf_19 ?_
                refine wp_bd ?_
                refine wp_of (f_X13_isBetween.eq_1 ..) ?_
                refine wp_ifn c5 ?_
                refine wp_ifp c6 ?_
                refine wp_of (f_X13_isBetween_14.eq_1 ..) ?_
                refine wp_of (f_X13_isBetween_15.eq_1 ..) ?_
                refine wp_gd qf_14 ?_
                refine wp_ret_bd ?_
                refine wp_ifp qf_15 ?_
                refine wp_of (f_X13_setBand_31.eq_1 ..) ?_
                refine wp_of (f_X13_setBand_36.eq_1 ..) ?_
                refine wp_gd ql_K_149 ?_
                refine wp_bd ?_
                refine wp_of (f_X13_isWrong.eq_1 ..) ?_
                refine wp_gd ql_K_149 ?_
                refine wp_zI ?_
                refine wp_ifn qf_110 ?_
                refine wp_of (f_X13_isWrong_14.eq_1 ..) ?_
                refine wp_gd qf_18 ?_
                refine wp_ret_bd ?_
                refine wp_ifn qf_19 ?_
                refine wp_ret_bd ?_
                refine wp_gd ql_K_149 ?_
                refine wp_bd ?_
                refine wp_of (f_X13_thrown.eq_1 ..) ?_
                refine wp_gd ql_K_149 ?_
                refine wp_lt gI_s ?_
                refine wp_ret_bd ?_
                refine wp_ifp qf_111 ?_
                refine wp_ifn qf_112 ?_
                refine wp_of (f_L_law_1840.eq_1 ..) ?_
                refine wp_of (f_L_law_3632.eq_1 ..) ?_
                refine wp_lt qf_21 ?_
                exact hrc _
              · skip
                refine wp_of (f_X10_isIn_15.eq_1 ..) ?_
                refine wp_gd qf_18 ?_
                refine wp_ret_bd ?_
                refine wp_ifn qf_19 ?_
                refine wp_of (f_X10_setBand_31.eq_1 ..) ?_
                refine wp_bd ?_
                refine wp_of (f_X10_demand.eq_1 ..) ?_
                refine wp_ifn qf_19 ?_
                refine wp_ret_bd ?_
                refine wp_gd ql_K_1 ?_
                refine wp_lt ql_R_1_2 ?_
                refine wp_gd ql_K_106 ?_
                refine wp_bd ?_
                refine wp_of (f_X6_note.eq_1 ..) ?_
                refine wp_gd ql_K_106 ?_
                refine wp_bd ?_
                refine wp_of (f_X6_open.eq_1 ..) ?_
                refine wp_gd ql_K_106 ?_
                refine wp_lt ql_I_106_2 ?_
                refine wp_lt qf_25 ?_
                refine wp_zI ?_
                refine wp_lt (Eq.trans (gI_b rfl) ql_I_106_2) ?_
                refine wp_ifn qf_26 ?_
                refine wp_lt (Eq.trans (gI_b rfl) ql_I_106_2) ?_
                refine wp_lt qf_27 ?_
                refine wp_zI ?_
                refine wp_of (f_X6_open_31.eq_1 ..) ?_
                refine wp_gd ql_K_106 ?_
                refine wp_bd ?_
                refine wp_of (f_X6_put.eq_1 ..) ?_
                refine wp_gd ql_K_106 ?_
                refine wp_lt (Eq.trans (gI_b rfl) gI_s) ?_
                refine wp_ifn qf_28 ?_
                refine wp_lt (Eq.trans (gI_b rfl) gI_s) ?_
                refine wp_lt ql_R_106_0 ?_
                refine wp_gd ql_K_107 ?_
                refine wp_lt (gZo ql_Z_107 qf_29) ?_
                refine wp_ifn qf_30 ?_
                refine wp_lt ql_R_106_0 ?_
                refine wp_lt (Eq.trans (gI_b rfl) gI_s) ?_
                refine wp_gd ql_K_107 ?_
                refine wp_gd (gZi ql_Z_107 qf_31) ?_
                refine wp_zIk qf_32 ?_
                refine wp_lt (Eq.trans (gI_a rfl) (Eq.trans (gI_b rfl) gI_s)) ?_
                refine wp_lt qf_27 ?_
                refine wp_zI ?_
                refine wp_of (f_X6_put_39.eq_1 ..) ?_
                refine wp_ret_bd ?_
                refine wp_ret_bd ?_
                refine wp_gd ql_K_106 ?_
                refine wp_bd ?_
                refine wp_of (f_X6_put.eq_1 ..) ?_
                refine wp_gd ql_K_106 ?_
                refine wp_lt gI_s ?_
                refine wp_ifn qf_33 ?_
                refine wp_lt gI_s ?_
                refine wp_lt ql_R_106_0 ?_
                refine wp_gd ql_K_107 ?_
                refine wp_lt (gZo ql_Z_107 qf_29) ?_
                refine wp_ifn qf_34 ?_
                refine wp_lt ql_R_106_0 ?_
                refine wp_lt gI_s ?_
                refine wp_gd ql_K_107 ?_
                refine wp_gd (gZi ql_Z_107 qf_35) ?_
                refine wp_zIk qf_36 ?_
                refine wp_lt (Eq.trans (gI_a rfl) gI_s) ?_
                refine wp_lt qf_37 ?_
                refine wp_zI ?_
                refine wp_of (f_X6_put_39.eq_1 ..) ?_
                refine wp_ret_bd ?_
                refine wp_gd ql_K_106 ?_
                refine wp_bd ?_
                refine wp_of (f_X6_put.eq_1 ..) ?_
                refine wp_gd ql_K_106 ?_
                refine wp_lt gI_s ?_
                refine wp_ifn qf_38 ?_
                refine wp_lt gI_s ?_
                refine wp_lt ql_R_106_0 ?_
                refine wp_gd ql_K_107 ?_
                refine wp_lt (gZo ql_Z_107 qf_29) ?_
                refine wp_ifn qf_39 ?_
                refine wp_lt ql_R_106_0 ?_
                refine wp_lt gI_s ?_
                refine wp_gd ql_K_107 ?_
                refine wp_gd (gZi ql_Z_107 qf_40) ?_
                refine wp_zIk qf_41 ?_
                refine wp_lt (Eq.trans (gI_a rfl) gI_s) ?_
                refine wp_lt qf_42 ?_
                refine wp_zI ?_
                refine wp_of (f_X6_put_39.eq_1 ..) ?_
                refine wp_ret_bd ?_
                refine wp_gd ql_K_106 ?_
                refine wp_bd ?_
                refine wp_of (f_X6_put.eq_1 ..) ?_
                refine wp_gd ql_K_106 ?_
                refine wp_lt gI_s ?_
                refine wp_ifn qf_43 ?_
                refine wp_lt gI_s ?_
                refine wp_lt ql_R_106_0 ?_
                refine wp_gd ql_K_107 ?_
                refine wp_lt (gZo ql_Z_107 qf_29) ?_
                refine wp_ifn qf_44 ?_
                refine wp_lt ql_R_106_0 ?_
                refine wp_lt gI_s ?_
                refine wp_gd ql_K_107 ?_
                refine wp_gd (gZi ql_Z_107 qf_45) ?_
                refine wp_zIk qf_46 ?_
                refine wp_lt (Eq.trans (gI_a rfl) gI_s) ?_
                refine wp_lt qf_47 ?_
                refine wp_zI ?_
                refine wp_of (f_X6_put_39.eq_1 ..) ?_
                refine wp_ret_bd ?_
                refine wp_ret_bd ?_
                refine wp_gd ql_K_41 ?_
                refine wp_lt ql_R_41_0 ?_
                refine wp_gd ql_K_42 ?_
                refine wp_bd ?_
                refine wp_of (f_X0_turnBand.eq_1 ..) ?_
                refine wp_ifn c3 ?_
                refine wp_gd ql_K_42 ?_
                refine wp_lt ql_R_42_0 ?_
                refine wp_gd ql_K_43 ?_
                refine wp_lt (gZo ql_Z_43 qf_121) ?_
                refine wp_ifp (show (y2 < (3 : Int32)) from by have e0 := qf_90; have e1 := qf_96; have e2 := qf_93; simp only [Int32.lt_iff_toInt_lt, Int32.le_iff_toInt_le, ← Int32.toInt_inj] at c3 c4 ⊢; omega) ?_
                refine wp_lt ql_R_42_0 ?_
                refine wp_gd ql_K_43 ?_
                rcases (show y2 = (0 : Int32) ∨ y2 = (1 : Int32) ∨ y2 = (2 : Int32) from by have e0 := qf_90; have e1 := qf_95; have e2 := qf_96; simp only [Int32.lt_iff_toInt_lt, Int32.le_iff_toInt_le] at c3 c4; simp only [← Int32.toInt_inj]; omega) with rfl | rfl | rfl
                · skip
                  refine wp_gd (gZi ql_Z_43 qf_122) ?_
                  refine wp_lt (gIk qf_32 (Eq.trans (gI_a rfl) (Eq.trans (gI_a rfl) (Eq.trans (gI_a rfl) (Eq.trans (gI_a rfl) (Eq.trans (gI_a rfl) (Eq.trans (gI_a rfl) (Eq.trans (gI_a rfl) (Eq.trans (gI_a rfl) (Eq.trans (gI_a rfl) (Eq.trans (gI_a rfl) ql_I_43_0))))))))))) ?_
                  refine wp_lt ql_R_42_0 ?_
                  refine wp_gd ql_K_43 ?_
                  refine wp_gd (gZi ql_Z_43 qf_122) ?_
                  refine wp_zIk qf_32 ?_
                  refine wp_ret_bd ?_
                  refine wp_ret_bdc ?_
                  refine wp_lt qf_123 ?_
                  refine wp_gd ql_K_173 ?_
                  refine wp_gd (gZi ql_Z_173 qf_71) ?_
                  refine wp_zLk qf_32 ?_
                  refine wp_ret_bd ?_
                  refine wp_gd qf_0 ?_
                  refine wp_lt (xsk qf_1 hy1) ?_
                  refine wp_gd qf_2 ?_
                  refine wp_lt (xsk qf_3 hy2) ?_
                  refine wp_gd qf_4 ?_
                  refine wp_lt (xsk qf_5 hy3) ?_
                  refine wp_gd ql_K_149 ?_
                  refine wp_bd ?_
                  refine wp_of (f_X13_setBand.eq_1 ..) ?_
                  refine wp_bd ?_
                  refine wp_of (f_X13_isDeck.eq_1 ..) ?_
                  refine wp_bd ?_
                  refine wp_of (f_X13_isBetween.eq_1 ..) ?_
                  refine wp_ifn qf_43 ?_
                  refine wp_ifn qf_107 ?_
                  refine wp_of (f_X13_isBetween_15.eq_1 ..) ?_
                  refine wp_gd qf_18 ?_
                  refine wp_ret_bd ?_
                  refine wp_gd qf_18 ?_
                  refine wp_ret_bd ?_
                  refine wp_ifn qf_19 ?_
                  refine wp_bd ?_
                  refine wp_of (f_X13_isBetween.eq_1 ..) ?_
                  refine wp_ifn qf_28 ?_
                  refine wp_ifn qf_38 ?_
                  refine wp_of (f_X13_isBetween_15.eq_1 ..) ?_
                  refine wp_gd qf_18 ?_
                  refine wp_ret_bd ?_
                  refine wp_ifn qf_19 ?_
                  refine wp_bd ?_
                  refine wp_of (f_X13_isBetween.eq_1 ..) ?_
                  refine wp_ifn c5 ?_
                  refine wp_ifn c6 ?_
                  refine wp_of (f_X13_isBetween_15.eq_1 ..) ?_
                  refine wp_gd qf_18 ?_
                  refine wp_ret_bd ?_
                  refine wp_ifn qf_19 ?_
                  refine wp_of (f_X13_setBand_36.eq_1 ..) ?_
                  refine wp_gd ql_K_149 ?_
                  refine wp_bd ?_
                  refine wp_of (f_X13_isWrong.eq_1 ..) ?_
                  refine wp_gd ql_K_149 ?_
                  refine wp_zI ?_
                  refine wp_ifp qf_73 ?_
                  refine wp_of (f_X13_isWrong_14.eq_1 ..) ?_
                  refine wp_gd qf_14 ?_
                  refine wp_ret_bd ?_
                  refine wp_ifp qf_15 ?_
                  refine wp_gd ql_K_149 ?_
                  refine wp_lt ql_R_149_2 ?_
                  refine wp_gd ql_K_151 ?_
                  refine wp_gd (gZi ql_Z_151 qf_105) ?_
                  refine wp_lt (gRk qf_46 ql_R_151_3) ?_
                  refine wp_gd ql_K_164 ?_
                  refine wp_lt ql_R_164_6 ?_
                  refine wp_gd ql_K_165 ?_
                  refine wp_gd (gZi ql_Z_165 qf_122) ?_
                  refine wp_lt (gIk qf_32 (Eq.trans (gI_a rfl) (Eq.trans (gI_a rfl) (Eq.trans (gI_a rfl) (Eq.trans (gI_a rfl) (Eq.trans (gI_a rfl) (Eq.trans (gI_a rfl) (Eq.trans (gI_a rfl) (Eq.trans (gI_a rfl) (Eq.trans (gI_a rfl) (Eq.trans (gI_a rfl) (Eq.trans (gI_a rfl) (Eq.trans (gI_a rfl) ql_I_165_0))))))))))))) ?_
                  refine wp_lt ql_R_149_2 ?_
                  refine wp_gd ql_K_151 ?_
                  refine wp_gd (gZi ql_Z_151 qf_105) ?_
                  refine wp_lt (gRk qf_46 ql_R_151_3) ?_
                  refine wp_gd ql_K_164 ?_
                  refine wp_lt ql_R_164_6 ?_
                  refine wp_gd ql_K_165 ?_
                  refine wp_gd (gZi ql_Z_165 qf_122) ?_
                  refine wp_zIk qf_32 ?_
                  refine wp_bd ?_
                  refine wp_of (f_X13_logs.eq_1 ..) ?_
                  refine wp_gd ql_K_149 ?_
                  refine wp_lt (Eq.trans (gI_a rfl) (Eq.trans (gI_b rfl) (Eq.trans (gI_a rfl) (Eq.trans (gI_a rfl) (Eq.trans (gI_a rfl) (Eq.trans (gI_a rfl) (Eq.trans (gI_a rfl) (Eq.trans (gI_a rfl) (Eq.trans (gI_a rfl) (Eq.trans (gI_a rfl) (Eq.trans (gI_a rfl) (Eq.trans (gI_a rfl) (Eq.trans (gI_a rfl) ql_I_149_16))))))))))))) ?_
                  refine wp_lt qf_27 ?_
                  refine wp_zI ?_
                  refine wp_ret_bd ?_
                  refine wp_ret_bd ?_
                  refine wp_gd ql_K_149 ?_
                  refine wp_bd ?_
                  refine wp_of (f_X13_thrown.eq_1 ..) ?_
                  refine wp_gd ql_K_149 ?_
                  refine wp_lt (Eq.trans (gI_b rfl) (Eq.trans (gI_a rfl) gI_s)) ?_
                  refine wp_ret_bd ?_
                  refine wp_ifp qf_15 ?_
                  refine wp_ifp qf_15 ?_
                  refine wp_gd ql_K_173 ?_
                  refine wp_gd (gZi ql_Z_173 qf_71) ?_
                  refine wp_lt (gLk qf_32 gL_s) ?_
                  refine wp_lt qf_123 ?_
                  refine wp_lt qf_124 ?_
                  refine wp_ifp qf_15 ?_
                  refine wp_of (f_L_law_1840.eq_1 ..) ?_
                  refine wp_of (f_L_law_3632.eq_1 ..) ?_
                  refine wp_lt qf_21 ?_
                  exact hrc _
                · skip
                  refine wp_gd (gZi ql_Z_43 qf_125) ?_
                  refine wp_lt (gIk qf_36 (Eq.trans (gI_a rfl) (Eq.trans (gI_a rfl) (Eq.trans (gI_a rfl) (Eq.trans (gI_a rfl) (Eq.trans (gI_a rfl) (Eq.trans (gI_a rfl) (Eq.trans (gI_a rfl) (Eq.trans (gI_a rfl) (Eq.trans (gI_a rfl) (Eq.trans (gI_a rfl) ql_I_43_1))))))))))) ?_
                  refine wp_lt ql_R_42_0 ?_
                  refine wp_gd ql_K_43 ?_
                  refine wp_gd (gZi ql_Z_43 qf_125) ?_
                  refine wp_zIk qf_36 ?_
                  refine wp_ret_bd ?_
                  refine wp_ret_bdc ?_
                  refine wp_lt qf_123 ?_
                  refine wp_gd ql_K_173 ?_
                  refine wp_gd (gZi ql_Z_173 qf_71) ?_
                  refine wp_zLk qf_32 ?_
                  refine wp_ret_bd ?_
                  refine wp_gd qf_0 ?_
                  refine wp_lt (xsk qf_1 hy1) ?_
                  refine wp_gd qf_2 ?_
                  refine wp_lt (xsk qf_3 hy2) ?_
                  refine wp_gd qf_4 ?_
                  refine wp_lt (xsk qf_5 hy3) ?_
                  refine wp_gd ql_K_149 ?_
                  refine wp_bd ?_
                  refine wp_of (f_X13_setBand.eq_1 ..) ?_
                  refine wp_bd ?_
                  refine wp_of (f_X13_isDeck.eq_1 ..) ?_
                  refine wp_bd ?_
                  refine wp_of (f_X13_isBetween.eq_1 ..) ?_
                  refine wp_ifn qf_43 ?_
                  refine wp_ifn qf_107 ?_
                  refine wp_of (f_X13_isBetween_15.eq_1 ..) ?_
                  refine wp_gd qf_18 ?_
                  refine wp_ret_bd ?_
                  refine wp_gd qf_18 ?_
                  refine wp_ret_bd ?_
                  refine wp_ifn qf_19 ?_
                  refine wp_bd ?_
                  refine wp_of (f_X13_isBetween.eq_1 ..) ?_
                  refine wp_ifn qf_33 ?_
                  refine wp_ifn qf_126 ?_
                  refine wp_of (f_X13_isBetween_15.eq_1 ..) ?_
                  refine wp_gd qf_18 ?_
                  refine wp_ret_bd ?_
                  refine wp_ifn qf_19 ?_
                  refine wp_bd ?_
                  refine wp_of (f_X13_isBetween.eq_1 ..) ?_
                  refine wp_ifn c5 ?_
                  refine wp_ifn c6 ?_
                  refine wp_of (f_X13_isBetween_15.eq_1 ..) ?_
                  refine wp_gd qf_18 ?_
                  refine wp_ret_bd ?_
                  refine wp_ifn qf_19 ?_
                  refine wp_of (f_X13_setBand_36.eq_1 ..) ?_
                  refine wp_gd ql_K_149 ?_
                  refine wp_bd ?_
                  refine wp_of (f_X13_isWrong.eq_1 ..) ?_
                  refine wp_gd ql_K_149 ?_
                  refine wp_zI ?_
                  refine wp_ifp qf_73 ?_
                  refine wp_of (f_X13_isWrong_14.eq_1 ..) ?_
                  refine wp_gd qf_14 ?_
                  refine wp_ret_bd ?_
                  refine wp_ifp qf_15 ?_
                  refine wp_gd ql_K_149 ?_
                  refine wp_lt ql_R_149_2 ?_
                  refine wp_gd ql_K_151 ?_
                  refine wp_gd (gZi ql_Z_151 qf_105) ?_
                  refine wp_lt (gRk qf_46 ql_R_151_3) ?_
                  refine wp_gd ql_K_164 ?_
                  refine wp_lt ql_R_164_6 ?_
                  refine wp_gd ql_K_165 ?_
                  refine wp_gd (gZi ql_Z_165 qf_125) ?_
                  refine wp_lt (gIk qf_36 (Eq.trans (gI_a rfl) (Eq.trans (gI_a rfl) (Eq.trans (gI_a rfl) (Eq.trans (gI_a rfl) (Eq.trans (gI_a rfl) (Eq.trans (gI_a rfl) (Eq.trans (gI_a rfl) (Eq.trans (gI_a rfl) (Eq.trans (gI_a rfl) (Eq.trans (gI_a rfl) (Eq.trans (gI_a rfl) (Eq.trans (gI_a rfl) ql_I_165_1))))))))))))) ?_
                  refine wp_lt ql_R_149_2 ?_
                  refine wp_gd ql_K_151 ?_
                  refine wp_gd (gZi ql_Z_151 qf_105) ?_
                  refine wp_lt (gRk qf_46 ql_R_151_3) ?_
                  refine wp_gd ql_K_164 ?_
                  refine wp_lt ql_R_164_6 ?_
                  refine wp_gd ql_K_165 ?_
                  refine wp_gd (gZi ql_Z_165 qf_125) ?_
                  refine wp_zIk qf_36 ?_
                  refine wp_bd ?_
                  refine wp_of (f_X13_logs.eq_1 ..) ?_
                  refine wp_gd ql_K_149 ?_
                  refine wp_lt (Eq.trans (gI_a rfl) (Eq.trans (gI_b rfl) (Eq.trans (gI_a rfl) (Eq.trans (gI_a rfl) (Eq.trans (gI_a rfl) (Eq.trans (gI_a rfl) (Eq.trans (gI_a rfl) (Eq.trans (gI_a rfl) (Eq.trans (gI_a rfl) (Eq.trans (gI_a rfl) (Eq.trans (gI_a rfl) (Eq.trans (gI_a rfl) (Eq.trans (gI_a rfl) ql_I_149_16))))))))))))) ?_
                  refine wp_lt qf_27 ?_
                  refine wp_zI ?_
                  refine wp_ret_bd ?_
                  refine wp_ret_bd ?_
                  refine wp_gd ql_K_149 ?_
                  refine wp_bd ?_
                  refine wp_of (f_X13_thrown.eq_1 ..) ?_
                  refine wp_gd ql_K_149 ?_
                  refine wp_lt (Eq.trans (gI_b rfl) (Eq.trans (gI_a rfl) gI_s)) ?_
                  refine wp_ret_bd ?_
                  refine wp_ifp qf_15 ?_
                  refine wp_ifp qf_15 ?_
                  refine wp_gd ql_K_173 ?_
                  refine wp_gd (gZi ql_Z_173 qf_71) ?_
                  refine wp_lt (gLk qf_32 gL_s) ?_
                  refine wp_lt qf_123 ?_
                  refine wp_lt qf_124 ?_
                  refine wp_ifp qf_15 ?_
                  refine wp_of (f_L_law_1840.eq_1 ..) ?_
                  refine wp_of (f_L_law_3632.eq_1 ..) ?_
                  refine wp_lt qf_21 ?_
                  exact hrc _
                · skip
                  refine wp_gd (gZi ql_Z_43 qf_127) ?_
                  refine wp_lt (gIk qf_41 (Eq.trans (gI_a rfl) (Eq.trans (gI_a rfl) (Eq.trans (gI_a rfl) (Eq.trans (gI_a rfl) (Eq.trans (gI_a rfl) (Eq.trans (gI_a rfl) (Eq.trans (gI_a rfl) (Eq.trans (gI_a rfl) (Eq.trans (gI_a rfl) (Eq.trans (gI_a rfl) ql_I_43_2))))))))))) ?_
                  refine wp_lt ql_R_42_0 ?_
                  refine wp_gd ql_K_43 ?_
                  refine wp_gd (gZi ql_Z_43 qf_127) ?_
                  refine wp_zIk qf_41 ?_
                  refine wp_ret_bd ?_
                  refine wp_ret_bdc ?_
                  refine wp_lt qf_123 ?_
                  refine wp_gd ql_K_173 ?_
                  refine wp_gd (gZi ql_Z_173 qf_71) ?_
                  refine wp_zLk qf_32 ?_
                  refine wp_ret_bd ?_
                  refine wp_gd qf_0 ?_
                  refine wp_lt (xsk qf_1 hy1) ?_
                  refine wp_gd qf_2 ?_
                  refine wp_lt (xsk qf_3 hy2) ?_
                  refine wp_gd qf_4 ?_
                  refine wp_lt (xsk qf_5 hy3) ?_
                  refine wp_gd ql_K_149 ?_
                  refine wp_bd ?_
                  refine wp_of (f_X13_setBand.eq_1 ..) ?_
                  refine wp_bd ?_
                  refine wp_of (f_X13_isDeck.eq_1 ..) ?_
                  refine wp_bd ?_
                  refine wp_of (f_X13_isBetween.eq_1 ..) ?_
                  refine wp_ifn qf_43 ?_
                  refine wp_ifn qf_107 ?_
                  refine wp_of (f_X13_isBetween_15.eq_1 ..) ?_
                  refine wp_gd qf_18 ?_
                  refine wp_ret_bd ?_
                  refine wp_gd qf_18 ?_
                  refine wp_ret_bd ?_
                  refine wp_ifn qf_19 ?_
                  refine wp_bd ?_
                  refine wp_of (f_X13_isBetween.eq_1 ..) ?_
                  refine wp_ifn qf_38 ?_
                  refine wp_ifn qf_128 ?_
                  refine wp_of (f_X13_isBetween_15.eq_1 ..) ?_
                  refine wp_gd qf_18 ?_
                  refine wp_ret_bd ?_
                  refine wp_ifn qf_19 ?_
                  refine wp_bd ?_
                  refine wp_of (f_X13_isBetween.eq_1 ..) ?_
                  refine wp_ifn c5 ?_
                  refine wp_ifn c6 ?_
                  refine wp_of (f_X13_isBetween_15.eq_1 ..) ?_
                  refine wp_gd qf_18 ?_
                  refine wp_ret_bd ?_
                  refine wp_ifn qf_19 ?_
                  refine wp_of (f_X13_setBand_36.eq_1 ..) ?_
                  refine wp_gd ql_K_149 ?_
                  refine wp_bd ?_
                  refine wp_of (f_X13_isWrong.eq_1 ..) ?_
                  refine wp_gd ql_K_149 ?_
                  refine wp_zI ?_
                  refine wp_ifp qf_73 ?_
                  refine wp_of (f_X13_isWrong_14.eq_1 ..) ?_
                  refine wp_gd qf_14 ?_
                  refine wp_ret_bd ?_
                  refine wp_ifp qf_15 ?_
                  refine wp_gd ql_K_149 ?_
                  refine wp_lt ql_R_149_2 ?_
                  refine wp_gd ql_K_151 ?_
                  refine wp_gd (gZi ql_Z_151 qf_105) ?_
                  refine wp_lt (gRk qf_46 ql_R_151_3) ?_
                  refine wp_gd ql_K_164 ?_
                  refine wp_lt ql_R_164_6 ?_
                  refine wp_gd ql_K_165 ?_
                  refine wp_gd (gZi ql_Z_165 qf_127) ?_
                  refine wp_lt (gIk qf_41 (Eq.trans (gI_a rfl) (Eq.trans (gI_a rfl) (Eq.trans (gI_a rfl) (Eq.trans (gI_a rfl) (Eq.trans (gI_a rfl) (Eq.trans (gI_a rfl) (Eq.trans (gI_a rfl) (Eq.trans (gI_a rfl) (Eq.trans (gI_a rfl) (Eq.trans (gI_a rfl) (Eq.trans (gI_a rfl) (Eq.trans (gI_a rfl) ql_I_165_2))))))))))))) ?_
                  refine wp_lt ql_R_149_2 ?_
                  refine wp_gd ql_K_151 ?_
                  refine wp_gd (gZi ql_Z_151 qf_105) ?_
                  refine wp_lt (gRk qf_46 ql_R_151_3) ?_
                  refine wp_gd ql_K_164 ?_
                  refine wp_lt ql_R_164_6 ?_
                  refine wp_gd ql_K_165 ?_
                  refine wp_gd (gZi ql_Z_165 qf_127) ?_
                  refine wp_zIk qf_41 ?_
                  refine wp_bd ?_
                  refine wp_of (f_X13_logs.eq_1 ..) ?_
                  refine wp_gd ql_K_149 ?_
                  refine wp_lt (Eq.trans (gI_a rfl) (Eq.trans (gI_b rfl) (Eq.trans (gI_a rfl) (Eq.trans (gI_a rfl) (Eq.trans (gI_a rfl) (Eq.trans (gI_a rfl) (Eq.trans (gI_a rfl) (Eq.trans (gI_a rfl) (Eq.trans (gI_a rfl) (Eq.trans (gI_a rfl) (Eq.trans (gI_a rfl) (Eq.trans (gI_a rfl) (Eq.trans (gI_a rfl) ql_I_149_16))))))))))))) ?_
                  refine wp_lt qf_27 ?_
                  refine wp_zI ?_
                  refine wp_ret_bd ?_
                  refine wp_ret_bd ?_
                  refine wp_gd ql_K_149 ?_
                  refine wp_bd ?_
                  refine wp_of (f_X13_thrown.eq_1 ..) ?_
                  refine wp_gd ql_K_149 ?_
                  refine wp_lt (Eq.trans (gI_b rfl) (Eq.trans (gI_a rfl) gI_s)) ?_
                  refine wp_ret_bd ?_
                  refine wp_ifp qf_15 ?_
                  refine wp_ifp qf_15 ?_
                  refine wp_gd ql_K_173 ?_
                  refine wp_gd (gZi ql_Z_173 qf_71) ?_
                  refine wp_lt (gLk qf_32 gL_s) ?_
                  refine wp_lt qf_123 ?_
                  refine wp_lt qf_124 ?_
                  refine wp_ifp qf_15 ?_
                  refine wp_of (f_L_law_1840.eq_1 ..) ?_
                  refine wp_of (f_L_law_3632.eq_1 ..) ?_
                  refine wp_lt qf_21 ?_
                  exact hrc _
end CASES5
