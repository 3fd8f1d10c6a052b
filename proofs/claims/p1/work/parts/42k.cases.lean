section CASES10
set_option maxRecDepth 100000 in
set_option maxHeartbeats 4000000 in
theorem cs_48 {xs : Nat → Int32} {rc : mS → Nat → Nat → Nat → Nat → Int32 → Option (Rs Int32)} {Q : Rs Int32 → Prop} (hrc : ∀ S, WP Q (rc S 1 149 173 174 8)) : WP Q (f_L_law_3212 8 xs rc (M3I, M3L, M3R, M3D, M3K, M3Z, 174) 1 149 173 174 0) := by
  obtain ⟨y1, hy1⟩ : ∃ y, xs 1 = y := ⟨_, rfl⟩
  refine wp_of (f_L_law_3212.eq_1 ..) ?_
  refine wp_gd qf_0 ?_
  refine wp_lt (xsk qf_1 hy1) ?_
  refine wp_bd ?_
  refine wp_of (f_L_cause.eq_1 ..) ?_
  refine wp_gd ql_K_1 ?_
  refine wp_bdc ?_
  refine wp_of (f_X10_cause.eq_1 ..) ?_
  refine wp_gd ql_K_1 ?_
  refine wp_bd ?_
  refine wp_of (f_X10_demandCause.eq_1 ..) ?_
  refine wp_if (fun c1 => ?_) (fun c1 => ?_)
  · skip
    refine wp_of (f_X10_demandCause_15.eq_1 ..) ?_
    refine wp_rs_bd ?_
    refine wp_rs_bdc ?_
    refine wp_ifp qf_111 ?_
    refine wp_ret_bd ?_
    refine wp_gd qf_0 ?_
    refine wp_lt (xsk qf_1 hy1) ?_
    refine wp_gd ql_K_149 ?_
    refine wp_bd ?_
    refine wp_of (f_X13_cause.eq_1 ..) ?_
    refine wp_gd ql_K_149 ?_
    refine wp_lt ql_I_149_17 ?_
    refine wp_lt qf_79 ?_
    refine wp_bd ?_
    refine wp_of (f_X13_isBetween.eq_1 ..) ?_
    refine wp_ifp c1 ?_
    refine wp_of (f_X13_isBetween_14.eq_1 ..) ?_
    refine wp_of (f_X13_isBetween_15.eq_1 ..) ?_
    refine wp_gd qf_14 ?_
    refine wp_ret_bd ?_
    refine wp_ifp qf_15 ?_
    refine wp_of (f_X13_cause_20.eq_1 ..) ?_
    refine wp_gd ql_K_149 ?_
    refine wp_bd ?_
    refine wp_of (f_X13_isWrong.eq_1 ..) ?_
    refine wp_gd ql_K_149 ?_
    refine wp_zI ?_
    refine wp_ifn qf_17 ?_
    refine wp_of (f_X13_isWrong_14.eq_1 ..) ?_
    refine wp_gd qf_18 ?_
    refine wp_ret_bd ?_
    refine wp_ifn qf_19 ?_
    refine wp_of (f_X13_cause_36.eq_1 ..) ?_
    refine wp_gd qf_448 ?_
    refine wp_ret_bd ?_
    refine wp_gd ql_K_149 ?_
    refine wp_bd ?_
    refine wp_of (f_X13_thrown.eq_1 ..) ?_
    refine wp_gd ql_K_149 ?_
    refine wp_lt gI_s ?_
    refine wp_ret_bd ?_
    refine wp_ifp qf_20 ?_
    refine wp_ifn qf_19 ?_
    refine wp_of (f_L_law_3265.eq_1 ..) ?_
    refine wp_of (f_L_law_3632.eq_1 ..) ?_
    refine wp_lt qf_21 ?_
    exact hrc _
  · skip
    refine wp_gd ql_K_1 ?_
    refine wp_lt ql_R_1_3 ?_
    refine wp_gd ql_K_109 ?_
    refine wp_lt ql_I_109_5 ?_
    refine wp_ifn c1 ?_
    refine wp_of (f_X10_demandCause_15.eq_1 ..) ?_
    refine wp_rs_bd ?_
    refine wp_rs_bdc ?_
    refine wp_ifp qf_111 ?_
    refine wp_ret_bd ?_
    refine wp_gd qf_0 ?_
    refine wp_lt (xsk qf_1 hy1) ?_
    refine wp_gd ql_K_149 ?_
    refine wp_bd ?_
    refine wp_of (f_X13_cause.eq_1 ..) ?_
    refine wp_gd ql_K_149 ?_
    refine wp_lt ql_I_149_17 ?_
    refine wp_lt qf_79 ?_
    refine wp_bd ?_
    refine wp_of (f_X13_isBetween.eq_1 ..) ?_
    refine wp_ifn c1 ?_
    refine wp_ifp (show ((-1 : Int32) < y1) from by have e0 := qf_81; have e1 := qf_80; simp only [Int32.lt_iff_toInt_lt, Int32.le_iff_toInt_le, ← Int32.toInt_inj] at c1 ⊢; omega) ?_
    refine wp_of (f_X13_isBetween_14.eq_1 ..) ?_
    refine wp_of (f_X13_isBetween_15.eq_1 ..) ?_
    refine wp_gd qf_14 ?_
    refine wp_ret_bd ?_
    refine wp_ifp qf_15 ?_
    refine wp_of (f_X13_cause_20.eq_1 ..) ?_
    refine wp_gd ql_K_149 ?_
    refine wp_bd ?_
    refine wp_of (f_X13_isWrong.eq_1 ..) ?_
    refine wp_gd ql_K_149 ?_
    refine wp_zI ?_
    refine wp_ifn qf_17 ?_
    refine wp_of (f_X13_isWrong_14.eq_1 ..) ?_
    refine wp_gd qf_18 ?_
    refine wp_ret_bd ?_
    refine wp_ifn qf_19 ?_
    refine wp_of (f_X13_cause_36.eq_1 ..) ?_
    refine wp_gd qf_448 ?_
    refine wp_ret_bd ?_
    refine wp_gd ql_K_149 ?_
    refine wp_bd ?_
    refine wp_of (f_X13_thrown.eq_1 ..) ?_
    refine wp_gd ql_K_149 ?_
    refine wp_lt gI_s ?_
    refine wp_ret_bd ?_
    refine wp_ifp qf_20 ?_
    refine wp_ifn qf_19 ?_
    refine wp_of (f_L_law_3265.eq_1 ..) ?_
    refine wp_of (f_L_law_3632.eq_1 ..) ?_
    refine wp_lt qf_21 ?_
    exact hrc _
set_option maxRecDepth 100000 in
set_option maxHeartbeats 4000000 in
theorem cs_49 {xs : Nat → Int32} {rc : mS → Nat → Nat → Nat → Nat → Int32 → Option (Rs Int32)} {Q : Rs Int32 → Prop} (hrc : ∀ S, WP Q (rc S 1 149 173 174 8)) : WP Q (f_L_law_3268 8 xs rc (M3I, M3L, M3R, M3D, M3K, M3Z, 174) 1 149 173 174 0) := by
  obtain ⟨y1, hy1⟩ : ∃ y, xs 1 = y := ⟨_, rfl⟩
  refine wp_of (f_L_law_3268.eq_1 ..) ?_
  refine wp_gd qf_0 ?_
  refine wp_lt (xsk qf_1 hy1) ?_
  refine wp_bd ?_
  refine wp_of (f_L_causeNumber.eq_1 ..) ?_
  refine wp_gd ql_K_1 ?_
  refine wp_bdc ?_
  refine wp_of (f_X10_causeNumber.eq_1 ..) ?_
  refine wp_gd ql_K_1 ?_
  refine wp_bd ?_
  refine wp_of (f_X10_demandCause.eq_1 ..) ?_
  refine wp_if (fun c1 => ?_) (fun c1 => ?_)
  · skip
    refine wp_of (f_X10_demandCause_15.eq_1 ..) ?_
    refine wp_rs_bd ?_
    refine wp_rs_bdc ?_
    refine wp_ifp qf_111 ?_
    refine wp_ret_bd ?_
    refine wp_gd qf_0 ?_
    refine wp_lt (xsk qf_1 hy1) ?_
    refine wp_gd ql_K_149 ?_
    refine wp_bd ?_
    refine wp_of (f_X13_causeNumber.eq_1 ..) ?_
    refine wp_gd ql_K_149 ?_
    refine wp_lt ql_I_149_17 ?_
    refine wp_lt qf_79 ?_
    refine wp_bd ?_
    refine wp_of (f_X13_isBetween.eq_1 ..) ?_
    refine wp_ifp c1 ?_
    refine wp_of (f_X13_isBetween_14.eq_1 ..) ?_
    refine wp_of (f_X13_isBetween_15.eq_1 ..) ?_
    refine wp_gd qf_14 ?_
    refine wp_ret_bd ?_
    refine wp_ifp qf_15 ?_
    refine wp_of (f_X13_causeNumber_20.eq_1 ..) ?_
    refine wp_gd ql_K_149 ?_
    refine wp_bd ?_
    refine wp_of (f_X13_isWrong.eq_1 ..) ?_
    refine wp_gd ql_K_149 ?_
    refine wp_zI ?_
    refine wp_ifn qf_17 ?_
    refine wp_of (f_X13_isWrong_14.eq_1 ..) ?_
    refine wp_gd qf_18 ?_
    refine wp_ret_bd ?_
    refine wp_ifn qf_19 ?_
    refine wp_of (f_X13_causeNumber_36.eq_1 ..) ?_
    refine wp_ret_bd ?_
    refine wp_gd ql_K_149 ?_
    refine wp_bd ?_
    refine wp_of (f_X13_thrown.eq_1 ..) ?_
    refine wp_gd ql_K_149 ?_
    refine wp_lt gI_s ?_
    refine wp_ret_bd ?_
    refine wp_ifp qf_20 ?_
    refine wp_ifn qf_19 ?_
    refine wp_of (f_L_law_3321.eq_1 ..) ?_
    refine wp_of (f_L_law_3632.eq_1 ..) ?_
    refine wp_lt qf_21 ?_
    exact hrc _
  · skip
    refine wp_gd ql_K_1 ?_
    refine wp_lt ql_R_1_3 ?_
    refine wp_gd ql_K_109 ?_
    refine wp_lt ql_I_109_5 ?_
    refine wp_ifn c1 ?_
    refine wp_of (f_X10_demandCause_15.eq_1 ..) ?_
    refine wp_rs_bd ?_
    refine wp_rs_bdc ?_
    refine wp_ifp qf_111 ?_
    refine wp_ret_bd ?_
    refine wp_gd qf_0 ?_
    refine wp_lt (xsk qf_1 hy1) ?_
    refine wp_gd ql_K_149 ?_
    refine wp_bd ?_
    refine wp_of (f_X13_causeNumber.eq_1 ..) ?_
    refine wp_gd ql_K_149 ?_
    refine wp_lt ql_I_149_17 ?_
    refine wp_lt qf_79 ?_
    refine wp_bd ?_
    refine wp_of (f_X13_isBetween.eq_1 ..) ?_
    refine wp_ifn c1 ?_
    refine wp_ifp (show ((-1 : Int32) < y1) from by have e0 := qf_81; have e1 := qf_80; simp only [Int32.lt_iff_toInt_lt, Int32.le_iff_toInt_le, ← Int32.toInt_inj] at c1 ⊢; omega) ?_
    refine wp_of (f_X13_isBetween_14.eq_1 ..) ?_
    refine wp_of (f_X13_isBetween_15.eq_1 ..) ?_
    refine wp_gd qf_14 ?_
    refine wp_ret_bd ?_
    refine wp_ifp qf_15 ?_
    refine wp_of (f_X13_causeNumber_20.eq_1 ..) ?_
    refine wp_gd ql_K_149 ?_
    refine wp_bd ?_
    refine wp_of (f_X13_isWrong.eq_1 ..) ?_
    refine wp_gd ql_K_149 ?_
    refine wp_zI ?_
    refine wp_ifn qf_17 ?_
    refine wp_of (f_X13_isWrong_14.eq_1 ..) ?_
    refine wp_gd qf_18 ?_
    refine wp_ret_bd ?_
    refine wp_ifn qf_19 ?_
    refine wp_of (f_X13_causeNumber_36.eq_1 ..) ?_
    refine wp_ret_bd ?_
    refine wp_gd ql_K_149 ?_
    refine wp_bd ?_
    refine wp_of (f_X13_thrown.eq_1 ..) ?_
    refine wp_gd ql_K_149 ?_
    refine wp_lt gI_s ?_
    refine wp_ret_bd ?_
    refine wp_ifp qf_20 ?_
    refine wp_ifn qf_19 ?_
    refine wp_of (f_L_law_3321.eq_1 ..) ?_
    refine wp_of (f_L_law_3632.eq_1 ..) ?_
    refine wp_lt qf_21 ?_
    exact hrc _
set_option maxRecDepth 100000 in
set_option maxHeartbeats 4000000 in
theorem cs_50 {xs : Nat → Int32} {rc : mS → Nat → Nat → Nat → Nat → Int32 → Option (Rs Int32)} {Q : Rs Int32 → Prop} (hrc : ∀ S, WP Q (rc S 1 149 173 174 8)) : WP Q (f_L_law_3324 8 xs rc (M3I, M3L, M3R, M3D, M3K, M3Z, 174) 1 149 173 174 0) := by
  obtain ⟨y1, hy1⟩ : ∃ y, xs 1 = y := ⟨_, rfl⟩
  obtain ⟨y2, hy2⟩ : ∃ y, xs 2 = y := ⟨_, rfl⟩
  refine wp_of (f_L_law_3324.eq_1 ..) ?_
  refine wp_gd qf_0 ?_
  refine wp_lt (xsk qf_1 hy1) ?_
  refine wp_gd qf_2 ?_
  refine wp_lt (xsk qf_3 hy2) ?_
  refine wp_bd ?_
  refine wp_of (f_L_skip.eq_1 ..) ?_
  refine wp_gd ql_K_1 ?_
  refine wp_bdc ?_
  refine wp_of (f_X10_skip.eq_1 ..) ?_
  refine wp_gd ql_K_1 ?_
  refine wp_bd ?_
  refine wp_of (f_X10_deckOf.eq_1 ..) ?_
  refine wp_gd ql_K_1 ?_
  refine wp_lt ql_R_1_0 ?_
  refine wp_gd ql_K_2 ?_
  refine wp_bd ?_
  refine wp_of (f_X8_deckAt.eq_1 ..) ?_
  refine wp_if (fun c1 => ?_) (fun c1 => ?_)
  · skip
    refine wp_of (f_X8_deckAt_22.eq_1 ..) ?_
    refine wp_of (f_X8_deckAt_23.eq_1 ..) ?_
    refine wp_ret_bd ?_
    refine wp_ifp qf_77 ?_
    refine wp_rs_bd ?_
    refine wp_rs_bdc ?_
    refine wp_ifp qf_78 ?_
    refine wp_ret_bd ?_
    refine wp_gd qf_0 ?_
    refine wp_lt (xsk qf_1 hy1) ?_
    refine wp_gd qf_2 ?_
    refine wp_lt (xsk qf_3 hy2) ?_
    refine wp_gd ql_K_149 ?_
    refine wp_bd ?_
    refine wp_of (f_X13_skip.eq_1 ..) ?_
    refine wp_bd ?_
    refine wp_of (f_X13_isDeck.eq_1 ..) ?_
    refine wp_bd ?_
    refine wp_of (f_X13_isBetween.eq_1 ..) ?_
    refine wp_ifp c1 ?_
    refine wp_of (f_X13_isBetween_14.eq_1 ..) ?_
    refine wp_of (f_X13_isBetween_15.eq_1 ..) ?_
    refine wp_gd qf_14 ?_
    refine wp_ret_bd ?_
    refine wp_gd qf_14 ?_
    refine wp_ret_bd ?_
    refine wp_ifp qf_15 ?_
    refine wp_of (f_X13_skip_39.eq_1 ..) ?_
    refine wp_gd ql_K_149 ?_
    refine wp_bd ?_
    refine wp_of (f_X13_isWrong.eq_1 ..) ?_
    refine wp_gd ql_K_149 ?_
    refine wp_zI ?_
    refine wp_ifn qf_17 ?_
    refine wp_of (f_X13_isWrong_14.eq_1 ..) ?_
    refine wp_gd qf_18 ?_
    refine wp_ret_bd ?_
    refine wp_ifn qf_19 ?_
    refine wp_ret_bd ?_
    refine wp_gd ql_K_149 ?_
    refine wp_bd ?_
    refine wp_of (f_X13_thrown.eq_1 ..) ?_
    refine wp_gd ql_K_149 ?_
    refine wp_lt gI_s ?_
    refine wp_ret_bd ?_
    refine wp_ifp qf_20 ?_
    refine wp_ifn qf_19 ?_
    refine wp_of (f_L_law_3388.eq_1 ..) ?_
    refine wp_of (f_L_law_3632.eq_1 ..) ?_
    refine wp_lt qf_21 ?_
    exact hrc _
  · skip
    refine wp_gd ql_K_2 ?_
    refine wp_lt ql_R_2_1 ?_
    refine wp_gd ql_K_16 ?_
    refine wp_lt (gZo ql_Z_16 qf_82) ?_
    refine wp_if (fun c2 => ?_) (fun c2 => ?_)
    · skip
      refine wp_of (f_X8_deckAt_22.eq_1 ..) ?_
      refine wp_of (f_X8_deckAt_23.eq_1 ..) ?_
      refine wp_ret_bd ?_
      refine wp_ifp qf_77 ?_
      refine wp_rs_bd ?_
      refine wp_rs_bdc ?_
      refine wp_ifp qf_78 ?_
      refine wp_ret_bd ?_
      refine wp_gd qf_0 ?_
      refine wp_lt (xsk qf_1 hy1) ?_
      refine wp_gd qf_2 ?_
      refine wp_lt (xsk qf_3 hy2) ?_
      refine wp_gd ql_K_149 ?_
      refine wp_bd ?_
      refine wp_of (f_X13_skip.eq_1 ..) ?_
      refine wp_bd ?_
      refine wp_of (f_X13_isDeck.eq_1 ..) ?_
      refine wp_bd ?_
      refine wp_of (f_X13_isBetween.eq_1 ..) ?_
      refine wp_ifn c1 ?_
      refine wp_ifp (show ((3 : Int32) < y1) from by have e0 := qf_80; have e1 := qf_83; have e2 := qf_84; simp only [Int32.lt_iff_toInt_lt, Int32.le_iff_toInt_le, ← Int32.toInt_inj] at c1 c2 ⊢; omega) ?_
      refine wp_of (f_X13_isBetween_14.eq_1 ..) ?_
      refine wp_of (f_X13_isBetween_15.eq_1 ..) ?_
      refine wp_gd qf_14 ?_
      refine wp_ret_bd ?_
      refine wp_gd qf_14 ?_
      refine wp_ret_bd ?_
      refine wp_ifp qf_15 ?_
      refine wp_of (f_X13_skip_39.eq_1 ..) ?_
      refine wp_gd ql_K_149 ?_
      refine wp_bd ?_
      refine wp_of (f_X13_isWrong.eq_1 ..) ?_
      refine wp_gd ql_K_149 ?_
      refine wp_zI ?_
      refine wp_ifn qf_17 ?_
      refine wp_of (f_X13_isWrong_14.eq_1 ..) ?_
      refine wp_gd qf_18 ?_
      refine wp_ret_bd ?_
      refine wp_ifn qf_19 ?_
      refine wp_ret_bd ?_
      refine wp_gd ql_K_149 ?_
      refine wp_bd ?_
      refine wp_of (f_X13_thrown.eq_1 ..) ?_
      refine wp_gd ql_K_149 ?_
      refine wp_lt gI_s ?_
      refine wp_ret_bd ?_
      refine wp_ifp qf_20 ?_
      refine wp_ifn qf_19 ?_
      refine wp_of (f_L_law_3388.eq_1 ..) ?_
      refine wp_of (f_L_law_3632.eq_1 ..) ?_
      refine wp_lt qf_21 ?_
      exact hrc _
    · skip
      refine wp_lt ql_R_2_1 ?_
      refine wp_gd ql_K_16 ?_
      rcases (show y1 = (0 : Int32) ∨ y1 = (1 : Int32) ∨ y1 = (2 : Int32) ∨ y1 = (3 : Int32) from by have e0 := qf_80; have e1 := qf_85; have e2 := qf_86; have e3 := qf_83; have e4 := qf_84; simp only [Int32.lt_iff_toInt_lt, Int32.le_iff_toInt_le] at c1 c2; simp only [← Int32.toInt_inj]; omega) with rfl | rfl | rfl | rfl
      · skip
        refine wp_gd (gZi ql_Z_16 qf_87) ?_
        refine wp_lt (gRk qf_32 ql_R_16_0) ?_
        refine wp_of (f_X8_deckAt_23.eq_1 ..) ?_
        refine wp_ret_bd ?_
        refine wp_ifn qf_88 ?_
        refine wp_ret_bd ?_
        refine wp_bd ?_
        refine wp_of (f_X10_isIn.eq_1 ..) ?_
        refine wp_if (fun c3 => ?_) (fun c3 => ?_)
        · skip
          refine wp_of (f_X10_isIn_14.eq_1 ..) ?_
          refine wp_of (f_X10_isIn_15.eq_1 ..) ?_
          refine wp_gd qf_14 ?_
          refine wp_ret_bd ?_
          refine wp_bd ?_
          refine wp_of (f_X10_demand.eq_1 ..) ?_
          refine wp_ifp qf_15 ?_
          refine wp_rs_bd ?_
          refine wp_rs_bdc ?_
          refine wp_ifn qf_104 ?_
          refine wp_ifp qf_16 ?_
          refine wp_ret_bd ?_
          refine wp_gd qf_0 ?_
          refine wp_lt (xsk qf_1 hy1) ?_
          refine wp_gd qf_2 ?_
          refine wp_lt (xsk qf_3 hy2) ?_
          refine wp_gd ql_K_149 ?_
          refine wp_bd ?_
          refine wp_of (f_X13_skip.eq_1 ..) ?_
          refine wp_bd ?_
          refine wp_of (f_X13_isDeck.eq_1 ..) ?_
          refine wp_bd ?_
          refine wp_of (f_X13_isBetween.eq_1 ..) ?_
          refine wp_ifn qf_28 ?_
          refine wp_ifn qf_43 ?_
          refine wp_of (f_X13_isBetween_15.eq_1 ..) ?_
          refine wp_gd qf_18 ?_
          refine wp_ret_bd ?_
          refine wp_gd qf_18 ?_
          refine wp_ret_bd ?_
          refine wp_ifn qf_19 ?_
          refine wp_bd ?_
          refine wp_of (f_X13_isBetween.eq_1 ..) ?_
          refine wp_ifp c3 ?_
          refine wp_of (f_X13_isBetween_14.eq_1 ..) ?_
          refine wp_of (f_X13_isBetween_15.eq_1 ..) ?_
          refine wp_gd qf_14 ?_
          refine wp_ret_bd ?_
          refine wp_ifp qf_15 ?_
          refine wp_of (f_X13_skip_39.eq_1 ..) ?_
          refine wp_gd ql_K_149 ?_
          refine wp_bd ?_
          refine wp_of (f_X13_isWrong.eq_1 ..) ?_
          refine wp_gd ql_K_149 ?_
          refine wp_zI ?_
          refine wp_ifn qf_100 ?_
          refine wp_of (f_X13_isWrong_14.eq_1 ..) ?_
          refine wp_gd qf_18 ?_
          refine wp_ret_bd ?_
          refine wp_ifn qf_19 ?_
          refine wp_ret_bd ?_
          refine wp_gd ql_K_149 ?_
          refine wp_bd ?_
          refine wp_of (f_X13_thrown.eq_1 ..) ?_
          refine wp_gd ql_K_149 ?_
          refine wp_lt gI_s ?_
          refine wp_ret_bd ?_
          refine wp_ifp qf_101 ?_
          refine wp_ifn qf_102 ?_
          refine wp_of (f_L_law_3388.eq_1 ..) ?_
          refine wp_of (f_L_law_3632.eq_1 ..) ?_
          refine wp_lt qf_21 ?_
          exact hrc _
        · skip
          refine wp_if (fun c4 => ?_) (fun c4 => ?_)
          · skip
            refine wp_of (f_X10_isIn_14.eq_1 ..) ?_
            refine wp_of (f_X10_isIn_15.eq_1 ..) ?_
            refine wp_gd qf_14 ?_
            refine wp_ret_bd ?_
            refine wp_bd ?_
            refine wp_of (f_X10_demand.eq_1 ..) ?_
            refine wp_ifp qf_15 ?_
            refine wp_rs_bd ?_
            refine wp_rs_bdc ?_
            refine wp_ifn qf_104 ?_
            refine wp_ifp qf_16 ?_
            refine wp_ret_bd ?_
            refine wp_gd qf_0 ?_
            refine wp_lt (xsk qf_1 hy1) ?_
            refine wp_gd qf_2 ?_
            refine wp_lt (xsk qf_3 hy2) ?_
            refine wp_gd ql_K_149 ?_
            refine wp_bd ?_
            refine wp_of (f_X13_skip.eq_1 ..) ?_
            refine wp_bd ?_
            refine wp_of (f_X13_isDeck.eq_1 ..) ?_
            refine wp_bd ?_
            refine wp_of (f_X13_isBetween.eq_1 ..) ?_
            refine wp_ifn qf_28 ?_
            refine wp_ifn qf_43 ?_
            refine wp_of (f_X13_isBetween_15.eq_1 ..) ?_
            refine wp_gd qf_18 ?_
            refine wp_ret_bd ?_
            refine wp_gd qf_18 ?_
            refine wp_ret_bd ?_
            refine wp_ifn qf_19 ?_
            refine wp_bd ?_
            refine wp_of (f_X13_isBetween.eq_1 ..) ?_
            refine wp_ifn c3 ?_
            refine wp_ifp c4 ?_
            refine wp_of (f_X13_isBetween_14.eq_1 ..) ?_
            refine wp_of (f_X13_isBetween_15.eq_1 ..) ?_
            refine wp_gd qf_14 ?_
            refine wp_ret_bd ?_
            refine wp_ifp qf_15 ?_
            refine wp_of (f_X13_skip_39.eq_1 ..) ?_
            refine wp_gd ql_K_149 ?_
            refine wp_bd ?_
            refine wp_of (f_X13_isWrong.eq_1 ..) ?_
            refine wp_gd ql_K_149 ?_
            refine wp_zI ?_
            refine wp_ifn qf_100 ?_
            refine wp_of (f_X13_isWrong_14.eq_1 ..) ?_
            refine wp_gd qf_18 ?_
            refine wp_ret_bd ?_
            refine wp_ifn qf_19 ?_
            refine wp_ret_bd ?_
            refine wp_gd ql_K_149 ?_
            refine wp_bd ?_
            refine wp_of (f_X13_thrown.eq_1 ..) ?_
            refine wp_gd ql_K_149 ?_
            refine wp_lt gI_s ?_
            refine wp_ret_bd ?_
            refine wp_ifp qf_101 ?_
            refine wp_ifn qf_102 ?_
            refine wp_of (f_L_law_3388.eq_1 ..) ?_
            refine wp_of (f_L_law_3632.eq_1 ..) ?_
            refine wp_lt qf_21 ?_
            exact hrc _
          · skip
            refine wp_of (f_X10_isIn_15.eq_1 ..) ?_
            refine wp_gd qf_18 ?_
            refine wp_ret_bd ?_
            refine wp_bd ?_
            refine wp_of (f_X10_demand.eq_1 ..) ?_
            refine wp_ifn qf_19 ?_
            refine wp_ret_bd ?_
            refine wp_bd ?_
            refine wp_of (f_X10_demandRecord.eq_1 ..) ?_
            refine wp_gd ql_K_17 ?_
            refine wp_lt ql_R_17_2 ?_
            refine wp_ifp qf_77 ?_
            refine wp_rs_bd ?_
            refine wp_rs_bdc ?_
            refine wp_ifn qf_98 ?_
            refine wp_ifn qf_105 ?_
            refine wp_ifp qf_99 ?_
            refine wp_ret_bd ?_
            refine wp_gd qf_0 ?_
            refine wp_lt (xsk qf_1 hy1) ?_
            refine wp_gd qf_2 ?_
            refine wp_lt (xsk qf_3 hy2) ?_
            refine wp_gd ql_K_149 ?_
            refine wp_bd ?_
            refine wp_of (f_X13_skip.eq_1 ..) ?_
            refine wp_bd ?_
            refine wp_of (f_X13_isDeck.eq_1 ..) ?_
            refine wp_bd ?_
            refine wp_of (f_X13_isBetween.eq_1 ..) ?_
            refine wp_ifn qf_28 ?_
            refine wp_ifn qf_43 ?_
            refine wp_of (f_X13_isBetween_15.eq_1 ..) ?_
            refine wp_gd qf_18 ?_
            refine wp_ret_bd ?_
            refine wp_gd qf_18 ?_
            refine wp_ret_bd ?_
            refine wp_ifn qf_19 ?_
            refine wp_bd ?_
            refine wp_of (f_X13_isBetween.eq_1 ..) ?_
            refine wp_ifn c3 ?_
            refine wp_ifn c4 ?_
            refine wp_of (f_X13_isBetween_15.eq_1 ..) ?_
            refine wp_gd qf_18 ?_
            refine wp_ret_bd ?_
            refine wp_ifn qf_19 ?_
            refine wp_gd ql_K_149 ?_
            refine wp_bd ?_
            refine wp_of (f_X13_isEmpty.eq_1 ..) ?_
            refine wp_gd ql_K_149 ?_
            refine wp_lt ql_R_149_2 ?_
            refine wp_gd ql_K_151 ?_
            refine wp_gd (gZi ql_Z_151 qf_87) ?_
            refine wp_lt (gRk qf_32 ql_R_151_0) ?_
            refine wp_gd ql_K_152 ?_
            refine wp_lt ql_R_152_0 ?_
            refine wp_ifp qf_77 ?_
            refine wp_of (f_X13_isEmpty_17.eq_1 ..) ?_
            refine wp_gd qf_18 ?_
            refine wp_ret_bd ?_
            refine wp_ifn qf_19 ?_
            refine wp_of (f_X13_skip_39.eq_1 ..) ?_
            refine wp_gd ql_K_149 ?_
            refine wp_bd ?_
            refine wp_of (f_X13_isWrong.eq_1 ..) ?_
            refine wp_gd ql_K_149 ?_
            refine wp_zI ?_
            refine wp_ifn qf_106 ?_
            refine wp_of (f_X13_isWrong_14.eq_1 ..) ?_
            refine wp_gd qf_18 ?_
            refine wp_ret_bd ?_
            refine wp_ifn qf_19 ?_
            refine wp_ret_bd ?_
            refine wp_gd ql_K_149 ?_
            refine wp_bd ?_
            refine wp_of (f_X13_thrown.eq_1 ..) ?_
            refine wp_gd ql_K_149 ?_
            refine wp_lt gI_s ?_
            refine wp_ret_bd ?_
            refine wp_ifp qf_107 ?_
            refine wp_ifn qf_108 ?_
            refine wp_of (f_L_law_3388.eq_1 ..) ?_
            refine wp_of (f_L_law_3632.eq_1 ..) ?_
            refine wp_lt qf_21 ?_
            exact hrc _
      · skip
        refine wp_gd (gZi ql_Z_16 qf_89) ?_
        refine wp_lt (gRk qf_36 ql_R_16_1) ?_
        refine wp_of (f_X8_deckAt_23.eq_1 ..) ?_
        refine wp_ret_bd ?_
        refine wp_ifn qf_90 ?_
        refine wp_ret_bd ?_
        refine wp_bd ?_
        refine wp_of (f_X10_isIn.eq_1 ..) ?_
        refine wp_if (fun c3 => ?_) (fun c3 => ?_)
        · skip
          refine wp_of (f_X10_isIn_14.eq_1 ..) ?_
          refine wp_of (f_X10_isIn_15.eq_1 ..) ?_
          refine wp_gd qf_14 ?_
          refine wp_ret_bd ?_
          refine wp_bd ?_
          refine wp_of (f_X10_demand.eq_1 ..) ?_
          refine wp_ifp qf_15 ?_
          refine wp_rs_bd ?_
          refine wp_rs_bdc ?_
          refine wp_ifn qf_104 ?_
          refine wp_ifp qf_16 ?_
          refine wp_ret_bd ?_
          refine wp_gd qf_0 ?_
          refine wp_lt (xsk qf_1 hy1) ?_
          refine wp_gd qf_2 ?_
          refine wp_lt (xsk qf_3 hy2) ?_
          refine wp_gd ql_K_149 ?_
          refine wp_bd ?_
          refine wp_of (f_X13_skip.eq_1 ..) ?_
          refine wp_bd ?_
          refine wp_of (f_X13_isDeck.eq_1 ..) ?_
          refine wp_bd ?_
          refine wp_of (f_X13_isBetween.eq_1 ..) ?_
          refine wp_ifn qf_33 ?_
          refine wp_ifn qf_91 ?_
          refine wp_of (f_X13_isBetween_15.eq_1 ..) ?_
          refine wp_gd qf_18 ?_
          refine wp_ret_bd ?_
          refine wp_gd qf_18 ?_
          refine wp_ret_bd ?_
          refine wp_ifn qf_19 ?_
          refine wp_bd ?_
          refine wp_of (f_X13_isBetween.eq_1 ..) ?_
          refine wp_ifp c3 ?_
          refine wp_of (f_X13_isBetween_14.eq_1 ..) ?_
          refine wp_of (f_X13_isBetween_15.eq_1 ..) ?_
          refine wp_gd qf_14 ?_
          refine wp_ret_bd ?_
          refine wp_ifp qf_15 ?_
          refine wp_of (f_X13_skip_39.eq_1 ..) ?_
          refine wp_gd ql_K_149 ?_
          refine wp_bd ?_
          refine wp_of (f_X13_isWrong.eq_1 ..) ?_
          refine wp_gd ql_K_149 ?_
          refine wp_zI ?_
          refine wp_ifn qf_100 ?_
          refine wp_of (f_X13_isWrong_14.eq_1 ..) ?_
          refine wp_gd qf_18 ?_
          refine wp_ret_bd ?_
          refine wp_ifn qf_19 ?_
          refine wp_ret_bd ?_
          refine wp_gd ql_K_149 ?_
          refine wp_bd ?_
          refine wp_of (f_X13_thrown.eq_1 ..) ?_
          refine wp_gd ql_K_149 ?_
          refine wp_lt gI_s ?_
          refine wp_ret_bd ?_
          refine wp_ifp qf_101 ?_
          refine wp_ifn qf_102 ?_
          refine wp_of (f_L_law_3388.eq_1 ..) ?_
          refine wp_of (f_L_law_3632.eq_1 ..) ?_
          refine wp_lt qf_21 ?_
          exact hrc _
        · skip
          refine wp_if (fun c4 => ?_) (fun c4 => ?_)
          · skip
            refine wp_of (f_X10_isIn_14.eq_1 ..) ?_
            refine wp_of (f_X10_isIn_15.eq_1 ..) ?_
            refine wp_gd qf_14 ?_
            refine wp_ret_bd ?_
            refine wp_bd ?_
            refine wp_of (f_X10_demand.eq_1 ..) ?_
            refine wp_ifp qf_15 ?_
            refine wp_rs_bd ?_
            refine wp_rs_bdc ?_
            refine wp_ifn qf_104 ?_
            refine wp_ifp qf_16 ?_
            refine wp_ret_bd ?_
            refine wp_gd qf_0 ?_
            refine wp_lt (xsk qf_1 hy1) ?_
            refine wp_gd qf_2 ?_
            refine wp_lt (xsk qf_3 hy2) ?_
            refine wp_gd ql_K_149 ?_
            refine wp_bd ?_
            refine wp_of (f_X13_skip.eq_1 ..) ?_
            refine wp_bd ?_
            refine wp_of (f_X13_isDeck.eq_1 ..) ?_
            refine wp_bd ?_
            refine wp_of (f_X13_isBetween.eq_1 ..) ?_
            refine wp_ifn qf_33 ?_
            refine wp_ifn qf_91 ?_
            refine wp_of (f_X13_isBetween_15.eq_1 ..) ?_
            refine wp_gd qf_18 ?_
            refine wp_ret_bd ?_
            refine wp_gd qf_18 ?_
            refine wp_ret_bd ?_
            refine wp_ifn qf_19 ?_
            refine wp_bd ?_
            refine wp_of (f_X13_isBetween.eq_1 ..) ?_
            refine wp_ifn c3 ?_
            refine wp_ifp c4 ?_
            refine wp_of (f_X13_isBetween_14.eq_1 ..) ?_
            refine wp_of (f_X13_isBetween_15.eq_1 ..) ?_
            refine wp_gd qf_14 ?_
            refine wp_ret_bd ?_
            refine wp_ifp qf_15 ?_
            refine wp_of (f_X13_skip_39.eq_1 ..) ?_
            refine wp_gd ql_K_149 ?_
            refine wp_bd ?_
            refine wp_of (f_X13_isWrong.eq_1 ..) ?_
            refine wp_gd ql_K_149 ?_
            refine wp_zI ?_
            refine wp_ifn qf_100 ?_
            refine wp_of (f_X13_isWrong_14.eq_1 ..) ?_
            refine wp_gd qf_18 ?_
            refine wp_ret_bd ?_
            refine wp_ifn qf_19 ?_
            refine wp_ret_bd ?_
            refine wp_gd ql_K_149 ?_
            refine wp_bd ?_
            refine wp_of (f_X13_thrown.eq_1 ..) ?_
            refine wp_gd ql_K_149 ?_
            refine wp_lt gI_s ?_
            refine wp_ret_bd ?_
            refine wp_ifp qf_101 ?_
            refine wp_ifn qf_102 ?_
            refine wp_of (f_L_law_3388.eq_1 ..) ?_
            refine wp_of (f_L_law_3632.eq_1 ..) ?_
            refine wp_lt qf_21 ?_
            exact hrc _
          · skip
            refine wp_of (f_X10_isIn_15.eq_1 ..) ?_
            refine wp_gd qf_18 ?_
            refine wp_ret_bd ?_
            refine wp_bd ?_
            refine wp_of (f_X10_demand.eq_1 ..) ?_
            refine wp_ifn qf_19 ?_
            refine wp_ret_bd ?_
            refine wp_bd ?_
            refine wp_of (f_X10_demandRecord.eq_1 ..) ?_
            refine wp_gd ql_K_25 ?_
            refine wp_lt ql_R_25_2 ?_
            refine wp_ifp qf_77 ?_
            refine wp_rs_bd ?_
            refine wp_rs_bdc ?_
            refine wp_ifn qf_98 ?_
            refine wp_ifn qf_105 ?_
            refine wp_ifp qf_99 ?_
            refine wp_ret_bd ?_
            refine wp_gd qf_0 ?_
            refine wp_lt (xsk qf_1 hy1) ?_
            refine wp_gd qf_2 ?_
            refine wp_lt (xsk qf_3 hy2) ?_
            refine wp_gd ql_K_149 ?_
            refine wp_bd ?_
            refine wp_of (f_X13_skip.eq_1 ..) ?_
            refine wp_bd ?_
            refine wp_of (f_X13_isDeck.eq_1 ..) ?_
            refine wp_bd ?_
            refine wp_of (f_X13_isBetween.eq_1 ..) ?_
            refine wp_ifn qf_33 ?_
            refine wp_ifn qf_91 ?_
            refine wp_of (f_X13_isBetween_15.eq_1 ..) ?_
            refine wp_gd qf_18 ?_
            refine wp_ret_bd ?_
            refine wp_gd qf_18 ?_
            refine wp_ret_bd ?_
            refine wp_ifn qf_19 ?_
            refine wp_bd ?_
            refine wp_of (f_X13_isBetween.eq_1 ..) ?_
            refine wp_ifn c3 ?_
            refine wp_ifn c4 ?_
            refine wp_of (f_X13_isBetween_15.eq_1 ..) ?_
            refine wp_gd qf_18 ?_
            refine wp_ret_bd ?_
            refine wp_ifn qf_19 ?_
            refine wp_gd ql_K_149 ?_
            refine wp_bd ?_
            refine wp_of (f_X13_isEmpty.eq_1 ..) ?_
            refine wp_gd ql_K_149 ?_
            refine wp_lt ql_R_149_2 ?_
            refine wp_gd ql_K_151 ?_
            refine wp_gd (gZi ql_Z_151 qf_89) ?_
            refine wp_lt (gRk qf_36 ql_R_151_1) ?_
            refine wp_gd ql_K_156 ?_
            refine wp_lt ql_R_156_0 ?_
            refine wp_ifp qf_77 ?_
            refine wp_of (f_X13_isEmpty_17.eq_1 ..) ?_
            refine wp_gd qf_18 ?_
            refine wp_ret_bd ?_
            refine wp_ifn qf_19 ?_
            refine wp_of (f_X13_skip_39.eq_1 ..) ?_
            refine wp_gd ql_K_149 ?_
            refine wp_bd ?_
            refine wp_of (f_X13_isWrong.eq_1 ..) ?_
            refine wp_gd ql_K_149 ?_
            refine wp_zI ?_
            refine wp_ifn qf_106 ?_
            refine wp_of (f_X13_isWrong_14.eq_1 ..) ?_
            refine wp_gd qf_18 ?_
            refine wp_ret_bd ?_
            refine wp_ifn qf_19 ?_
            refine wp_ret_bd ?_
            refine wp_gd ql_K_149 ?_
            refine wp_bd ?_
            refine wp_of (f_X13_thrown.eq_1 ..) ?_
            refine wp_gd ql_K_149 ?_
            refine wp_lt gI_s ?_
            refine wp_ret_bd ?_
            refine wp_ifp qf_107 ?_
            refine wp_ifn qf_108 ?_
            refine wp_of (f_L_law_3388.eq_1 ..) ?_
            refine wp_of (f_L_law_3632.eq_1 ..) ?_
            refine wp_lt qf_21 ?_
            exact hrc _
      · skip
        refine wp_gd (gZi ql_Z_16 qf_92) ?_
        refine wp_lt (gRk qf_41 ql_R_16_2) ?_
        refine wp_of (f_X8_deckAt_23.eq_1 ..) ?_
        refine wp_ret_bd ?_
        refine wp_ifn qf_93 ?_
        refine wp_ret_bd ?_
        refine wp_bd ?_
        refine wp_of (f_X10_isIn.eq_1 ..) ?_
        refine wp_if (fun c3 => ?_) (fun c3 => ?_)
        · skip
          refine wp_of (f_X10_isIn_14.eq_1 ..) ?_
          refine wp_of (f_X10_isIn_15.eq_1 ..) ?_
          refine wp_gd qf_14 ?_
          refine wp_ret_bd ?_
          refine wp_bd ?_
          refine wp_of (f_X10_demand.eq_1 ..) ?_
          refine wp_ifp qf_15 ?_
          refine wp_rs_bd ?_
          refine wp_rs_bdc ?_
          refine wp_ifn qf_104 ?_
          refine wp_ifp qf_16 ?_
          refine wp_ret_bd ?_
          refine wp_gd qf_0 ?_
          refine wp_lt (xsk qf_1 hy1) ?_
          refine wp_gd qf_2 ?_
          refine wp_lt (xsk qf_3 hy2) ?_
          refine wp_gd ql_K_149 ?_
          refine wp_bd ?_
          refine wp_of (f_X13_skip.eq_1 ..) ?_
          refine wp_bd ?_
          refine wp_of (f_X13_isDeck.eq_1 ..) ?_
          refine wp_bd ?_
          refine wp_of (f_X13_isBetween.eq_1 ..) ?_
          refine wp_ifn qf_38 ?_
          refine wp_ifn qf_94 ?_
          refine wp_of (f_X13_isBetween_15.eq_1 ..) ?_
          refine wp_gd qf_18 ?_
          refine wp_ret_bd ?_
          refine wp_gd qf_18 ?_
          refine wp_ret_bd ?_
          refine wp_ifn qf_19 ?_
          refine wp_bd ?_
          refine wp_of (f_X13_isBetween.eq_1 ..) ?_
          refine wp_ifp c3 ?_
          refine wp_of (f_X13_isBetween_14.eq_1 ..) ?_
          refine wp_of (f_X13_isBetween_15.eq_1 ..) ?_
          refine wp_gd qf_14 ?_
          refine wp_ret_bd ?_
          refine wp_ifp qf_15 ?_
          refine wp_of (f_X13_skip_39.eq_1 ..) ?_
          refine wp_gd ql_K_149 ?_
          refine wp_bd ?_
          refine wp_of (f_X13_isWrong.eq_1 ..) ?_
          refine wp_gd ql_K_149 ?_
          refine wp_zI ?_
          refine wp_ifn qf_100 ?_
          refine wp_of (f_X13_isWrong_14.eq_1 ..) ?_
          refine wp_gd qf_18 ?_
          refine wp_ret_bd ?_
          refine wp_ifn qf_19 ?_
          refine wp_ret_bd ?_
          refine wp_gd ql_K_149 ?_
          refine wp_bd ?_
          refine wp_of (f_X13_thrown.eq_1 ..) ?_
          refine wp_gd ql_K_149 ?_
          refine wp_lt gI_s ?_
          refine wp_ret_bd ?_
          refine wp_ifp qf_101 ?_
          refine wp_ifn qf_102 ?_
          refine wp_of (f_L_law_3388.eq_1 ..) ?_
          refine wp_of (f_L_law_3632.eq_1 ..) ?_
          refine wp_lt qf_21 ?_
          exact hrc _
        · skip
          refine wp_if (fun c4 => ?_) (fun c4 => ?_)
          · skip
            refine wp_of (f_X10_isIn_14.eq_1 ..) ?_
            refine wp_of (f_X10_isIn_15.eq_1 ..) ?_
            refine wp_gd qf_14 ?_
            refine wp_ret_bd ?_
            refine wp_bd ?_
            refine wp_of (f_X10_demand.eq_1 ..) ?_
            refine wp_ifp qf_15 ?_
            refine wp_rs_bd ?_
            refine wp_rs_bdc ?_
            refine wp_ifn qf_104 ?_
            refine wp_ifp qf_16 ?_
            refine wp_ret_bd ?_
            refine wp_gd qf_0 ?_
            refine wp_lt (xsk qf_1 hy1) ?_
            refine wp_gd qf_2 ?_
            refine wp_lt (xsk qf_3 hy2) ?_
            refine wp_gd ql_K_149 ?_
            refine wp_bd ?_
            refine wp_of (f_X13_skip.eq_1 ..) ?_
            refine wp_bd ?_
            refine wp_of (f_X13_isDeck.eq_1 ..) ?_
            refine wp_bd ?_
            refine wp_of (f_X13_isBetween.eq_1 ..) ?_
            refine wp_ifn qf_38 ?_
            refine wp_ifn qf_94 ?_
            refine wp_of (f_X13_isBetween_15.eq_1 ..) ?_
            refine wp_gd qf_18 ?_
            refine wp_ret_bd ?_
            refine wp_gd qf_18 ?_
            refine wp_ret_bd ?_
            refine wp_ifn qf_19 ?_
            refine wp_bd ?_
            refine wp_of (f_X13_isBetween.eq_1 ..) ?_
            refine wp_ifn c3 ?_
            refine wp_ifp c4 ?_
            refine wp_of (f_X13_isBetween_14.eq_1 ..) ?_
            refine wp_of (f_X13_isBetween_15.eq_1 ..) ?_
            refine wp_gd qf_14 ?_
            refine wp_ret_bd ?_
            refine wp_ifp qf_15 ?_
            refine wp_of (f_X13_skip_39.eq_1 ..) ?_
            refine wp_gd ql_K_149 ?_
            refine wp_bd ?_
            refine wp_of (f_X13_isWrong.eq_1 ..) ?_
            refine wp_gd ql_K_149 ?_
            refine wp_zI ?_
            refine wp_ifn qf_100 ?_
            refine wp_of (f_X13_isWrong_14.eq_1 ..) ?_
            refine wp_gd qf_18 ?_
            refine wp_ret_bd ?_
            refine wp_ifn qf_19 ?_
            refine wp_ret_bd ?_
            refine wp_gd ql_K_149 ?_
            refine wp_bd ?_
            refine wp_of (f_X13_thrown.eq_1 ..) ?_
            refine wp_gd ql_K_149 ?_
            refine wp_lt gI_s ?_
            refine wp_ret_bd ?_
            refine wp_ifp qf_101 ?_
            refine wp_ifn qf_102 ?_
            refine wp_of (f_L_law_3388.eq_1 ..) ?_
            refine wp_of (f_L_law_3632.eq_1 ..) ?_
            refine wp_lt qf_21 ?_
            exact hrc _
          · skip
            refine wp_of (f_X10_isIn_15.eq_1 ..) ?_
            refine wp_gd qf_18 ?_
            refine wp_ret_bd ?_
            refine wp_bd ?_
            refine wp_of (f_X10_demand.eq_1 ..) ?_
            refine wp_ifn qf_19 ?_
            refine wp_ret_bd ?_
            refine wp_bd ?_
            refine wp_of (f_X10_demandRecord.eq_1 ..) ?_
            refine wp_gd ql_K_33 ?_
            refine wp_lt ql_R_33_2 ?_
            refine wp_ifp qf_77 ?_
            refine wp_rs_bd ?_
            refine wp_rs_bdc ?_
            refine wp_ifn qf_98 ?_
            refine wp_ifn qf_105 ?_
            refine wp_ifp qf_99 ?_
            refine wp_ret_bd ?_
            refine wp_gd qf_0 ?_
            refine wp_lt (xsk qf_1 hy1) ?_
            refine wp_gd qf_2 ?_
            refine wp_lt (xsk qf_3 hy2) ?_
            refine wp_gd ql_K_149 ?_
            refine wp_bd ?_
            refine wp_of (f_X13_skip.eq_1 ..) ?_
            refine wp_bd ?_
            refine wp_of (f_X13_isDeck.eq_1 ..) ?_
            refine wp_bd ?_
            refine wp_of (f_X13_isBetween.eq_1 ..) ?_
            refine wp_ifn qf_38 ?_
            refine wp_ifn qf_94 ?_
            refine wp_of (f_X13_isBetween_15.eq_1 ..) ?_
            refine wp_gd qf_18 ?_
            refine wp_ret_bd ?_
            refine wp_gd qf_18 ?_
            refine wp_ret_bd ?_
            refine wp_ifn qf_19 ?_
            refine wp_bd ?_
            refine wp_of (f_X13_isBetween.eq_1 ..) ?_
            refine wp_ifn c3 ?_
            refine wp_ifn c4 ?_
            refine wp_of (f_X13_isBetween_15.eq_1 ..) ?_
            refine wp_gd qf_18 ?_
            refine wp_ret_bd ?_
            refine wp_ifn qf_19 ?_
            refine wp_gd ql_K_149 ?_
            refine wp_bd ?_
            refine wp_of (f_X13_isEmpty.eq_1 ..) ?_
            refine wp_gd ql_K_149 ?_
            refine wp_lt ql_R_149_2 ?_
            refine wp_gd ql_K_151 ?_
            refine wp_gd (gZi ql_Z_151 qf_92) ?_
            refine wp_lt (gRk qf_41 ql_R_151_2) ?_
            refine wp_gd ql_K_160 ?_
            refine wp_lt ql_R_160_0 ?_
            refine wp_ifp qf_77 ?_
            refine wp_of (f_X13_isEmpty_17.eq_1 ..) ?_
            refine wp_gd qf_18 ?_
            refine wp_ret_bd ?_
            refine wp_ifn qf_19 ?_
            refine wp_of (f_X13_skip_39.eq_1 ..) ?_
            refine wp_gd ql_K_149 ?_
            refine wp_bd ?_
            refine wp_of (f_X13_isWrong.eq_1 ..) ?_
            refine wp_gd ql_K_149 ?_
            refine wp_zI ?_
            refine wp_ifn qf_106 ?_
            refine wp_of (f_X13_isWrong_14.eq_1 ..) ?_
            refine wp_gd qf_18 ?_
            refine wp_ret_bd ?_
            refine wp_ifn qf_19 ?_
            refine wp_ret_bd ?_
            refine wp_gd ql_K_149 ?_
            refine wp_bd ?_
            refine wp_of (f_X13_thrown.eq_1 ..) ?_
            refine wp_gd ql_K_149 ?_
            refine wp_lt gI_s ?_
            refine wp_ret_bd ?_
            refine wp_ifp qf_107 ?_
            refine wp_ifn qf_108 ?_
            refine wp_of (f_L_law_3388.eq_1 ..) ?_
            refine wp_of (f_L_law_3632.eq_1 ..) ?_
            refine wp_lt qf_21 ?_
            exact hrc _
      · skip
        refine wp_gd (gZi ql_Z_16 qf_95) ?_
        refine wp_lt (gRk qf_46 ql_R_16_3) ?_
        refine wp_of (f_X8_deckAt_23.eq_1 ..) ?_
        refine wp_ret_bd ?_
        refine wp_ifn qf_96 ?_
        refine wp_ret_bd ?_
        refine wp_bd ?_
        refine wp_of (f_X10_isIn.eq_1 ..) ?_
        refine wp_if (fun c3 => ?_) (fun c3 => ?_)
        · skip
          refine wp_of (f_X10_isIn_14.eq_1 ..) ?_
          refine wp_of (f_X10_isIn_15.eq_1 ..) ?_
          refine wp_gd qf_14 ?_
          refine wp_ret_bd ?_
          refine wp_bd ?_
          refine wp_of (f_X10_demand.eq_1 ..) ?_
          refine wp_ifp qf_15 ?_
          refine wp_rs_bd ?_
          refine wp_rs_bdc ?_
          refine wp_ifn qf_104 ?_
          refine wp_ifp qf_16 ?_
          refine wp_ret_bd ?_
          refine wp_gd qf_0 ?_
          refine wp_lt (xsk qf_1 hy1) ?_
          refine wp_gd qf_2 ?_
          refine wp_lt (xsk qf_3 hy2) ?_
          refine wp_gd ql_K_149 ?_
          refine wp_bd ?_
          refine wp_of (f_X13_skip.eq_1 ..) ?_
          refine wp_bd ?_
          refine wp_of (f_X13_isDeck.eq_1 ..) ?_
          refine wp_bd ?_
          refine wp_of (f_X13_isBetween.eq_1 ..) ?_
          refine wp_ifn qf_43 ?_
          refine wp_ifn qf_97 ?_
          refine wp_of (f_X13_isBetween_15.eq_1 ..) ?_
          refine wp_gd qf_18 ?_
          refine wp_ret_bd ?_
          refine wp_gd qf_18 ?_
          refine wp_ret_bd ?_
          refine wp_ifn qf_19 ?_
          refine wp_bd ?_
          refine wp_of (f_X13_isBetween.eq_1 ..) ?_
          refine wp_ifp c3 ?_
          refine wp_of (f_X13_isBetween_14.eq_1 ..) ?_
          refine wp_of (f_X13_isBetween_15.eq_1 ..) ?_
          refine wp_gd qf_14 ?_
          refine wp_ret_bd ?_
          refine wp_ifp qf_15 ?_
          refine wp_of (f_X13_skip_39.eq_1 ..) ?_
          refine wp_gd ql_K_149 ?_
          refine wp_bd ?_
          refine wp_of (f_X13_isWrong.eq_1 ..) ?_
          refine wp_gd ql_K_149 ?_
          refine wp_zI ?_
          refine wp_ifn qf_100 ?_
          refine wp_of (f_X13_isWrong_14.eq_1 ..) ?_
          refine wp_gd qf_18 ?_
          refine wp_ret_bd ?_
          refine wp_ifn qf_19 ?_
          refine wp_ret_bd ?_
          refine wp_gd ql_K_149 ?_
          refine wp_bd ?_
          refine wp_of (f_X13_thrown.eq_1 ..) ?_
          refine wp_gd ql_K_149 ?_
          refine wp_lt gI_s ?_
          refine wp_ret_bd ?_
          refine wp_ifp qf_101 ?_
          refine wp_ifn qf_102 ?_
          refine wp_of (f_L_law_3388.eq_1 ..) ?_
          refine wp_of (f_L_law_3632.eq_1 ..) ?_
          refine wp_lt qf_21 ?_
          exact hrc _
        · skip
          refine wp_if (fun c4 => ?_) (fun c4 => ?_)
          · skip
            refine wp_of (f_X10_isIn_14.eq_1 ..) ?_
            refine wp_of (f_X10_isIn_15.eq_1 ..) ?_
            refine wp_gd qf_14 ?_
            refine wp_ret_bd ?_
            refine wp_bd ?_
            refine wp_of (f_X10_demand.eq_1 ..) ?_
            refine wp_ifp qf_15 ?_
            refine wp_rs_bd ?_
            refine wp_rs_bdc ?_
            refine wp_ifn qf_104 ?_
            refine wp_ifp qf_16 ?_
            refine wp_ret_bd ?_
            refine wp_gd qf_0 ?_
            refine wp_lt (xsk qf_1 hy1) ?_
            refine wp_gd qf_2 ?_
            refine wp_lt (xsk qf_3 hy2) ?_
            refine wp_gd ql_K_149 ?_
            refine wp_bd ?_
            refine wp_of (f_X13_skip.eq_1 ..) ?_
            refine wp_bd ?_
            refine wp_of (f_X13_isDeck.eq_1 ..) ?_
            refine wp_bd ?_
            refine wp_of (f_X13_isBetween.eq_1 ..) ?_
            refine wp_ifn qf_43 ?_
            refine wp_ifn qf_97 ?_
            refine wp_of (f_X13_isBetween_15.eq_1 ..) ?_
            refine wp_gd qf_18 ?_
            refine wp_ret_bd ?_
            refine wp_gd qf_18 ?_
            refine wp_ret_bd ?_
            refine wp_ifn qf_19 ?_
            refine wp_bd ?_
            refine wp_of (f_X13_isBetween.eq_1 ..) ?_
            refine wp_ifn c3 ?_
            refine wp_ifp c4 ?_
            refine wp_of (f_X13_isBetween_14.eq_1 ..) ?_
            refine wp_of (f_X13_isBetween_15.eq_1 ..) ?_
            refine wp_gd qf_14 ?_
            refine wp_ret_bd ?_
            refine wp_ifp qf_15 ?_
            refine wp_of (f_X13_skip_39.eq_1 ..) ?_
            refine wp_gd ql_K_149 ?_
            refine wp_bd ?_
            refine wp_of (f_X13_isWrong.eq_1 ..) ?_
            refine wp_gd ql_K_149 ?_
            refine wp_zI ?_
            refine wp_ifn qf_100 ?_
            refine wp_of (f_X13_isWrong_14.eq_1 ..) ?_
            refine wp_gd qf_18 ?_
            refine wp_ret_bd ?_
            refine wp_ifn qf_19 ?_
            refine wp_ret_bd ?_
            refine wp_gd ql_K_149 ?_
            refine wp_bd ?_
            refine wp_of (f_X13_thrown.eq_1 ..) ?_
            refine wp_gd ql_K_149 ?_
            refine wp_lt gI_s ?_
            refine wp_ret_bd ?_
            refine wp_ifp qf_101 ?_
            refine wp_ifn qf_102 ?_
            refine wp_of (f_L_law_3388.eq_1 ..) ?_
            refine wp_of (f_L_law_3632.eq_1 ..) ?_
            refine wp_lt qf_21 ?_
            exact hrc _
          · skip
            refine wp_of (f_X10_isIn_15.eq_1 ..) ?_
            refine wp_gd qf_18 ?_
            refine wp_ret_bd ?_
            refine wp_bd ?_
            refine wp_of (f_X10_demand.eq_1 ..) ?_
            refine wp_ifn qf_19 ?_
            refine wp_ret_bd ?_
            refine wp_bd ?_
            refine wp_of (f_X10_demandRecord.eq_1 ..) ?_
            refine wp_gd ql_K_41 ?_
            refine wp_lt ql_R_41_2 ?_
            refine wp_ifp qf_77 ?_
            refine wp_rs_bd ?_
            refine wp_rs_bdc ?_
            refine wp_ifn qf_98 ?_
            refine wp_ifn qf_105 ?_
            refine wp_ifp qf_99 ?_
            refine wp_ret_bd ?_
            refine wp_gd qf_0 ?_
            refine wp_lt (xsk qf_1 hy1) ?_
            refine wp_gd qf_2 ?_
            refine wp_lt (xsk qf_3 hy2) ?_
            refine wp_gd ql_K_149 ?_
            refine wp_bd ?_
            refine wp_of (f_X13_skip.eq_1 ..) ?_
            refine wp_bd ?_
            refine wp_of (f_X13_isDeck.eq_1 ..) ?_
            refine wp_bd ?_
            refine wp_of (f_X13_isBetween.eq_1 ..) ?_
            refine wp_ifn qf_43 ?_
            refine wp_ifn qf_97 ?_
            refine wp_of (f_X13_isBetween_15.eq_1 ..) ?_
            refine wp_gd qf_18 ?_
            refine wp_ret_bd ?_
            refine wp_gd qf_18 ?_
            refine wp_ret_bd ?_
            refine wp_ifn qf_19 ?_
            refine wp_bd ?_
            refine wp_of (f_X13_isBetween.eq_1 ..) ?_
            refine wp_ifn c3 ?_
            refine wp_ifn c4 ?_
            refine wp_of (f_X13_isBetween_15.eq_1 ..) ?_
            refine wp_gd qf_18 ?_
            refine wp_ret_bd ?_
            refine wp_ifn qf_19 ?_
            refine wp_gd ql_K_149 ?_
            refine wp_bd ?_
            refine wp_of (f_X13_isEmpty.eq_1 ..) ?_
            refine wp_gd ql_K_149 ?_
            refine wp_lt ql_R_149_2 ?_
            refine wp_gd ql_K_151 ?_
            refine wp_gd (gZi ql_Z_151 qf_95) ?_
            refine wp_lt (gRk qf_46 ql_R_151_3) ?_
            refine wp_gd ql_K_164 ?_
            refine wp_lt ql_R_164_0 ?_
            refine wp_ifp qf_77 ?_
            refine wp_of (f_X13_isEmpty_17.eq_1 ..) ?_
            refine wp_gd qf_18 ?_
            refine wp_ret_bd ?_
            refine wp_ifn qf_19 ?_
            refine wp_of (f_X13_skip_39.eq_1 ..) ?_
            refine wp_gd ql_K_149 ?_
            refine wp_bd ?_
            refine wp_of (f_X13_isWrong.eq_1 ..) ?_
            refine wp_gd ql_K_149 ?_
            refine wp_zI ?_
            refine wp_ifn qf_106 ?_
            refine wp_of (f_X13_isWrong_14.eq_1 ..) ?_
            refine wp_gd qf_18 ?_
            refine wp_ret_bd ?_
            refine wp_ifn qf_19 ?_
            refine wp_ret_bd ?_
            refine wp_gd ql_K_149 ?_
            refine wp_bd ?_
            refine wp_of (f_X13_thrown.eq_1 ..) ?_
            refine wp_gd ql_K_149 ?_
            refine wp_lt gI_s ?_
            refine wp_ret_bd ?_
            refine wp_ifp qf_107 ?_
            refine wp_ifn qf_108 ?_
            refine wp_of (f_L_law_3388.eq_1 ..) ?_
            refine wp_of (f_L_law_3632.eq_1 ..) ?_
            refine wp_lt qf_21 ?_
            exact hrc _
set_option maxRecDepth 100000 in
set_option maxHeartbeats 4000000 in
theorem cs_51 {xs : Nat → Int32} {rc : mS → Nat → Nat → Nat → Nat → Int32 → Option (Rs Int32)} {Q : Rs Int32 → Prop} (hrc : ∀ S, WP Q (rc S 1 149 173 174 8)) : WP Q (f_L_law_3391 8 xs rc (M3I, M3L, M3R, M3D, M3K, M3Z, 174) 1 149 173 174 0) := by
  obtain ⟨y1, hy1⟩ : ∃ y, xs 1 = y := ⟨_, rfl⟩
  refine wp_of (f_L_law_3391.eq_1 ..) ?_
  refine wp_gd qf_0 ?_
  refine wp_lt (xsk qf_1 hy1) ?_
  refine wp_bd ?_
  refine wp_of (f_L_loseStick.eq_1 ..) ?_
  refine wp_gd ql_K_1 ?_
  refine wp_bdc ?_
  refine wp_of (f_X10_loseStick.eq_1 ..) ?_
  refine wp_gd ql_K_1 ?_
  refine wp_bd ?_
  refine wp_of (f_X10_deckOf.eq_1 ..) ?_
  refine wp_gd ql_K_1 ?_
  refine wp_lt ql_R_1_0 ?_
  refine wp_gd ql_K_2 ?_
  refine wp_bd ?_
  refine wp_of (f_X8_deckAt.eq_1 ..) ?_
  refine wp_if (fun c1 => ?_) (fun c1 => ?_)
  · skip
    refine wp_of (f_X8_deckAt_22.eq_1 ..) ?_
    refine wp_of (f_X8_deckAt_23.eq_1 ..) ?_
    refine wp_ret_bd ?_
    refine wp_ifp qf_77 ?_
    refine wp_rs_bd ?_
    refine wp_rs_bdc ?_
    refine wp_ifp qf_78 ?_
    refine wp_ret_bd ?_
    refine wp_gd qf_0 ?_
    refine wp_lt (xsk qf_1 hy1) ?_
    refine wp_gd ql_K_149 ?_
    refine wp_bd ?_
    refine wp_of (f_X13_loseStick.eq_1 ..) ?_
    refine wp_gd ql_K_149 ?_
    refine wp_bd ?_
    refine wp_of (f_X13_isNoRecord.eq_1 ..) ?_
    refine wp_bd ?_
    refine wp_of (f_X13_isDeck.eq_1 ..) ?_
    refine wp_bd ?_
    refine wp_of (f_X13_isBetween.eq_1 ..) ?_
    refine wp_ifp c1 ?_
    refine wp_of (f_X13_isBetween_14.eq_1 ..) ?_
    refine wp_of (f_X13_isBetween_15.eq_1 ..) ?_
    refine wp_gd qf_14 ?_
    refine wp_ret_bd ?_
    refine wp_gd qf_14 ?_
    refine wp_ret_bd ?_
    refine wp_ifp qf_15 ?_
    refine wp_of (f_X13_isNoRecord_25.eq_1 ..) ?_
    refine wp_gd ql_K_149 ?_
    refine wp_bd ?_
    refine wp_of (f_X13_isWrong.eq_1 ..) ?_
    refine wp_gd ql_K_149 ?_
    refine wp_zI ?_
    refine wp_ifn qf_17 ?_
    refine wp_of (f_X13_isWrong_14.eq_1 ..) ?_
    refine wp_gd qf_18 ?_
    refine wp_ret_bd ?_
    refine wp_gd qf_18 ?_
    refine wp_ret_bd ?_
    refine wp_ifn qf_19 ?_
    refine wp_ret_bd ?_
    refine wp_gd ql_K_149 ?_
    refine wp_bd ?_
    refine wp_of (f_X13_thrown.eq_1 ..) ?_
    refine wp_gd ql_K_149 ?_
    refine wp_lt gI_s ?_
    refine wp_ret_bd ?_
    refine wp_ifp qf_20 ?_
    refine wp_ifn qf_19 ?_
    refine wp_of (f_L_law_3444.eq_1 ..) ?_
    refine wp_of (f_L_law_3632.eq_1 ..) ?_
    refine wp_lt qf_21 ?_
    exact hrc _
  · skip
    refine wp_gd ql_K_2 ?_
    refine wp_lt ql_R_2_1 ?_
    refine wp_gd ql_K_16 ?_
    refine wp_lt (gZo ql_Z_16 qf_82) ?_
    refine wp_if (fun c2 => ?_) (fun c2 => ?_)
    · skip
      refine wp_of (f_X8_deckAt_22.eq_1 ..) ?_
      refine wp_of (f_X8_deckAt_23.eq_1 ..) ?_
      refine wp_ret_bd ?_
      refine wp_ifp qf_77 ?_
      refine wp_rs_bd ?_
      refine wp_rs_bdc ?_
      refine wp_ifp qf_78 ?_
      refine wp_ret_bd ?_
      refine wp_gd qf_0 ?_
      refine wp_lt (xsk qf_1 hy1) ?_
      refine wp_gd ql_K_149 ?_
      refine wp_bd ?_
      refine wp_of (f_X13_loseStick.eq_1 ..) ?_
      refine wp_gd ql_K_149 ?_
      refine wp_bd ?_
      refine wp_of (f_X13_isNoRecord.eq_1 ..) ?_
      refine wp_bd ?_
      refine wp_of (f_X13_isDeck.eq_1 ..) ?_
      refine wp_bd ?_
      refine wp_of (f_X13_isBetween.eq_1 ..) ?_
      refine wp_ifn c1 ?_
      refine wp_ifp (show ((3 : Int32) < y1) from by have e0 := qf_80; have e1 := qf_83; have e2 := qf_84; simp only [Int32.lt_iff_toInt_lt, Int32.le_iff_toInt_le, ← Int32.toInt_inj] at c1 c2 ⊢; omega) ?_
      refine wp_of (f_X13_isBetween_14.eq_1 ..) ?_
      refine wp_of (f_X13_isBetween_15.eq_1 ..) ?_
      refine wp_gd qf_14 ?_
      refine wp_ret_bd ?_
      refine wp_gd qf_14 ?_
      refine wp_ret_bd ?_
      refine wp_ifp qf_15 ?_
      refine wp_of (f_X13_isNoRecord_25.eq_1 ..) ?_
      refine wp_gd ql_K_149 ?_
      refine wp_bd ?_
      refine wp_of (f_X13_isWrong.eq_1 ..) ?_
      refine wp_gd ql_K_149 ?_
      refine wp_zI ?_
      refine wp_ifn qf_17 ?_
      refine wp_of (f_X13_isWrong_14.eq_1 ..) ?_
      refine wp_gd qf_18 ?_
      refine wp_ret_bd ?_
      refine wp_gd qf_18 ?_
      refine wp_ret_bd ?_
      refine wp_ifn qf_19 ?_
      refine wp_ret_bd ?_
      refine wp_gd ql_K_149 ?_
      refine wp_bd ?_
      refine wp_of (f_X13_thrown.eq_1 ..) ?_
      refine wp_gd ql_K_149 ?_
      refine wp_lt gI_s ?_
      refine wp_ret_bd ?_
      refine wp_ifp qf_20 ?_
      refine wp_ifn qf_19 ?_
      refine wp_of (f_L_law_3444.eq_1 ..) ?_
      refine wp_of (f_L_law_3632.eq_1 ..) ?_
      refine wp_lt qf_21 ?_
      exact hrc _
    · skip
      refine wp_lt ql_R_2_1 ?_
      refine wp_gd ql_K_16 ?_
      rcases (show y1 = (0 : Int32) ∨ y1 = (1 : Int32) ∨ y1 = (2 : Int32) ∨ y1 = (3 : Int32) from by have e0 := qf_80; have e1 := qf_85; have e2 := qf_86; have e3 := qf_83; have e4 := qf_84; simp only [Int32.lt_iff_toInt_lt, Int32.le_iff_toInt_le] at c1 c2; simp only [← Int32.toInt_inj]; omega) with rfl | rfl | rfl | rfl
      · skip
        refine wp_gd (gZi ql_Z_16 qf_87) ?_
        refine wp_lt (gRk qf_32 ql_R_16_0) ?_
        refine wp_of (f_X8_deckAt_23.eq_1 ..) ?_
        refine wp_ret_bd ?_
        refine wp_ifn qf_88 ?_
        refine wp_ret_bd ?_
        refine wp_bd ?_
        refine wp_of (f_X10_demandRecord.eq_1 ..) ?_
        refine wp_gd ql_K_17 ?_
        refine wp_lt ql_R_17_2 ?_
        refine wp_ifp qf_77 ?_
        refine wp_rs_bd ?_
        refine wp_rs_bdc ?_
        refine wp_ifn qf_98 ?_
        refine wp_ifp qf_99 ?_
        refine wp_ret_bd ?_
        refine wp_gd qf_0 ?_
        refine wp_lt (xsk qf_1 hy1) ?_
        refine wp_gd ql_K_149 ?_
        refine wp_bd ?_
        refine wp_of (f_X13_loseStick.eq_1 ..) ?_
        refine wp_gd ql_K_149 ?_
        refine wp_bd ?_
        refine wp_of (f_X13_isNoRecord.eq_1 ..) ?_
        refine wp_bd ?_
        refine wp_of (f_X13_isDeck.eq_1 ..) ?_
        refine wp_bd ?_
        refine wp_of (f_X13_isBetween.eq_1 ..) ?_
        refine wp_ifn qf_28 ?_
        refine wp_ifn qf_43 ?_
        refine wp_of (f_X13_isBetween_15.eq_1 ..) ?_
        refine wp_gd qf_18 ?_
        refine wp_ret_bd ?_
        refine wp_gd qf_18 ?_
        refine wp_ret_bd ?_
        refine wp_ifn qf_19 ?_
        refine wp_gd ql_K_149 ?_
        refine wp_bd ?_
        refine wp_of (f_X13_isEmpty.eq_1 ..) ?_
        refine wp_gd ql_K_149 ?_
        refine wp_lt ql_R_149_2 ?_
        refine wp_gd ql_K_151 ?_
        refine wp_gd (gZi ql_Z_151 qf_87) ?_
        refine wp_lt (gRk qf_32 ql_R_151_0) ?_
        refine wp_gd ql_K_152 ?_
        refine wp_lt ql_R_152_0 ?_
        refine wp_ifp qf_77 ?_
        refine wp_of (f_X13_isEmpty_17.eq_1 ..) ?_
        refine wp_gd qf_18 ?_
        refine wp_ret_bd ?_
        refine wp_ifn qf_19 ?_
        refine wp_of (f_X13_isNoRecord_25.eq_1 ..) ?_
        refine wp_gd ql_K_149 ?_
        refine wp_bd ?_
        refine wp_of (f_X13_isWrong.eq_1 ..) ?_
        refine wp_gd ql_K_149 ?_
        refine wp_zI ?_
        refine wp_ifn qf_100 ?_
        refine wp_of (f_X13_isWrong_14.eq_1 ..) ?_
        refine wp_gd qf_18 ?_
        refine wp_ret_bd ?_
        refine wp_gd qf_18 ?_
        refine wp_ret_bd ?_
        refine wp_ifn qf_19 ?_
        refine wp_ret_bd ?_
        refine wp_gd ql_K_149 ?_
        refine wp_bd ?_
        refine wp_of (f_X13_thrown.eq_1 ..) ?_
        refine wp_gd ql_K_149 ?_
        refine wp_lt gI_s ?_
        refine wp_ret_bd ?_
        refine wp_ifp qf_101 ?_
        refine wp_ifn qf_102 ?_
        refine wp_of (f_L_law_3444.eq_1 ..) ?_
        refine wp_of (f_L_law_3632.eq_1 ..) ?_
        refine wp_lt qf_21 ?_
        exact hrc _
      · skip
        refine wp_gd (gZi ql_Z_16 qf_89) ?_
        refine wp_lt (gRk qf_36 ql_R_16_1) ?_
        refine wp_of (f_X8_deckAt_23.eq_1 ..) ?_
        refine wp_ret_bd ?_
        refine wp_ifn qf_90 ?_
        refine wp_ret_bd ?_
        refine wp_bd ?_
        refine wp_of (f_X10_demandRecord.eq_1 ..) ?_
        refine wp_gd ql_K_25 ?_
        refine wp_lt ql_R_25_2 ?_
        refine wp_ifp qf_77 ?_
        refine wp_rs_bd ?_
        refine wp_rs_bdc ?_
        refine wp_ifn qf_98 ?_
        refine wp_ifp qf_99 ?_
        refine wp_ret_bd ?_
        refine wp_gd qf_0 ?_
        refine wp_lt (xsk qf_1 hy1) ?_
        refine wp_gd ql_K_149 ?_
        refine wp_bd ?_
        refine wp_of (f_X13_loseStick.eq_1 ..) ?_
        refine wp_gd ql_K_149 ?_
        refine wp_bd ?_
        refine wp_of (f_X13_isNoRecord.eq_1 ..) ?_
        refine wp_bd ?_
        refine wp_of (f_X13_isDeck.eq_1 ..) ?_
        refine wp_bd ?_
        refine wp_of (f_X13_isBetween.eq_1 ..) ?_
        refine wp_ifn qf_33 ?_
        refine wp_ifn qf_91 ?_
        refine wp_of (f_X13_isBetween_15.eq_1 ..) ?_
        refine wp_gd qf_18 ?_
        refine wp_ret_bd ?_
        refine wp_gd qf_18 ?_
        refine wp_ret_bd ?_
        refine wp_ifn qf_19 ?_
        refine wp_gd ql_K_149 ?_
        refine wp_bd ?_
        refine wp_of (f_X13_isEmpty.eq_1 ..) ?_
        refine wp_gd ql_K_149 ?_
        refine wp_lt ql_R_149_2 ?_
        refine wp_gd ql_K_151 ?_
        refine wp_gd (gZi ql_Z_151 qf_89) ?_
        refine wp_lt (gRk qf_36 ql_R_151_1) ?_
        refine wp_gd ql_K_156 ?_
        refine wp_lt ql_R_156_0 ?_
        refine wp_ifp qf_77 ?_
        refine wp_of (f_X13_isEmpty_17.eq_1 ..) ?_
        refine wp_gd qf_18 ?_
        refine wp_ret_bd ?_
        refine wp_ifn qf_19 ?_
        refine wp_of (f_X13_isNoRecord_25.eq_1 ..) ?_
        refine wp_gd ql_K_149 ?_
        refine wp_bd ?_
        refine wp_of (f_X13_isWrong.eq_1 ..) ?_
        refine wp_gd ql_K_149 ?_
        refine wp_zI ?_
        refine wp_ifn qf_100 ?_
        refine wp_of (f_X13_isWrong_14.eq_1 ..) ?_
        refine wp_gd qf_18 ?_
        refine wp_ret_bd ?_
        refine wp_gd qf_18 ?_
        refine wp_ret_bd ?_
        refine wp_ifn qf_19 ?_
        refine wp_ret_bd ?_
        refine wp_gd ql_K_149 ?_
        refine wp_bd ?_
        refine wp_of (f_X13_thrown.eq_1 ..) ?_
        refine wp_gd ql_K_149 ?_
        refine wp_lt gI_s ?_
        refine wp_ret_bd ?_
        refine wp_ifp qf_101 ?_
        refine wp_ifn qf_102 ?_
        refine wp_of (f_L_law_3444.eq_1 ..) ?_
        refine wp_of (f_L_law_3632.eq_1 ..) ?_
        refine wp_lt qf_21 ?_
        exact hrc _
      · skip
        refine wp_gd (gZi ql_Z_16 qf_92) ?_
        refine wp_lt (gRk qf_41 ql_R_16_2) ?_
        refine wp_of (f_X8_deckAt_23.eq_1 ..) ?_
        refine wp_ret_bd ?_
        refine wp_ifn qf_93 ?_
        refine wp_ret_bd ?_
        refine wp_bd ?_
        refine wp_of (f_X10_demandRecord.eq_1 ..) ?_
        refine wp_gd ql_K_33 ?_
        refine wp_lt ql_R_33_2 ?_
        refine wp_ifp qf_77 ?_
        refine wp_rs_bd ?_
        refine wp_rs_bdc ?_
        refine wp_ifn qf_98 ?_
        refine wp_ifp qf_99 ?_
        refine wp_ret_bd ?_
        refine wp_gd qf_0 ?_
        refine wp_lt (xsk qf_1 hy1) ?_
        refine wp_gd ql_K_149 ?_
        refine wp_bd ?_
        refine wp_of (f_X13_loseStick.eq_1 ..) ?_
        refine wp_gd ql_K_149 ?_
        refine wp_bd ?_
        refine wp_of (f_X13_isNoRecord.eq_1 ..) ?_
        refine wp_bd ?_
        refine wp_of (f_X13_isDeck.eq_1 ..) ?_
        refine wp_bd ?_
        refine wp_of (f_X13_isBetween.eq_1 ..) ?_
        refine wp_ifn qf_38 ?_
        refine wp_ifn qf_94 ?_
        refine wp_of (f_X13_isBetween_15.eq_1 ..) ?_
        refine wp_gd qf_18 ?_
        refine wp_ret_bd ?_
        refine wp_gd qf_18 ?_
        refine wp_ret_bd ?_
        refine wp_ifn qf_19 ?_
        refine wp_gd ql_K_149 ?_
        refine wp_bd ?_
        refine wp_of (f_X13_isEmpty.eq_1 ..) ?_
        refine wp_gd ql_K_149 ?_
        refine wp_lt ql_R_149_2 ?_
        refine wp_gd ql_K_151 ?_
        refine wp_gd (gZi ql_Z_151 qf_92) ?_
        refine wp_lt (gRk qf_41 ql_R_151_2) ?_
        refine wp_gd ql_K_160 ?_
        refine wp_lt ql_R_160_0 ?_
        refine wp_ifp qf_77 ?_
        refine wp_of (f_X13_isEmpty_17.eq_1 ..) ?_
        refine wp_gd qf_18 ?_
        refine wp_ret_bd ?_
        refine wp_ifn qf_19 ?_
        refine wp_of (f_X13_isNoRecord_25.eq_1 ..) ?_
        refine wp_gd ql_K_149 ?_
        refine wp_bd ?_
        refine wp_of (f_X13_isWrong.eq_1 ..) ?_
        refine wp_gd ql_K_149 ?_
        refine wp_zI ?_
        refine wp_ifn qf_100 ?_
        refine wp_of (f_X13_isWrong_14.eq_1 ..) ?_
        refine wp_gd qf_18 ?_
        refine wp_ret_bd ?_
        refine wp_gd qf_18 ?_
        refine wp_ret_bd ?_
        refine wp_ifn qf_19 ?_
        refine wp_ret_bd ?_
        refine wp_gd ql_K_149 ?_
        refine wp_bd ?_
        refine wp_of (f_X13_thrown.eq_1 ..) ?_
        refine wp_gd ql_K_149 ?_
        refine wp_lt gI_s ?_
        refine wp_ret_bd ?_
        refine wp_ifp qf_101 ?_
        refine wp_ifn qf_102 ?_
        refine wp_of (f_L_law_3444.eq_1 ..) ?_
        refine wp_of (f_L_law_3632.eq_1 ..) ?_
        refine wp_lt qf_21 ?_
        exact hrc _
      · skip
        refine wp_gd (gZi ql_Z_16 qf_95) ?_
        refine wp_lt (gRk qf_46 ql_R_16_3) ?_
        refine wp_of (f_X8_deckAt_23.eq_1 ..) ?_
        refine wp_ret_bd ?_
        refine wp_ifn qf_96 ?_
        refine wp_ret_bd ?_
        refine wp_bd ?_
        refine wp_of (f_X10_demandRecord.eq_1 ..) ?_
        refine wp_gd ql_K_41 ?_
        refine wp_lt ql_R_41_2 ?_
        refine wp_ifp qf_77 ?_
        refine wp_rs_bd ?_
        refine wp_rs_bdc ?_
        refine wp_ifn qf_98 ?_
        refine wp_ifp qf_99 ?_
        refine wp_ret_bd ?_
        refine wp_gd qf_0 ?_
        refine wp_lt (xsk qf_1 hy1) ?_
        refine wp_gd ql_K_149 ?_
        refine wp_bd ?_
        refine wp_of (f_X13_loseStick.eq_1 ..) ?_
        refine wp_gd ql_K_149 ?_
        refine wp_bd ?_
        refine wp_of (f_X13_isNoRecord.eq_1 ..) ?_
        refine wp_bd ?_
        refine wp_of (f_X13_isDeck.eq_1 ..) ?_
        refine wp_bd ?_
        refine wp_of (f_X13_isBetween.eq_1 ..) ?_
        refine wp_ifn qf_43 ?_
        refine wp_ifn qf_97 ?_
        refine wp_of (f_X13_isBetween_15.eq_1 ..) ?_
        refine wp_gd qf_18 ?_
        refine wp_ret_bd ?_
        refine wp_gd qf_18 ?_
        refine wp_ret_bd ?_
        refine wp_ifn qf_19 ?_
        refine wp_gd ql_K_149 ?_
        refine wp_bd ?_
        refine wp_of (f_X13_isEmpty.eq_1 ..) ?_
        refine wp_gd ql_K_149 ?_
        refine wp_lt ql_R_149_2 ?_
        refine wp_gd ql_K_151 ?_
        refine wp_gd (gZi ql_Z_151 qf_95) ?_
        refine wp_lt (gRk qf_46 ql_R_151_3) ?_
        refine wp_gd ql_K_164 ?_
        refine wp_lt ql_R_164_0 ?_
        refine wp_ifp qf_77 ?_
        refine wp_of (f_X13_isEmpty_17.eq_1 ..) ?_
        refine wp_gd qf_18 ?_
        refine wp_ret_bd ?_
        refine wp_ifn qf_19 ?_
        refine wp_of (f_X13_isNoRecord_25.eq_1 ..) ?_
        refine wp_gd ql_K_149 ?_
        refine wp_bd ?_
        refine wp_of (f_X13_isWrong.eq_1 ..) ?_
        refine wp_gd ql_K_149 ?_
        refine wp_zI ?_
        refine wp_ifn qf_100 ?_
        refine wp_of (f_X13_isWrong_14.eq_1 ..) ?_
        refine wp_gd qf_18 ?_
        refine wp_ret_bd ?_
        refine wp_gd qf_18 ?_
        refine wp_ret_bd ?_
        refine wp_ifn qf_19 ?_
        refine wp_ret_bd ?_
        refine wp_gd ql_K_149 ?_
        refine wp_bd ?_
        refine wp_of (f_X13_thrown.eq_1 ..) ?_
        refine wp_gd ql_K_149 ?_
        refine wp_lt gI_s ?_
        refine wp_ret_bd ?_
        refine wp_ifp qf_101 ?_
        refine wp_ifn qf_102 ?_
        refine wp_of (f_L_law_3444.eq_1 ..) ?_
        refine wp_of (f_L_law_3632.eq_1 ..) ?_
        refine wp_lt qf_21 ?_
        exact hrc _
set_option maxRecDepth 100000 in
set_option maxHeartbeats 4000000 in
theorem cs_52 {xs : Nat → Int32} {rc : mS → Nat → Nat → Nat → Nat → Int32 → Option (Rs Int32)} {Q : Rs Int32 → Prop} (hrc : ∀ S, WP Q (rc S 1 149 173 174 8)) : WP Q (f_L_law_3447 8 xs rc (M3I, M3L, M3R, M3D, M3K, M3Z, 174) 1 149 173 174 0) := by
  refine wp_of (f_L_law_3447.eq_1 ..) ?_
  refine wp_gd ql_K_1 ?_
  refine wp_bd ?_
  refine wp_of (f_X10_logged.eq_1 ..) ?_
  refine wp_gd ql_K_1 ?_
  refine wp_lt ql_R_1_2 ?_
  refine wp_gd ql_K_106 ?_
  refine wp_lt ql_I_106_2 ?_
  refine wp_ret_bd ?_
  refine wp_gd ql_K_149 ?_
  refine wp_bd ?_
  refine wp_of (f_X13_logged.eq_1 ..) ?_
  refine wp_gd ql_K_149 ?_
  refine wp_lt ql_I_149_16 ?_
  refine wp_bd ?_
  refine wp_of (f_X13_plain.eq_1 ..) ?_
  refine wp_gd ql_K_149 ?_
  refine wp_zI ?_
  refine wp_ret_bd ?_
  refine wp_ret_bd ?_
  refine wp_ifp qf_15 ?_
  refine wp_of (f_L_law_3632.eq_1 ..) ?_
  refine wp_lt qf_21 ?_
  exact hrc _
set_option maxRecDepth 100000 in
set_option maxHeartbeats 4000000 in
theorem cs_53 {xs : Nat → Int32} {rc : mS → Nat → Nat → Nat → Nat → Int32 → Option (Rs Int32)} {Q : Rs Int32 → Prop} (hrc : ∀ S, WP Q (rc S 1 149 173 174 8)) : WP Q (f_L_law_3460 8 xs rc (M3I, M3L, M3R, M3D, M3K, M3Z, 174) 1 149 173 174 0) := by
  refine wp_of (f_L_law_3460.eq_1 ..) ?_
  refine wp_gd ql_K_1 ?_
  refine wp_bd ?_
  refine wp_of (f_X10_print.eq_1 ..) ?_
  refine wp_gd ql_K_1 ?_
  refine wp_lt ql_R_1_0 ?_
  refine wp_gd ql_K_2 ?_
  refine wp_bd ?_
  refine wp_of (f_X8_fingerprint.eq_1 ..) ?_
  refine wp_of (f_X8_fingerprint_6.eq_2 ..) ?_
  refine wp_gd ql_K_2 ?_
  refine wp_lt ql_R_2_1 ?_
  refine wp_gd ql_K_16 ?_
  refine wp_lt (gZo ql_Z_16 qf_82) ?_
  refine wp_ifn qf_126 ?_
  refine wp_lt qf_449 ?_
  refine wp_lt ql_R_2_1 ?_
  refine wp_gd ql_K_16 ?_
  refine wp_gd (gZi ql_Z_16 qf_87) ?_
  refine wp_lt (gRk qf_32 ql_R_16_0) ?_
  refine wp_gd ql_K_17 ?_
  refine wp_lt ql_L_17_3 ?_
  refine wp_lt qf_450 ?_
  refine wp_lt qf_127 ?_
  refine wp_of (f_X8_fingerprint_6.eq_2 ..) ?_
  refine wp_gd ql_K_2 ?_
  refine wp_lt ql_R_2_1 ?_
  refine wp_gd ql_K_16 ?_
  refine wp_lt (gZo ql_Z_16 qf_82) ?_
  refine wp_ifn qf_128 ?_
  refine wp_lt qf_451 ?_
  refine wp_lt ql_R_2_1 ?_
  refine wp_gd ql_K_16 ?_
  refine wp_gd (gZi ql_Z_16 qf_89) ?_
  refine wp_lt (gRk qf_36 ql_R_16_1) ?_
  refine wp_gd ql_K_25 ?_
  refine wp_lt ql_L_25_3 ?_
  refine wp_lt qf_452 ?_
  refine wp_lt qf_129 ?_
  refine wp_of (f_X8_fingerprint_6.eq_2 ..) ?_
  refine wp_gd ql_K_2 ?_
  refine wp_lt ql_R_2_1 ?_
  refine wp_gd ql_K_16 ?_
  refine wp_lt (gZo ql_Z_16 qf_82) ?_
  refine wp_ifn qf_130 ?_
  refine wp_lt qf_453 ?_
  refine wp_lt ql_R_2_1 ?_
  refine wp_gd ql_K_16 ?_
  refine wp_gd (gZi ql_Z_16 qf_92) ?_
  refine wp_lt (gRk qf_41 ql_R_16_2) ?_
  refine wp_gd ql_K_33 ?_
  refine wp_lt ql_L_33_3 ?_
  refine wp_lt qf_454 ?_
  refine wp_lt qf_131 ?_
  refine wp_of (f_X8_fingerprint_6.eq_2 ..) ?_
  refine wp_gd ql_K_2 ?_
  refine wp_lt ql_R_2_1 ?_
  refine wp_gd ql_K_16 ?_
  refine wp_lt (gZo ql_Z_16 qf_82) ?_
  refine wp_ifn qf_132 ?_
  refine wp_lt qf_455 ?_
  refine wp_lt ql_R_2_1 ?_
  refine wp_gd ql_K_16 ?_
  refine wp_gd (gZi ql_Z_16 qf_95) ?_
  refine wp_lt (gRk qf_46 ql_R_16_3) ?_
  refine wp_gd ql_K_41 ?_
  refine wp_lt ql_L_41_3 ?_
  refine wp_lt qf_456 ?_
  refine wp_lt qf_133 ?_
  refine wp_of (f_X8_fingerprint_6.eq_2 ..) ?_
  refine wp_gd ql_K_2 ?_
  refine wp_lt ql_R_2_1 ?_
  refine wp_gd ql_K_16 ?_
  refine wp_lt (gZo ql_Z_16 qf_82) ?_
  refine wp_ifp qf_134 ?_
  refine wp_lt qf_457 ?_
  refine wp_lt ql_I_2_7 ?_
  refine wp_lt qf_70 ?_
  refine wp_lt qf_458 ?_
  refine wp_lt qf_459 ?_
  refine wp_lt ql_I_2_8 ?_
  refine wp_lt qf_70 ?_
  refine wp_lt qf_460 ?_
  refine wp_lt qf_461 ?_
  refine wp_lt ql_I_2_9 ?_
  refine wp_lt qf_70 ?_
  refine wp_lt qf_462 ?_
  refine wp_lt qf_463 ?_
  refine wp_lt ql_I_2_10 ?_
  refine wp_lt qf_70 ?_
  refine wp_lt qf_464 ?_
  refine wp_lt qf_465 ?_
  refine wp_lt ql_R_2_2 ?_
  refine wp_gd ql_K_49 ?_
  refine wp_bd ?_
  refine wp_of (f_X4_everybody.eq_1 ..) ?_
  refine wp_of (f_X4_everybody_4.eq_2 ..) ?_
  refine wp_gd ql_K_49 ?_
  refine wp_lt ql_R_49_0 ?_
  refine wp_gd ql_K_50 ?_
  refine wp_lt (gZo ql_Z_50 qf_370) ?_
  refine wp_ifn qf_371 ?_
  refine wp_lt ql_R_49_0 ?_
  refine wp_gd ql_K_50 ?_
  refine wp_gd (gZi ql_Z_50 qf_372) ?_
  refine wp_lt (gIk qf_32 ql_I_50_0) ?_
  refine wp_lt qf_373 ?_
  refine wp_lt qf_127 ?_
  refine wp_of (f_X4_everybody_4.eq_2 ..) ?_
  refine wp_gd ql_K_49 ?_
  refine wp_lt ql_R_49_0 ?_
  refine wp_gd ql_K_50 ?_
  refine wp_lt (gZo ql_Z_50 qf_370) ?_
  refine wp_ifn qf_374 ?_
  refine wp_lt ql_R_49_0 ?_
  refine wp_gd ql_K_50 ?_
  refine wp_gd (gZi ql_Z_50 qf_375) ?_
  refine wp_lt (gIk qf_36 ql_I_50_1) ?_
  refine wp_lt qf_376 ?_
  refine wp_lt qf_129 ?_
  refine wp_of (f_X4_everybody_4.eq_2 ..) ?_
  refine wp_gd ql_K_49 ?_
  refine wp_lt ql_R_49_0 ?_
  refine wp_gd ql_K_50 ?_
  refine wp_lt (gZo ql_Z_50 qf_370) ?_
  refine wp_ifn qf_377 ?_
  refine wp_lt ql_R_49_0 ?_
  refine wp_gd ql_K_50 ?_
  refine wp_gd (gZi ql_Z_50 qf_378) ?_
  refine wp_lt (gIk qf_41 ql_I_50_2) ?_
  refine wp_lt qf_379 ?_
  refine wp_lt qf_131 ?_
  refine wp_of (f_X4_everybody_4.eq_2 ..) ?_
  refine wp_gd ql_K_49 ?_
  refine wp_lt ql_R_49_0 ?_
  refine wp_gd ql_K_50 ?_
  refine wp_lt (gZo ql_Z_50 qf_370) ?_
  refine wp_ifn qf_380 ?_
  refine wp_lt ql_R_49_0 ?_
  refine wp_gd ql_K_50 ?_
  refine wp_gd (gZi ql_Z_50 qf_381) ?_
  refine wp_lt (gIk qf_46 ql_I_50_3) ?_
  refine wp_lt qf_382 ?_
  refine wp_lt qf_133 ?_
  refine wp_of (f_X4_everybody_4.eq_2 ..) ?_
  refine wp_gd ql_K_49 ?_
  refine wp_lt ql_R_49_0 ?_
  refine wp_gd ql_K_50 ?_
  refine wp_lt (gZo ql_Z_50 qf_370) ?_
  refine wp_ifn qf_383 ?_
  refine wp_lt ql_R_49_0 ?_
  refine wp_gd ql_K_50 ?_
  refine wp_gd (gZi ql_Z_50 qf_384) ?_
  refine wp_lt (gIk qf_51 ql_I_50_4) ?_
  refine wp_lt qf_385 ?_
  refine wp_lt qf_181 ?_
  refine wp_of (f_X4_everybody_4.eq_2 ..) ?_
  refine wp_gd ql_K_49 ?_
  refine wp_lt ql_R_49_0 ?_
  refine wp_gd ql_K_50 ?_
  refine wp_lt (gZo ql_Z_50 qf_370) ?_
  refine wp_ifn qf_386 ?_
  refine wp_lt ql_R_49_0 ?_
  refine wp_gd ql_K_50 ?_
  refine wp_gd (gZi ql_Z_50 qf_387) ?_
  refine wp_lt (gIk qf_56 ql_I_50_5) ?_
  refine wp_lt qf_388 ?_
  refine wp_lt qf_192 ?_
  refine wp_of (f_X4_everybody_4.eq_2 ..) ?_
  refine wp_gd ql_K_49 ?_
  refine wp_lt ql_R_49_0 ?_
  refine wp_gd ql_K_50 ?_
  refine wp_lt (gZo ql_Z_50 qf_370) ?_
  refine wp_ifp qf_389 ?_
  refine wp_ret_bd ?_
  refine wp_lt qf_390 ?_
  refine wp_lt qf_466 ?_
  refine wp_lt qf_467 ?_
  refine wp_gd ql_K_2 ?_
  refine wp_lt ql_R_2_3 ?_
  refine wp_gd ql_K_52 ?_
  refine wp_lt ql_I_52_1 ?_
  refine wp_lt qf_70 ?_
  refine wp_lt qf_468 ?_
  refine wp_ret_bd ?_
  refine wp_ret_bd ?_
  refine wp_gd ql_K_149 ?_
  refine wp_bd ?_
  refine wp_of (f_X13_print.eq_1 ..) ?_
  refine wp_gd ql_K_149 ?_
  refine wp_zI ?_
  refine wp_lt ql_R_149_2 ?_
  refine wp_gd ql_K_151 ?_
  refine wp_lt (gZo ql_Z_151 qf_82) ?_
  refine wp_of (f_X13_print_21.eq_2 ..) ?_
  refine wp_ifn qf_126 ?_
  refine wp_gd ql_K_151 ?_
  refine wp_gd (gZi ql_Z_151 qf_87) ?_
  refine wp_lt (gRk qf_32 ql_R_151_0) ?_
  refine wp_lt qf_449 ?_
  refine wp_gd ql_K_152 ?_
  refine wp_lt ql_R_152_0 ?_
  refine wp_ifp qf_77 ?_
  refine wp_of (f_X13_print_56.eq_1 ..) ?_
  refine wp_lt qf_450 ?_
  refine wp_lt qf_127 ?_
  refine wp_of (f_X13_print_21.eq_2 ..) ?_
  refine wp_ifn qf_128 ?_
  refine wp_gd ql_K_151 ?_
  refine wp_gd (gZi ql_Z_151 qf_89) ?_
  refine wp_lt (gRk qf_36 ql_R_151_1) ?_
  refine wp_lt qf_451 ?_
  refine wp_gd ql_K_156 ?_
  refine wp_lt ql_R_156_0 ?_
  refine wp_ifp qf_77 ?_
  refine wp_of (f_X13_print_56.eq_1 ..) ?_
  refine wp_lt qf_452 ?_
  refine wp_lt qf_129 ?_
  refine wp_of (f_X13_print_21.eq_2 ..) ?_
  refine wp_ifn qf_130 ?_
  refine wp_gd ql_K_151 ?_
  refine wp_gd (gZi ql_Z_151 qf_92) ?_
  refine wp_lt (gRk qf_41 ql_R_151_2) ?_
  refine wp_lt qf_453 ?_
  refine wp_gd ql_K_160 ?_
  refine wp_lt ql_R_160_0 ?_
  refine wp_ifp qf_77 ?_
  refine wp_of (f_X13_print_56.eq_1 ..) ?_
  refine wp_lt qf_454 ?_
  refine wp_lt qf_131 ?_
  refine wp_of (f_X13_print_21.eq_2 ..) ?_
  refine wp_ifn qf_132 ?_
  refine wp_gd ql_K_151 ?_
  refine wp_gd (gZi ql_Z_151 qf_95) ?_
  refine wp_lt (gRk qf_46 ql_R_151_3) ?_
  refine wp_lt qf_455 ?_
  refine wp_gd ql_K_164 ?_
  refine wp_lt ql_R_164_0 ?_
  refine wp_ifp qf_77 ?_
  refine wp_of (f_X13_print_56.eq_1 ..) ?_
  refine wp_lt qf_456 ?_
  refine wp_lt qf_133 ?_
  refine wp_of (f_X13_print_21.eq_2 ..) ?_
  refine wp_ifp qf_134 ?_
  refine wp_gd ql_K_149 ?_
  refine wp_lt ql_R_149_3 ?_
  refine wp_gd ql_K_168 ?_
  refine wp_lt (gZo ql_Z_168 qf_370) ?_
  refine wp_of (f_X13_print_80.eq_2 ..) ?_
  refine wp_ifn qf_371 ?_
  refine wp_gd ql_K_168 ?_
  refine wp_gd (gZi ql_Z_168 qf_372) ?_
  refine wp_lt (gIk qf_32 (Eq.trans (gI_a rfl) ql_I_168_0)) ?_
  refine wp_lt qf_373 ?_
  refine wp_lt qf_127 ?_
  refine wp_of (f_X13_print_80.eq_2 ..) ?_
  refine wp_ifn qf_374 ?_
  refine wp_gd ql_K_168 ?_
  refine wp_gd (gZi ql_Z_168 qf_375) ?_
  refine wp_lt (gIk qf_36 (Eq.trans (gI_a rfl) ql_I_168_1)) ?_
  refine wp_lt qf_376 ?_
  refine wp_lt qf_129 ?_
  refine wp_of (f_X13_print_80.eq_2 ..) ?_
  refine wp_ifn qf_377 ?_
  refine wp_gd ql_K_168 ?_
  refine wp_gd (gZi ql_Z_168 qf_378) ?_
  refine wp_lt (gIk qf_41 (Eq.trans (gI_a rfl) ql_I_168_2)) ?_
  refine wp_lt qf_379 ?_
  refine wp_lt qf_131 ?_
  refine wp_of (f_X13_print_80.eq_2 ..) ?_
  refine wp_ifn qf_380 ?_
  refine wp_gd ql_K_168 ?_
  refine wp_gd (gZi ql_Z_168 qf_381) ?_
  refine wp_lt (gIk qf_46 (Eq.trans (gI_a rfl) ql_I_168_3)) ?_
  refine wp_lt qf_382 ?_
  refine wp_lt qf_133 ?_
  refine wp_of (f_X13_print_80.eq_2 ..) ?_
  refine wp_ifn qf_383 ?_
  refine wp_gd ql_K_168 ?_
  refine wp_gd (gZi ql_Z_168 qf_384) ?_
  refine wp_lt (gIk qf_51 (Eq.trans (gI_a rfl) ql_I_168_4)) ?_
  refine wp_lt qf_385 ?_
  refine wp_lt qf_181 ?_
  refine wp_of (f_X13_print_80.eq_2 ..) ?_
  refine wp_ifn qf_386 ?_
  refine wp_gd ql_K_168 ?_
  refine wp_gd (gZi ql_Z_168 qf_387) ?_
  refine wp_lt (gIk qf_56 (Eq.trans (gI_a rfl) ql_I_168_5)) ?_
  refine wp_lt qf_388 ?_
  refine wp_lt qf_192 ?_
  refine wp_of (f_X13_print_80.eq_2 ..) ?_
  refine wp_ifp qf_389 ?_
  refine wp_gd (gNk (n := 174) qf_74) ?_
  refine wp_zW (m := 175) rfl ?_
  refine wp_lt (show _ = 175 from rfl) ?_
  refine wp_gd (Eq.trans (gK_w rfl) ql_K_149) ?_
  refine wp_lt (Eq.trans (gI_w rfl) (Eq.trans (gI_b rfl) ql_I_149_9)) ?_
  refine wp_gd (gZi gZ_n qf_372) ?_
  refine wp_zIk qf_32 ?_
  refine wp_lt (Eq.trans (gI_a rfl) (Eq.trans (gI_w rfl) (Eq.trans (gI_b rfl) ql_I_149_11))) ?_
  refine wp_gd (gZi gZ_n qf_375) ?_
  refine wp_zIk qf_36 ?_
  refine wp_lt (Eq.trans (gI_a rfl) (Eq.trans (gI_a rfl) (Eq.trans (gI_w rfl) (Eq.trans (gI_b rfl) ql_I_149_12)))) ?_
  refine wp_gd (gZi gZ_n qf_378) ?_
  refine wp_zIk qf_41 ?_
  refine wp_lt (Eq.trans (gI_a rfl) (Eq.trans (gI_a rfl) (Eq.trans (gI_a rfl) (Eq.trans (gI_w rfl) (Eq.trans (gI_b rfl) ql_I_149_13))))) ?_
  refine wp_gd (gZi gZ_n qf_381) ?_
  refine wp_zIk qf_46 ?_
  refine wp_gd (gZi gZ_n qf_384) ?_
  refine wp_zIk qf_51 ?_
  refine wp_lt (Eq.trans (gI_a rfl) (Eq.trans (gI_a rfl) (Eq.trans (gI_a rfl) (Eq.trans (gI_a rfl) (Eq.trans (gI_a rfl) (Eq.trans (gI_w rfl) (Eq.trans (gI_b rfl) ql_I_149_14))))))) ?_
  refine wp_gd (gZi gZ_n qf_387) ?_
  refine wp_zIk qf_56 ?_
  refine wp_lt (gZo gZ_n qf_370) ?_
  refine wp_of (f_X13_print_162.eq_2 ..) ?_
  refine wp_ifn qf_371 ?_
  refine wp_gd gK_n ?_
  refine wp_gd (gZi gZ_n qf_372) ?_
  refine wp_lt (gIk qf_32 (Eq.trans (gI_b rfl) (Eq.trans (gI_b rfl) (Eq.trans (gI_b rfl) (Eq.trans (gI_b rfl) (Eq.trans (gI_b rfl) gI_s)))))) ?_
  refine wp_lt qf_457 ?_
  refine wp_lt qf_70 ?_
  refine wp_lt qf_458 ?_
  refine wp_lt qf_127 ?_
  refine wp_of (f_X13_print_162.eq_2 ..) ?_
  refine wp_ifn qf_374 ?_
  refine wp_gd gK_n ?_
  refine wp_gd (gZi gZ_n qf_375) ?_
  refine wp_lt (gIk qf_36 (Eq.trans (gI_b rfl) (Eq.trans (gI_b rfl) (Eq.trans (gI_b rfl) (Eq.trans (gI_b rfl) gI_s))))) ?_
  refine wp_lt qf_459 ?_
  refine wp_lt qf_70 ?_
  refine wp_lt qf_460 ?_
  refine wp_lt qf_129 ?_
  refine wp_of (f_X13_print_162.eq_2 ..) ?_
  refine wp_ifn qf_377 ?_
  refine wp_gd gK_n ?_
  refine wp_gd (gZi gZ_n qf_378) ?_
  refine wp_lt (gIk qf_41 (Eq.trans (gI_b rfl) (Eq.trans (gI_b rfl) (Eq.trans (gI_b rfl) gI_s)))) ?_
  refine wp_lt qf_461 ?_
  refine wp_lt qf_70 ?_
  refine wp_lt qf_462 ?_
  refine wp_lt qf_131 ?_
  refine wp_of (f_X13_print_162.eq_2 ..) ?_
  refine wp_ifn qf_380 ?_
  refine wp_gd gK_n ?_
  refine wp_gd (gZi gZ_n qf_381) ?_
  refine wp_lt (gIk qf_46 (Eq.trans (gI_b rfl) (Eq.trans (gI_b rfl) gI_s))) ?_
  refine wp_lt qf_463 ?_
  refine wp_lt qf_70 ?_
  refine wp_lt qf_464 ?_
  refine wp_lt qf_133 ?_
  refine wp_of (f_X13_print_162.eq_2 ..) ?_
  refine wp_ifn qf_383 ?_
  refine wp_gd gK_n ?_
  refine wp_gd (gZi gZ_n qf_384) ?_
  refine wp_lt (gIk qf_51 (Eq.trans (gI_b rfl) gI_s)) ?_
  refine wp_lt qf_465 ?_
  refine wp_lt qf_390 ?_
  refine wp_lt qf_466 ?_
  refine wp_lt qf_181 ?_
  refine wp_of (f_X13_print_162.eq_2 ..) ?_
  refine wp_ifn qf_386 ?_
  refine wp_gd gK_n ?_
  refine wp_gd (gZi gZ_n qf_387) ?_
  refine wp_lt (gIk qf_56 gI_s) ?_
  refine wp_lt qf_467 ?_
  refine wp_lt qf_70 ?_
  refine wp_lt qf_468 ?_
  refine wp_lt qf_192 ?_
  refine wp_of (f_X13_print_162.eq_2 ..) ?_
  refine wp_ifp qf_389 ?_
  refine wp_ret_bd ?_
  refine wp_lt qf_469 ?_
  refine wp_ifp qf_15 ?_
  refine wp_of (f_L_law_3632.eq_1 ..) ?_
  refine wp_lt qf_21 ?_
  exact hrc _
set_option maxRecDepth 100000 in
set_option maxHeartbeats 4000000 in
theorem cs_54 {xs : Nat → Int32} {rc : mS → Nat → Nat → Nat → Nat → Int32 → Option (Rs Int32)} {Q : Rs Int32 → Prop} (hrc : ∀ S, WP Q (rc S 1 149 173 174 8)) : WP Q (f_L_law_3474 8 xs rc (M3I, M3L, M3R, M3D, M3K, M3Z, 174) 1 149 173 174 0) := by
  refine wp_of (f_L_law_3474.eq_1 ..) ?_
  refine wp_gd ql_K_1 ?_
  refine wp_bd ?_
  refine wp_of (f_X10_printAgain.eq_1 ..) ?_
  refine wp_gd ql_K_1 ?_
  refine wp_bd ?_
  refine wp_of (f_X10_redoLog.eq_1 ..) ?_
  refine wp_of (f_X10_redoLog_0.eq_2 ..) ?_
  refine wp_gd ql_K_1 ?_
  refine wp_lt ql_I_1_5 ?_
  refine wp_lt ql_R_1_2 ?_
  refine wp_gd ql_K_106 ?_
  refine wp_lt ql_I_106_2 ?_
  refine wp_ifp qf_73 ?_
  refine wp_ret_bd ?_
  refine wp_gd ql_K_1 ?_
  refine wp_lt ql_R_1_1 ?_
  refine wp_gd ql_K_54 ?_
  refine wp_bd ?_
  refine wp_of (f_X8_fingerprint.eq_1 ..) ?_
  refine wp_of (f_X8_fingerprint_6.eq_2 ..) ?_
  refine wp_gd ql_K_54 ?_
  refine wp_lt ql_R_54_1 ?_
  refine wp_gd ql_K_68 ?_
  refine wp_lt (gZo ql_Z_68 qf_82) ?_
  refine wp_ifn qf_126 ?_
  refine wp_lt qf_449 ?_
  refine wp_lt ql_R_54_1 ?_
  refine wp_gd ql_K_68 ?_
  refine wp_gd (gZi ql_Z_68 qf_87) ?_
  refine wp_lt (gRk qf_32 ql_R_68_0) ?_
  refine wp_gd ql_K_69 ?_
  refine wp_lt ql_L_69_3 ?_
  refine wp_lt qf_450 ?_
  refine wp_lt qf_127 ?_
  refine wp_of (f_X8_fingerprint_6.eq_2 ..) ?_
  refine wp_gd ql_K_54 ?_
  refine wp_lt ql_R_54_1 ?_
  refine wp_gd ql_K_68 ?_
  refine wp_lt (gZo ql_Z_68 qf_82) ?_
  refine wp_ifn qf_128 ?_
  refine wp_lt qf_451 ?_
  refine wp_lt ql_R_54_1 ?_
  refine wp_gd ql_K_68 ?_
  refine wp_gd (gZi ql_Z_68 qf_89) ?_
  refine wp_lt (gRk qf_36 ql_R_68_1) ?_
  refine wp_gd ql_K_77 ?_
  refine wp_lt ql_L_77_3 ?_
  refine wp_lt qf_452 ?_
  refine wp_lt qf_129 ?_
  refine wp_of (f_X8_fingerprint_6.eq_2 ..) ?_
  refine wp_gd ql_K_54 ?_
  refine wp_lt ql_R_54_1 ?_
  refine wp_gd ql_K_68 ?_
  refine wp_lt (gZo ql_Z_68 qf_82) ?_
  refine wp_ifn qf_130 ?_
  refine wp_lt qf_453 ?_
  refine wp_lt ql_R_54_1 ?_
  refine wp_gd ql_K_68 ?_
  refine wp_gd (gZi ql_Z_68 qf_92) ?_
  refine wp_lt (gRk qf_41 ql_R_68_2) ?_
  refine wp_gd ql_K_85 ?_
  refine wp_lt ql_L_85_3 ?_
  refine wp_lt qf_454 ?_
  refine wp_lt qf_131 ?_
  refine wp_of (f_X8_fingerprint_6.eq_2 ..) ?_
  refine wp_gd ql_K_54 ?_
  refine wp_lt ql_R_54_1 ?_
  refine wp_gd ql_K_68 ?_
  refine wp_lt (gZo ql_Z_68 qf_82) ?_
  refine wp_ifn qf_132 ?_
  refine wp_lt qf_455 ?_
  refine wp_lt ql_R_54_1 ?_
  refine wp_gd ql_K_68 ?_
  refine wp_gd (gZi ql_Z_68 qf_95) ?_
  refine wp_lt (gRk qf_46 ql_R_68_3) ?_
  refine wp_gd ql_K_93 ?_
  refine wp_lt ql_L_93_3 ?_
  refine wp_lt qf_456 ?_
  refine wp_lt qf_133 ?_
  refine wp_of (f_X8_fingerprint_6.eq_2 ..) ?_
  refine wp_gd ql_K_54 ?_
  refine wp_lt ql_R_54_1 ?_
  refine wp_gd ql_K_68 ?_
  refine wp_lt (gZo ql_Z_68 qf_82) ?_
  refine wp_ifp qf_134 ?_
  refine wp_lt qf_457 ?_
  refine wp_lt ql_I_54_7 ?_
  refine wp_lt qf_70 ?_
  refine wp_lt qf_458 ?_
  refine wp_lt qf_459 ?_
  refine wp_lt ql_I_54_8 ?_
  refine wp_lt qf_70 ?_
  refine wp_lt qf_460 ?_
  refine wp_lt qf_461 ?_
  refine wp_lt ql_I_54_9 ?_
  refine wp_lt qf_70 ?_
  refine wp_lt qf_462 ?_
  refine wp_lt qf_463 ?_
  refine wp_lt ql_I_54_10 ?_
  refine wp_lt qf_70 ?_
  refine wp_lt qf_464 ?_
  refine wp_lt qf_465 ?_
  refine wp_lt ql_R_54_2 ?_
  refine wp_gd ql_K_101 ?_
  refine wp_bd ?_
  refine wp_of (f_X4_everybody.eq_1 ..) ?_
  refine wp_of (f_X4_everybody_4.eq_2 ..) ?_
  refine wp_gd ql_K_101 ?_
  refine wp_lt ql_R_101_0 ?_
  refine wp_gd ql_K_102 ?_
  refine wp_lt (gZo ql_Z_102 qf_370) ?_
  refine wp_ifn qf_371 ?_
  refine wp_lt ql_R_101_0 ?_
  refine wp_gd ql_K_102 ?_
  refine wp_gd (gZi ql_Z_102 qf_372) ?_
  refine wp_lt (gIk qf_32 ql_I_102_0) ?_
  refine wp_lt qf_373 ?_
  refine wp_lt qf_127 ?_
  refine wp_of (f_X4_everybody_4.eq_2 ..) ?_
  refine wp_gd ql_K_101 ?_
  refine wp_lt ql_R_101_0 ?_
  refine wp_gd ql_K_102 ?_
  refine wp_lt (gZo ql_Z_102 qf_370) ?_
  refine wp_ifn qf_374 ?_
  refine wp_lt ql_R_101_0 ?_
  refine wp_gd ql_K_102 ?_
  refine wp_gd (gZi ql_Z_102 qf_375) ?_
  refine wp_lt (gIk qf_36 ql_I_102_1) ?_
  refine wp_lt qf_376 ?_
  refine wp_lt qf_129 ?_
  refine wp_of (f_X4_everybody_4.eq_2 ..) ?_
  refine wp_gd ql_K_101 ?_
  refine wp_lt ql_R_101_0 ?_
  refine wp_gd ql_K_102 ?_
  refine wp_lt (gZo ql_Z_102 qf_370) ?_
  refine wp_ifn qf_377 ?_
  refine wp_lt ql_R_101_0 ?_
  refine wp_gd ql_K_102 ?_
  refine wp_gd (gZi ql_Z_102 qf_378) ?_
  refine wp_lt (gIk qf_41 ql_I_102_2) ?_
  refine wp_lt qf_379 ?_
  refine wp_lt qf_131 ?_
  refine wp_of (f_X4_everybody_4.eq_2 ..) ?_
  refine wp_gd ql_K_101 ?_
  refine wp_lt ql_R_101_0 ?_
  refine wp_gd ql_K_102 ?_
  refine wp_lt (gZo ql_Z_102 qf_370) ?_
  refine wp_ifn qf_380 ?_
  refine wp_lt ql_R_101_0 ?_
  refine wp_gd ql_K_102 ?_
  refine wp_gd (gZi ql_Z_102 qf_381) ?_
  refine wp_lt (gIk qf_46 ql_I_102_3) ?_
  refine wp_lt qf_382 ?_
  refine wp_lt qf_133 ?_
  refine wp_of (f_X4_everybody_4.eq_2 ..) ?_
  refine wp_gd ql_K_101 ?_
  refine wp_lt ql_R_101_0 ?_
  refine wp_gd ql_K_102 ?_
  refine wp_lt (gZo ql_Z_102 qf_370) ?_
  refine wp_ifn qf_383 ?_
  refine wp_lt ql_R_101_0 ?_
  refine wp_gd ql_K_102 ?_
  refine wp_gd (gZi ql_Z_102 qf_384) ?_
  refine wp_lt (gIk qf_51 ql_I_102_4) ?_
  refine wp_lt qf_385 ?_
  refine wp_lt qf_181 ?_
  refine wp_of (f_X4_everybody_4.eq_2 ..) ?_
  refine wp_gd ql_K_101 ?_
  refine wp_lt ql_R_101_0 ?_
  refine wp_gd ql_K_102 ?_
  refine wp_lt (gZo ql_Z_102 qf_370) ?_
  refine wp_ifn qf_386 ?_
  refine wp_lt ql_R_101_0 ?_
  refine wp_gd ql_K_102 ?_
  refine wp_gd (gZi ql_Z_102 qf_387) ?_
  refine wp_lt (gIk qf_56 ql_I_102_5) ?_
  refine wp_lt qf_388 ?_
  refine wp_lt qf_192 ?_
  refine wp_of (f_X4_everybody_4.eq_2 ..) ?_
  refine wp_gd ql_K_101 ?_
  refine wp_lt ql_R_101_0 ?_
  refine wp_gd ql_K_102 ?_
  refine wp_lt (gZo ql_Z_102 qf_370) ?_
  refine wp_ifp qf_389 ?_
  refine wp_ret_bd ?_
  refine wp_lt qf_390 ?_
  refine wp_lt qf_466 ?_
  refine wp_lt qf_467 ?_
  refine wp_gd ql_K_54 ?_
  refine wp_lt ql_R_54_3 ?_
  refine wp_gd ql_K_104 ?_
  refine wp_lt ql_I_104_1 ?_
  refine wp_lt qf_70 ?_
  refine wp_lt qf_468 ?_
  refine wp_ret_bd ?_
  refine wp_ret_bd ?_
  refine wp_gd ql_K_149 ?_
  refine wp_bd ?_
  refine wp_of (f_X13_printAgain.eq_1 ..) ?_
  refine wp_gd ql_K_149 ?_
  refine wp_bd ?_
  refine wp_of (f_X13_print.eq_1 ..) ?_
  refine wp_gd ql_K_149 ?_
  refine wp_zI ?_
  refine wp_lt ql_R_149_2 ?_
  refine wp_gd ql_K_151 ?_
  refine wp_lt (gZo ql_Z_151 qf_82) ?_
  refine wp_of (f_X13_print_21.eq_2 ..) ?_
  refine wp_ifn qf_126 ?_
  refine wp_gd ql_K_151 ?_
  refine wp_gd (gZi ql_Z_151 qf_87) ?_
  refine wp_lt (gRk qf_32 ql_R_151_0) ?_
  refine wp_lt qf_449 ?_
  refine wp_gd ql_K_152 ?_
  refine wp_lt ql_R_152_0 ?_
  refine wp_ifp qf_77 ?_
  refine wp_of (f_X13_print_56.eq_1 ..) ?_
  refine wp_lt qf_450 ?_
  refine wp_lt qf_127 ?_
  refine wp_of (f_X13_print_21.eq_2 ..) ?_
  refine wp_ifn qf_128 ?_
  refine wp_gd ql_K_151 ?_
  refine wp_gd (gZi ql_Z_151 qf_89) ?_
  refine wp_lt (gRk qf_36 ql_R_151_1) ?_
  refine wp_lt qf_451 ?_
  refine wp_gd ql_K_156 ?_
  refine wp_lt ql_R_156_0 ?_
  refine wp_ifp qf_77 ?_
  refine wp_of (f_X13_print_56.eq_1 ..) ?_
  refine wp_lt qf_452 ?_
  refine wp_lt qf_129 ?_
  refine wp_of (f_X13_print_21.eq_2 ..) ?_
  refine wp_ifn qf_130 ?_
  refine wp_gd ql_K_151 ?_
  refine wp_gd (gZi ql_Z_151 qf_92) ?_
  refine wp_lt (gRk qf_41 ql_R_151_2) ?_
  refine wp_lt qf_453 ?_
  refine wp_gd ql_K_160 ?_
  refine wp_lt ql_R_160_0 ?_
  refine wp_ifp qf_77 ?_
  refine wp_of (f_X13_print_56.eq_1 ..) ?_
  refine wp_lt qf_454 ?_
  refine wp_lt qf_131 ?_
  refine wp_of (f_X13_print_21.eq_2 ..) ?_
  refine wp_ifn qf_132 ?_
  refine wp_gd ql_K_151 ?_
  refine wp_gd (gZi ql_Z_151 qf_95) ?_
  refine wp_lt (gRk qf_46 ql_R_151_3) ?_
  refine wp_lt qf_455 ?_
  refine wp_gd ql_K_164 ?_
  refine wp_lt ql_R_164_0 ?_
  refine wp_ifp qf_77 ?_
  refine wp_of (f_X13_print_56.eq_1 ..) ?_
  refine wp_lt qf_456 ?_
  refine wp_lt qf_133 ?_
  refine wp_of (f_X13_print_21.eq_2 ..) ?_
  refine wp_ifp qf_134 ?_
  refine wp_gd ql_K_149 ?_
  refine wp_lt ql_R_149_3 ?_
  refine wp_gd ql_K_168 ?_
  refine wp_lt (gZo ql_Z_168 qf_370) ?_
  refine wp_of (f_X13_print_80.eq_2 ..) ?_
  refine wp_ifn qf_371 ?_
  refine wp_gd ql_K_168 ?_
  refine wp_gd (gZi ql_Z_168 qf_372) ?_
  refine wp_lt (gIk qf_32 (Eq.trans (gI_a rfl) ql_I_168_0)) ?_
  refine wp_lt qf_373 ?_
  refine wp_lt qf_127 ?_
  refine wp_of (f_X13_print_80.eq_2 ..) ?_
  refine wp_ifn qf_374 ?_
  refine wp_gd ql_K_168 ?_
  refine wp_gd (gZi ql_Z_168 qf_375) ?_
  refine wp_lt (gIk qf_36 (Eq.trans (gI_a rfl) ql_I_168_1)) ?_
  refine wp_lt qf_376 ?_
  refine wp_lt qf_129 ?_
  refine wp_of (f_X13_print_80.eq_2 ..) ?_
  refine wp_ifn qf_377 ?_
  refine wp_gd ql_K_168 ?_
  refine wp_gd (gZi ql_Z_168 qf_378) ?_
  refine wp_lt (gIk qf_41 (Eq.trans (gI_a rfl) ql_I_168_2)) ?_
  refine wp_lt qf_379 ?_
  refine wp_lt qf_131 ?_
  refine wp_of (f_X13_print_80.eq_2 ..) ?_
  refine wp_ifn qf_380 ?_
  refine wp_gd ql_K_168 ?_
  refine wp_gd (gZi ql_Z_168 qf_381) ?_
  refine wp_lt (gIk qf_46 (Eq.trans (gI_a rfl) ql_I_168_3)) ?_
  refine wp_lt qf_382 ?_
  refine wp_lt qf_133 ?_
  refine wp_of (f_X13_print_80.eq_2 ..) ?_
  refine wp_ifn qf_383 ?_
  refine wp_gd ql_K_168 ?_
  refine wp_gd (gZi ql_Z_168 qf_384) ?_
  refine wp_lt (gIk qf_51 (Eq.trans (gI_a rfl) ql_I_168_4)) ?_
  refine wp_lt qf_385 ?_
  refine wp_lt qf_181 ?_
  refine wp_of (f_X13_print_80.eq_2 ..) ?_
  refine wp_ifn qf_386 ?_
  refine wp_gd ql_K_168 ?_
  refine wp_gd (gZi ql_Z_168 qf_387) ?_
  refine wp_lt (gIk qf_56 (Eq.trans (gI_a rfl) ql_I_168_5)) ?_
  refine wp_lt qf_388 ?_
  refine wp_lt qf_192 ?_
  refine wp_of (f_X13_print_80.eq_2 ..) ?_
  refine wp_ifp qf_389 ?_
  refine wp_gd (gNk (n := 174) qf_74) ?_
  refine wp_zW (m := 175) rfl ?_
  refine wp_lt (show _ = 175 from rfl) ?_
  refine wp_gd (Eq.trans (gK_w rfl) ql_K_149) ?_
  refine wp_lt (Eq.trans (gI_w rfl) (Eq.trans (gI_b rfl) ql_I_149_9)) ?_
  refine wp_gd (gZi gZ_n qf_372) ?_
  refine wp_zIk qf_32 ?_
  refine wp_lt (Eq.trans (gI_a rfl) (Eq.trans (gI_w rfl) (Eq.trans (gI_b rfl) ql_I_149_11))) ?_
  refine wp_gd (gZi gZ_n qf_375) ?_
  refine wp_zIk qf_36 ?_
  refine wp_lt (Eq.trans (gI_a rfl) (Eq.trans (gI_a rfl) (Eq.trans (gI_w rfl) (Eq.trans (gI_b rfl) ql_I_149_12)))) ?_
  refine wp_gd (gZi gZ_n qf_378) ?_
  refine wp_zIk qf_41 ?_
  refine wp_lt (Eq.trans (gI_a rfl) (Eq.trans (gI_a rfl) (Eq.trans (gI_a rfl) (Eq.trans (gI_w rfl) (Eq.trans (gI_b rfl) ql_I_149_13))))) ?_
  refine wp_gd (gZi gZ_n qf_381) ?_
  refine wp_zIk qf_46 ?_
  refine wp_gd (gZi gZ_n qf_384) ?_
  refine wp_zIk qf_51 ?_
  refine wp_lt (Eq.trans (gI_a rfl) (Eq.trans (gI_a rfl) (Eq.trans (gI_a rfl) (Eq.trans (gI_a rfl) (Eq.trans (gI_a rfl) (Eq.trans (gI_w rfl) (Eq.trans (gI_b rfl) ql_I_149_14))))))) ?_
  refine wp_gd (gZi gZ_n qf_387) ?_
  refine wp_zIk qf_56 ?_
  refine wp_lt (gZo gZ_n qf_370) ?_
  refine wp_of (f_X13_print_162.eq_2 ..) ?_
  refine wp_ifn qf_371 ?_
  refine wp_gd gK_n ?_
  refine wp_gd (gZi gZ_n qf_372) ?_
  refine wp_lt (gIk qf_32 (Eq.trans (gI_b rfl) (Eq.trans (gI_b rfl) (Eq.trans (gI_b rfl) (Eq.trans (gI_b rfl) (Eq.trans (gI_b rfl) gI_s)))))) ?_
  refine wp_lt qf_457 ?_
  refine wp_lt qf_70 ?_
  refine wp_lt qf_458 ?_
  refine wp_lt qf_127 ?_
  refine wp_of (f_X13_print_162.eq_2 ..) ?_
  refine wp_ifn qf_374 ?_
  refine wp_gd gK_n ?_
  refine wp_gd (gZi gZ_n qf_375) ?_
  refine wp_lt (gIk qf_36 (Eq.trans (gI_b rfl) (Eq.trans (gI_b rfl) (Eq.trans (gI_b rfl) (Eq.trans (gI_b rfl) gI_s))))) ?_
  refine wp_lt qf_459 ?_
  refine wp_lt qf_70 ?_
  refine wp_lt qf_460 ?_
  refine wp_lt qf_129 ?_
  refine wp_of (f_X13_print_162.eq_2 ..) ?_
  refine wp_ifn qf_377 ?_
  refine wp_gd gK_n ?_
  refine wp_gd (gZi gZ_n qf_378) ?_
  refine wp_lt (gIk qf_41 (Eq.trans (gI_b rfl) (Eq.trans (gI_b rfl) (Eq.trans (gI_b rfl) gI_s)))) ?_
  refine wp_lt qf_461 ?_
  refine wp_lt qf_70 ?_
  refine wp_lt qf_462 ?_
  refine wp_lt qf_131 ?_
  refine wp_of (f_X13_print_162.eq_2 ..) ?_
  refine wp_ifn qf_380 ?_
  refine wp_gd gK_n ?_
  refine wp_gd (gZi gZ_n qf_381) ?_
  refine wp_lt (gIk qf_46 (Eq.trans (gI_b rfl) (Eq.trans (gI_b rfl) gI_s))) ?_
  refine wp_lt qf_463 ?_
  refine wp_lt qf_70 ?_
  refine wp_lt qf_464 ?_
  refine wp_lt qf_133 ?_
  refine wp_of (f_X13_print_162.eq_2 ..) ?_
  refine wp_ifn qf_383 ?_
  refine wp_gd gK_n ?_
  refine wp_gd (gZi gZ_n qf_384) ?_
  refine wp_lt (gIk qf_51 (Eq.trans (gI_b rfl) gI_s)) ?_
  refine wp_lt qf_465 ?_
  refine wp_lt qf_390 ?_
  refine wp_lt qf_466 ?_
  refine wp_lt qf_181 ?_
  refine wp_of (f_X13_print_162.eq_2 ..) ?_
  refine wp_ifn qf_386 ?_
  refine wp_gd gK_n ?_
  refine wp_gd (gZi gZ_n qf_387) ?_
  refine wp_lt (gIk qf_56 gI_s) ?_
  refine wp_lt qf_467 ?_
  refine wp_lt qf_70 ?_
  refine wp_lt qf_468 ?_
  refine wp_lt qf_192 ?_
  refine wp_of (f_X13_print_162.eq_2 ..) ?_
  refine wp_ifp qf_389 ?_
  refine wp_ret_bd ?_
  refine wp_ret_bd ?_
  refine wp_lt qf_469 ?_
  refine wp_ifp qf_15 ?_
  refine wp_of (f_L_law_3632.eq_1 ..) ?_
  refine wp_lt qf_21 ?_
  exact hrc _
end CASES10
