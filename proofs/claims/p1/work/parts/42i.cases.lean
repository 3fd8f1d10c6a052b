section CASES8
set_option maxRecDepth 100000 in
set_option maxHeartbeats 4000000 in
theorem cs_36 {xs : Nat → Int32} {rc : mS → Nat → Nat → Nat → Nat → Int32 → Option (Rs Int32)} {Q : Rs Int32 → Prop} (hrc : ∀ S, WP Q (rc S 1 149 173 174 8)) : WP Q (f_L_law_2600 8 xs rc (M3I, M3L, M3R, M3D, M3K, M3Z, 174) 1 149 173 174 0) := by
  obtain ⟨y1, hy1⟩ : ∃ y, xs 1 = y := ⟨_, rfl⟩
  refine wp_of (f_L_law_2600.eq_1 ..) ?_
  refine wp_gd qf_0 ?_
  refine wp_lt (xsk qf_1 hy1) ?_
  refine wp_bd ?_
  refine wp_of (f_L_people.eq_1 ..) ?_
  refine wp_gd ql_K_1 ?_
  refine wp_bdc ?_
  refine wp_of (f_X10_people.eq_1 ..) ?_
  refine wp_bd ?_
  refine wp_of (f_X10_isIn.eq_1 ..) ?_
  refine wp_if (fun c1 => ?_) (fun c1 => ?_)
  · skip
    refine wp_of (f_X10_isIn_14.eq_1 ..) ?_
    refine wp_of (f_X10_isIn_15.eq_1 ..) ?_
    refine wp_gd qf_14 ?_
    refine wp_ret_bd ?_
    refine wp_bd ?_
    refine wp_of (f_X10_demand.eq_1 ..) ?_
    refine wp_ifp qf_15 ?_
    refine wp_rs_bd ?_
    refine wp_rs_bdc ?_
    refine wp_ifp qf_16 ?_
    refine wp_ret_bd ?_
    refine wp_gd qf_0 ?_
    refine wp_lt (xsk qf_1 hy1) ?_
    refine wp_gd ql_K_149 ?_
    refine wp_bd ?_
    refine wp_of (f_X13_people.eq_1 ..) ?_
    refine wp_bd ?_
    refine wp_of (f_X13_isBetween.eq_1 ..) ?_
    refine wp_ifp c1 ?_
    refine wp_of (f_X13_isBetween_14.eq_1 ..) ?_
    refine wp_of (f_X13_isBetween_15.eq_1 ..) ?_
    refine wp_gd qf_14 ?_
    refine wp_ret_bd ?_
    refine wp_ifp qf_15 ?_
    refine wp_of (f_X13_people_15.eq_1 ..) ?_
    refine wp_gd ql_K_149 ?_
    refine wp_bd ?_
    refine wp_of (f_X13_isWrong.eq_1 ..) ?_
    refine wp_gd ql_K_149 ?_
    refine wp_zI ?_
    refine wp_ifn qf_17 ?_
    refine wp_of (f_X13_isWrong_14.eq_1 ..) ?_
    refine wp_gd qf_18 ?_
    refine wp_ret_bd ?_
    refine wp_ifn qf_19 ?_
    refine wp_ret_bd ?_
    refine wp_gd ql_K_149 ?_
    refine wp_bd ?_
    refine wp_of (f_X13_thrown.eq_1 ..) ?_
    refine wp_gd ql_K_149 ?_
    refine wp_lt gI_s ?_
    refine wp_ret_bd ?_
    refine wp_ifp qf_20 ?_
    refine wp_ifn qf_19 ?_
    refine wp_of (f_L_law_2653.eq_1 ..) ?_
    refine wp_of (f_L_law_3632.eq_1 ..) ?_
    refine wp_lt qf_21 ?_
    exact hrc _
  · skip
    refine wp_if (fun c2 => ?_) (fun c2 => ?_)
    · skip
      refine wp_of (f_X10_isIn_14.eq_1 ..) ?_
      refine wp_of (f_X10_isIn_15.eq_1 ..) ?_
      refine wp_gd qf_14 ?_
      refine wp_ret_bd ?_
      refine wp_bd ?_
      refine wp_of (f_X10_demand.eq_1 ..) ?_
      refine wp_ifp qf_15 ?_
      refine wp_rs_bd ?_
      refine wp_rs_bdc ?_
      refine wp_ifp qf_16 ?_
      refine wp_ret_bd ?_
      refine wp_gd qf_0 ?_
      refine wp_lt (xsk qf_1 hy1) ?_
      refine wp_gd ql_K_149 ?_
      refine wp_bd ?_
      refine wp_of (f_X13_people.eq_1 ..) ?_
      refine wp_bd ?_
      refine wp_of (f_X13_isBetween.eq_1 ..) ?_
      refine wp_ifn c1 ?_
      refine wp_ifp c2 ?_
      refine wp_of (f_X13_isBetween_14.eq_1 ..) ?_
      refine wp_of (f_X13_isBetween_15.eq_1 ..) ?_
      refine wp_gd qf_14 ?_
      refine wp_ret_bd ?_
      refine wp_ifp qf_15 ?_
      refine wp_of (f_X13_people_15.eq_1 ..) ?_
      refine wp_gd ql_K_149 ?_
      refine wp_bd ?_
      refine wp_of (f_X13_isWrong.eq_1 ..) ?_
      refine wp_gd ql_K_149 ?_
      refine wp_zI ?_
      refine wp_ifn qf_17 ?_
      refine wp_of (f_X13_isWrong_14.eq_1 ..) ?_
      refine wp_gd qf_18 ?_
      refine wp_ret_bd ?_
      refine wp_ifn qf_19 ?_
      refine wp_ret_bd ?_
      refine wp_gd ql_K_149 ?_
      refine wp_bd ?_
      refine wp_of (f_X13_thrown.eq_1 ..) ?_
      refine wp_gd ql_K_149 ?_
      refine wp_lt gI_s ?_
      refine wp_ret_bd ?_
      refine wp_ifp qf_20 ?_
      refine wp_ifn qf_19 ?_
      refine wp_of (f_L_law_2653.eq_1 ..) ?_
      refine wp_of (f_L_law_3632.eq_1 ..) ?_
      refine wp_lt qf_21 ?_
      exact hrc _
    · skip
      refine wp_of (f_X10_isIn_15.eq_1 ..) ?_
      refine wp_gd qf_18 ?_
      refine wp_ret_bd ?_
      refine wp_bd ?_
      refine wp_of (f_X10_demand.eq_1 ..) ?_
      refine wp_ifn qf_19 ?_
      refine wp_ret_bd ?_
      refine wp_if (fun c3 => ?_) (fun c3 => ?_)
      · skip
        subst c3
        refine wp_gd ql_K_1 ?_
        refine wp_lt ql_R_1_0 ?_
        refine wp_gd ql_K_2 ?_
        refine wp_lt ql_R_2_2 ?_
        refine wp_gd ql_K_49 ?_
        refine wp_bd ?_
        refine wp_of (f_X4_everybody.eq_1 ..) ?_
        refine wp_of (f_X4_everybody_4.eq_2 ..) ?_
        refine wp_gd ql_K_49 ?_
        refine wp_lt ql_R_49_0 ?_
        refine wp_gd ql_K_50 ?_
        refine wp_lt (gZo ql_Z_50 qf_370) ?_
        refine wp_ifn qf_371 ?_
        refine wp_lt ql_R_49_0 ?_
        refine wp_gd ql_K_50 ?_
        refine wp_gd (gZi ql_Z_50 qf_372) ?_
        refine wp_lt (gIk qf_32 ql_I_50_0) ?_
        refine wp_lt qf_373 ?_
        refine wp_lt qf_127 ?_
        refine wp_of (f_X4_everybody_4.eq_2 ..) ?_
        refine wp_gd ql_K_49 ?_
        refine wp_lt ql_R_49_0 ?_
        refine wp_gd ql_K_50 ?_
        refine wp_lt (gZo ql_Z_50 qf_370) ?_
        refine wp_ifn qf_374 ?_
        refine wp_lt ql_R_49_0 ?_
        refine wp_gd ql_K_50 ?_
        refine wp_gd (gZi ql_Z_50 qf_375) ?_
        refine wp_lt (gIk qf_36 ql_I_50_1) ?_
        refine wp_lt qf_376 ?_
        refine wp_lt qf_129 ?_
        refine wp_of (f_X4_everybody_4.eq_2 ..) ?_
        refine wp_gd ql_K_49 ?_
        refine wp_lt ql_R_49_0 ?_
        refine wp_gd ql_K_50 ?_
        refine wp_lt (gZo ql_Z_50 qf_370) ?_
        refine wp_ifn qf_377 ?_
        refine wp_lt ql_R_49_0 ?_
        refine wp_gd ql_K_50 ?_
        refine wp_gd (gZi ql_Z_50 qf_378) ?_
        refine wp_lt (gIk qf_41 ql_I_50_2) ?_
        refine wp_lt qf_379 ?_
        refine wp_lt qf_131 ?_
        refine wp_of (f_X4_everybody_4.eq_2 ..) ?_
        refine wp_gd ql_K_49 ?_
        refine wp_lt ql_R_49_0 ?_
        refine wp_gd ql_K_50 ?_
        refine wp_lt (gZo ql_Z_50 qf_370) ?_
        refine wp_ifn qf_380 ?_
        refine wp_lt ql_R_49_0 ?_
        refine wp_gd ql_K_50 ?_
        refine wp_gd (gZi ql_Z_50 qf_381) ?_
        refine wp_lt (gIk qf_46 ql_I_50_3) ?_
        refine wp_lt qf_382 ?_
        refine wp_lt qf_133 ?_
        refine wp_of (f_X4_everybody_4.eq_2 ..) ?_
        refine wp_gd ql_K_49 ?_
        refine wp_lt ql_R_49_0 ?_
        refine wp_gd ql_K_50 ?_
        refine wp_lt (gZo ql_Z_50 qf_370) ?_
        refine wp_ifn qf_383 ?_
        refine wp_lt ql_R_49_0 ?_
        refine wp_gd ql_K_50 ?_
        refine wp_gd (gZi ql_Z_50 qf_384) ?_
        refine wp_lt (gIk qf_51 ql_I_50_4) ?_
        refine wp_lt qf_385 ?_
        refine wp_lt qf_181 ?_
        refine wp_of (f_X4_everybody_4.eq_2 ..) ?_
        refine wp_gd ql_K_49 ?_
        refine wp_lt ql_R_49_0 ?_
        refine wp_gd ql_K_50 ?_
        refine wp_lt (gZo ql_Z_50 qf_370) ?_
        refine wp_ifn qf_386 ?_
        refine wp_lt ql_R_49_0 ?_
        refine wp_gd ql_K_50 ?_
        refine wp_gd (gZi ql_Z_50 qf_387) ?_
        refine wp_lt (gIk qf_56 ql_I_50_5) ?_
        refine wp_lt qf_388 ?_
        refine wp_lt qf_192 ?_
        refine wp_of (f_X4_everybody_4.eq_2 ..) ?_
        refine wp_gd ql_K_49 ?_
        refine wp_lt ql_R_49_0 ?_
        refine wp_gd ql_K_50 ?_
        refine wp_lt (gZo ql_Z_50 qf_370) ?_
        refine wp_ifp qf_389 ?_
        refine wp_ret_bd ?_
        refine wp_of (f_X10_people_38.eq_1 ..) ?_
        refine wp_ret_bdc ?_
        refine wp_lt qf_390 ?_
        refine wp_gd ql_K_173 ?_
        refine wp_gd (gZi ql_Z_173 qf_71) ?_
        refine wp_zLk qf_32 ?_
        refine wp_ret_bd ?_
        refine wp_gd qf_0 ?_
        refine wp_lt (xsk qf_1 hy1) ?_
        refine wp_gd ql_K_149 ?_
        refine wp_bd ?_
        refine wp_of (f_X13_people.eq_1 ..) ?_
        refine wp_bd ?_
        refine wp_of (f_X13_isBetween.eq_1 ..) ?_
        refine wp_ifn qf_391 ?_
        refine wp_ifn qf_392 ?_
        refine wp_of (f_X13_isBetween_15.eq_1 ..) ?_
        refine wp_gd qf_18 ?_
        refine wp_ret_bd ?_
        refine wp_ifn qf_19 ?_
        refine wp_of (f_X13_people_15.eq_1 ..) ?_
        refine wp_gd ql_K_149 ?_
        refine wp_bd ?_
        refine wp_of (f_X13_isWrong.eq_1 ..) ?_
        refine wp_gd ql_K_149 ?_
        refine wp_zI ?_
        refine wp_ifp qf_73 ?_
        refine wp_of (f_X13_isWrong_14.eq_1 ..) ?_
        refine wp_gd qf_14 ?_
        refine wp_ret_bd ?_
        refine wp_ifp qf_15 ?_
        refine wp_of (f_X13_people_27.eq_2 ..) ?_
        refine wp_ifn qf_371 ?_
        refine wp_ifp qf_109 ?_
        refine wp_of (f_X13_people_44.eq_1 ..) ?_
        refine wp_gd ql_K_149 ?_
        refine wp_lt ql_R_149_3 ?_
        refine wp_gd ql_K_168 ?_
        refine wp_gd (gZi ql_Z_168 qf_372) ?_
        refine wp_lt (gIk qf_32 (Eq.trans (gI_a rfl) ql_I_168_0)) ?_
        refine wp_of (f_X13_people_54.eq_1 ..) ?_
        refine wp_lt qf_373 ?_
        refine wp_lt qf_127 ?_
        refine wp_of (f_X13_people_27.eq_2 ..) ?_
        refine wp_ifn qf_374 ?_
        refine wp_ifp qf_109 ?_
        refine wp_of (f_X13_people_44.eq_1 ..) ?_
        refine wp_gd ql_K_149 ?_
        refine wp_lt ql_R_149_3 ?_
        refine wp_gd ql_K_168 ?_
        refine wp_gd (gZi ql_Z_168 qf_375) ?_
        refine wp_lt (gIk qf_36 (Eq.trans (gI_a rfl) ql_I_168_1)) ?_
        refine wp_of (f_X13_people_54.eq_1 ..) ?_
        refine wp_lt qf_376 ?_
        refine wp_lt qf_129 ?_
        refine wp_of (f_X13_people_27.eq_2 ..) ?_
        refine wp_ifn qf_377 ?_
        refine wp_ifp qf_109 ?_
        refine wp_of (f_X13_people_44.eq_1 ..) ?_
        refine wp_gd ql_K_149 ?_
        refine wp_lt ql_R_149_3 ?_
        refine wp_gd ql_K_168 ?_
        refine wp_gd (gZi ql_Z_168 qf_378) ?_
        refine wp_lt (gIk qf_41 (Eq.trans (gI_a rfl) ql_I_168_2)) ?_
        refine wp_of (f_X13_people_54.eq_1 ..) ?_
        refine wp_lt qf_379 ?_
        refine wp_lt qf_131 ?_
        refine wp_of (f_X13_people_27.eq_2 ..) ?_
        refine wp_ifn qf_380 ?_
        refine wp_ifp qf_109 ?_
        refine wp_of (f_X13_people_44.eq_1 ..) ?_
        refine wp_gd ql_K_149 ?_
        refine wp_lt ql_R_149_3 ?_
        refine wp_gd ql_K_168 ?_
        refine wp_gd (gZi ql_Z_168 qf_381) ?_
        refine wp_lt (gIk qf_46 (Eq.trans (gI_a rfl) ql_I_168_3)) ?_
        refine wp_of (f_X13_people_54.eq_1 ..) ?_
        refine wp_lt qf_382 ?_
        refine wp_lt qf_133 ?_
        refine wp_of (f_X13_people_27.eq_2 ..) ?_
        refine wp_ifn qf_383 ?_
        refine wp_ifp qf_109 ?_
        refine wp_of (f_X13_people_44.eq_1 ..) ?_
        refine wp_gd ql_K_149 ?_
        refine wp_lt ql_R_149_3 ?_
        refine wp_gd ql_K_168 ?_
        refine wp_gd (gZi ql_Z_168 qf_384) ?_
        refine wp_lt (gIk qf_51 (Eq.trans (gI_a rfl) ql_I_168_4)) ?_
        refine wp_of (f_X13_people_54.eq_1 ..) ?_
        refine wp_lt qf_385 ?_
        refine wp_lt qf_181 ?_
        refine wp_of (f_X13_people_27.eq_2 ..) ?_
        refine wp_ifn qf_386 ?_
        refine wp_ifp qf_109 ?_
        refine wp_of (f_X13_people_44.eq_1 ..) ?_
        refine wp_gd ql_K_149 ?_
        refine wp_lt ql_R_149_3 ?_
        refine wp_gd ql_K_168 ?_
        refine wp_gd (gZi ql_Z_168 qf_387) ?_
        refine wp_lt (gIk qf_56 (Eq.trans (gI_a rfl) ql_I_168_5)) ?_
        refine wp_of (f_X13_people_54.eq_1 ..) ?_
        refine wp_lt qf_388 ?_
        refine wp_lt qf_192 ?_
        refine wp_of (f_X13_people_27.eq_2 ..) ?_
        refine wp_ifp qf_389 ?_
        refine wp_ret_bd ?_
        refine wp_gd ql_K_149 ?_
        refine wp_bd ?_
        refine wp_of (f_X13_thrown.eq_1 ..) ?_
        refine wp_gd ql_K_149 ?_
        refine wp_lt gI_s ?_
        refine wp_ret_bd ?_
        refine wp_ifp qf_15 ?_
        refine wp_ifp qf_15 ?_
        refine wp_gd ql_K_173 ?_
        refine wp_gd (gZi ql_Z_173 qf_71) ?_
        refine wp_lt (gLk qf_32 gL_s) ?_
        refine wp_lt qf_390 ?_
        refine wp_lt qf_393 ?_
        refine wp_ifp qf_15 ?_
        refine wp_of (f_L_law_2653.eq_1 ..) ?_
        refine wp_of (f_L_law_3632.eq_1 ..) ?_
        refine wp_lt qf_21 ?_
        exact hrc _
      · skip
        refine wp_gd ql_K_1 ?_
        refine wp_lt ql_R_1_0 ?_
        refine wp_gd ql_K_2 ?_
        refine wp_lt ql_R_2_2 ?_
        refine wp_gd ql_K_49 ?_
        refine wp_bd ?_
        refine wp_of (f_X4_sizeOf.eq_1 ..) ?_
        refine wp_if (fun c4 => ?_) (fun c4 => ?_)
        · skip
          refine wp_of (f_X4_sizeOf_22.eq_1 ..) ?_
          refine wp_of (f_X4_sizeOf_23.eq_1 ..) ?_
          refine wp_ret_bd ?_
          refine wp_of (f_X10_people_38.eq_1 ..) ?_
          refine wp_ret_bdc ?_
          refine wp_lt qf_70 ?_
          refine wp_gd ql_K_173 ?_
          refine wp_gd (gZi ql_Z_173 qf_71) ?_
          refine wp_zLk qf_32 ?_
          refine wp_ret_bd ?_
          refine wp_gd qf_0 ?_
          refine wp_lt (xsk qf_1 hy1) ?_
          refine wp_gd ql_K_149 ?_
          refine wp_bd ?_
          refine wp_of (f_X13_people.eq_1 ..) ?_
          refine wp_bd ?_
          refine wp_of (f_X13_isBetween.eq_1 ..) ?_
          refine wp_ifn c1 ?_
          refine wp_ifn c2 ?_
          refine wp_of (f_X13_isBetween_15.eq_1 ..) ?_
          refine wp_gd qf_18 ?_
          refine wp_ret_bd ?_
          refine wp_ifn qf_19 ?_
          refine wp_of (f_X13_people_15.eq_1 ..) ?_
          refine wp_gd ql_K_149 ?_
          refine wp_bd ?_
          refine wp_of (f_X13_isWrong.eq_1 ..) ?_
          refine wp_gd ql_K_149 ?_
          refine wp_zI ?_
          refine wp_ifp qf_73 ?_
          refine wp_of (f_X13_isWrong_14.eq_1 ..) ?_
          refine wp_gd qf_14 ?_
          refine wp_ret_bd ?_
          refine wp_ifp qf_15 ?_
          refine wp_of (f_X13_people_27.eq_2 ..) ?_
          refine wp_ifn qf_371 ?_
          refine wp_ifn c3 ?_
          refine wp_ifn (show ¬ (y1 = (0 : Int32)) from by have e0 := qf_81; have e1 := qf_80; have e2 := qf_184; simp only [Int32.lt_iff_toInt_lt, Int32.le_iff_toInt_le, ← Int32.toInt_inj] at c1 c2 c4 ⊢; omega) ?_
          refine wp_of (f_X13_people_54.eq_1 ..) ?_
          refine wp_lt qf_139 ?_
          refine wp_lt qf_127 ?_
          refine wp_of (f_X13_people_27.eq_2 ..) ?_
          refine wp_ifn qf_374 ?_
          refine wp_ifn c3 ?_
          refine wp_ifn (show ¬ (y1 = (1 : Int32)) from by have e0 := qf_81; have e1 := qf_80; have e2 := qf_85; have e3 := qf_184; simp only [Int32.lt_iff_toInt_lt, Int32.le_iff_toInt_le, ← Int32.toInt_inj] at c1 c2 c4 ⊢; omega) ?_
          refine wp_of (f_X13_people_54.eq_1 ..) ?_
          refine wp_lt qf_139 ?_
          refine wp_lt qf_129 ?_
          refine wp_of (f_X13_people_27.eq_2 ..) ?_
          refine wp_ifn qf_377 ?_
          refine wp_ifn c3 ?_
          refine wp_ifn (show ¬ (y1 = (2 : Int32)) from by have e0 := qf_81; have e1 := qf_80; have e2 := qf_86; have e3 := qf_184; simp only [Int32.lt_iff_toInt_lt, Int32.le_iff_toInt_le, ← Int32.toInt_inj] at c1 c2 c4 ⊢; omega) ?_
          refine wp_of (f_X13_people_54.eq_1 ..) ?_
          refine wp_lt qf_139 ?_
          refine wp_lt qf_131 ?_
          refine wp_of (f_X13_people_27.eq_2 ..) ?_
          refine wp_ifn qf_380 ?_
          refine wp_ifn c3 ?_
          refine wp_ifn (show ¬ (y1 = (3 : Int32)) from by have e0 := qf_81; have e1 := qf_80; have e2 := qf_83; have e3 := qf_184; simp only [Int32.lt_iff_toInt_lt, Int32.le_iff_toInt_le, ← Int32.toInt_inj] at c1 c2 c4 ⊢; omega) ?_
          refine wp_of (f_X13_people_54.eq_1 ..) ?_
          refine wp_lt qf_139 ?_
          refine wp_lt qf_133 ?_
          refine wp_of (f_X13_people_27.eq_2 ..) ?_
          refine wp_ifn qf_383 ?_
          refine wp_ifn c3 ?_
          refine wp_ifn (show ¬ (y1 = (4 : Int32)) from by have e0 := qf_81; have e1 := qf_80; have e2 := qf_84; have e3 := qf_184; simp only [Int32.lt_iff_toInt_lt, Int32.le_iff_toInt_le, ← Int32.toInt_inj] at c1 c2 c4 ⊢; omega) ?_
          refine wp_of (f_X13_people_54.eq_1 ..) ?_
          refine wp_lt qf_139 ?_
          refine wp_lt qf_181 ?_
          refine wp_of (f_X13_people_27.eq_2 ..) ?_
          refine wp_ifn qf_386 ?_
          refine wp_ifn c3 ?_
          refine wp_ifn (show ¬ (y1 = (5 : Int32)) from by have e0 := qf_81; have e1 := qf_80; have e2 := qf_184; simp only [Int32.lt_iff_toInt_lt, Int32.le_iff_toInt_le, ← Int32.toInt_inj] at c1 c2 c4 ⊢; omega) ?_
          refine wp_of (f_X13_people_54.eq_1 ..) ?_
          refine wp_lt qf_139 ?_
          refine wp_lt qf_192 ?_
          refine wp_of (f_X13_people_27.eq_2 ..) ?_
          refine wp_ifp qf_389 ?_
          refine wp_ret_bd ?_
          refine wp_gd ql_K_149 ?_
          refine wp_bd ?_
          refine wp_of (f_X13_thrown.eq_1 ..) ?_
          refine wp_gd ql_K_149 ?_
          refine wp_lt gI_s ?_
          refine wp_ret_bd ?_
          refine wp_ifp qf_15 ?_
          refine wp_ifp qf_15 ?_
          refine wp_gd ql_K_173 ?_
          refine wp_gd (gZi ql_Z_173 qf_71) ?_
          refine wp_lt (gLk qf_32 gL_s) ?_
          refine wp_lt qf_70 ?_
          refine wp_lt qf_103 ?_
          refine wp_ifp qf_15 ?_
          refine wp_of (f_L_law_2653.eq_1 ..) ?_
          refine wp_of (f_L_law_3632.eq_1 ..) ?_
          refine wp_lt qf_21 ?_
          exact hrc _
        · skip
          refine wp_gd ql_K_49 ?_
          refine wp_lt ql_R_49_0 ?_
          refine wp_gd ql_K_50 ?_
          refine wp_lt (gZo ql_Z_50 qf_370) ?_
          refine wp_ifn (show ¬ ((6 : Int32) ≤ y1) from by have e0 := qf_81; have e1 := qf_80; have e2 := qf_184; have e3 := qf_195; simp only [Int32.lt_iff_toInt_lt, Int32.le_iff_toInt_le, ← Int32.toInt_inj] at c1 c2 c4 ⊢; omega) ?_
          refine wp_lt ql_R_49_0 ?_
          refine wp_gd ql_K_50 ?_
          rcases (show y1 = (0 : Int32) ∨ y1 = (1 : Int32) ∨ y1 = (2 : Int32) ∨ y1 = (3 : Int32) ∨ y1 = (4 : Int32) ∨ y1 = (5 : Int32) from by have e0 := qf_81; have e1 := qf_80; have e2 := qf_85; have e3 := qf_86; have e4 := qf_83; have e5 := qf_84; have e6 := qf_184; simp only [Int32.lt_iff_toInt_lt, Int32.le_iff_toInt_le] at c1 c2 c4; simp only [← Int32.toInt_inj]; omega) with rfl | rfl | rfl | rfl | rfl | rfl
          · skip
            refine wp_gd (gZi ql_Z_50 qf_372) ?_
            refine wp_lt (gIk qf_32 ql_I_50_0) ?_
            refine wp_of (f_X4_sizeOf_23.eq_1 ..) ?_
            refine wp_ret_bd ?_
            refine wp_of (f_X10_people_38.eq_1 ..) ?_
            refine wp_ret_bdc ?_
            refine wp_lt qf_360 ?_
            refine wp_gd ql_K_173 ?_
            refine wp_gd (gZi ql_Z_173 qf_71) ?_
            refine wp_zLk qf_32 ?_
            refine wp_ret_bd ?_
            refine wp_gd qf_0 ?_
            refine wp_lt (xsk qf_1 hy1) ?_
            refine wp_gd ql_K_149 ?_
            refine wp_bd ?_
            refine wp_of (f_X13_people.eq_1 ..) ?_
            refine wp_bd ?_
            refine wp_of (f_X13_isBetween.eq_1 ..) ?_
            refine wp_ifn qf_394 ?_
            refine wp_ifn qf_53 ?_
            refine wp_of (f_X13_isBetween_15.eq_1 ..) ?_
            refine wp_gd qf_18 ?_
            refine wp_ret_bd ?_
            refine wp_ifn qf_19 ?_
            refine wp_of (f_X13_people_15.eq_1 ..) ?_
            refine wp_gd ql_K_149 ?_
            refine wp_bd ?_
            refine wp_of (f_X13_isWrong.eq_1 ..) ?_
            refine wp_gd ql_K_149 ?_
            refine wp_zI ?_
            refine wp_ifp qf_73 ?_
            refine wp_of (f_X13_isWrong_14.eq_1 ..) ?_
            refine wp_gd qf_14 ?_
            refine wp_ret_bd ?_
            refine wp_ifp qf_15 ?_
            refine wp_of (f_X13_people_27.eq_2 ..) ?_
            refine wp_ifn qf_371 ?_
            refine wp_ifn qf_395 ?_
            refine wp_ifp qf_15 ?_
            refine wp_of (f_X13_people_44.eq_1 ..) ?_
            refine wp_gd ql_K_149 ?_
            refine wp_lt ql_R_149_3 ?_
            refine wp_gd ql_K_168 ?_
            refine wp_gd (gZi ql_Z_168 qf_372) ?_
            refine wp_lt (gIk qf_32 (Eq.trans (gI_a rfl) ql_I_168_0)) ?_
            refine wp_of (f_X13_people_54.eq_1 ..) ?_
            refine wp_lt qf_373 ?_
            refine wp_lt qf_127 ?_
            refine wp_of (f_X13_people_27.eq_2 ..) ?_
            refine wp_ifn qf_374 ?_
            refine wp_ifn qf_395 ?_
            refine wp_ifn qf_396 ?_
            refine wp_of (f_X13_people_54.eq_1 ..) ?_
            refine wp_lt qf_397 ?_
            refine wp_lt qf_129 ?_
            refine wp_of (f_X13_people_27.eq_2 ..) ?_
            refine wp_ifn qf_377 ?_
            refine wp_ifn qf_395 ?_
            refine wp_ifn qf_398 ?_
            refine wp_of (f_X13_people_54.eq_1 ..) ?_
            refine wp_lt qf_397 ?_
            refine wp_lt qf_131 ?_
            refine wp_of (f_X13_people_27.eq_2 ..) ?_
            refine wp_ifn qf_380 ?_
            refine wp_ifn qf_395 ?_
            refine wp_ifn qf_399 ?_
            refine wp_of (f_X13_people_54.eq_1 ..) ?_
            refine wp_lt qf_397 ?_
            refine wp_lt qf_133 ?_
            refine wp_of (f_X13_people_27.eq_2 ..) ?_
            refine wp_ifn qf_383 ?_
            refine wp_ifn qf_395 ?_
            refine wp_ifn qf_400 ?_
            refine wp_of (f_X13_people_54.eq_1 ..) ?_
            refine wp_lt qf_397 ?_
            refine wp_lt qf_181 ?_
            refine wp_of (f_X13_people_27.eq_2 ..) ?_
            refine wp_ifn qf_386 ?_
            refine wp_ifn qf_395 ?_
            refine wp_ifn qf_401 ?_
            refine wp_of (f_X13_people_54.eq_1 ..) ?_
            refine wp_lt qf_397 ?_
            refine wp_lt qf_192 ?_
            refine wp_of (f_X13_people_27.eq_2 ..) ?_
            refine wp_ifp qf_389 ?_
            refine wp_ret_bd ?_
            refine wp_gd ql_K_149 ?_
            refine wp_bd ?_
            refine wp_of (f_X13_thrown.eq_1 ..) ?_
            refine wp_gd ql_K_149 ?_
            refine wp_lt gI_s ?_
            refine wp_ret_bd ?_
            refine wp_ifp qf_15 ?_
            refine wp_ifp qf_15 ?_
            refine wp_gd ql_K_173 ?_
            refine wp_gd (gZi ql_Z_173 qf_71) ?_
            refine wp_lt (gLk qf_32 gL_s) ?_
            refine wp_lt qf_360 ?_
            refine wp_lt qf_366 ?_
            refine wp_ifp qf_15 ?_
            refine wp_of (f_L_law_2653.eq_1 ..) ?_
            refine wp_of (f_L_law_3632.eq_1 ..) ?_
            refine wp_lt qf_21 ?_
            exact hrc _
          · skip
            refine wp_gd (gZi ql_Z_50 qf_375) ?_
            refine wp_lt (gIk qf_36 ql_I_50_1) ?_
            refine wp_of (f_X4_sizeOf_23.eq_1 ..) ?_
            refine wp_ret_bd ?_
            refine wp_of (f_X10_people_38.eq_1 ..) ?_
            refine wp_ret_bdc ?_
            refine wp_lt qf_360 ?_
            refine wp_gd ql_K_173 ?_
            refine wp_gd (gZi ql_Z_173 qf_71) ?_
            refine wp_zLk qf_32 ?_
            refine wp_ret_bd ?_
            refine wp_gd qf_0 ?_
            refine wp_lt (xsk qf_1 hy1) ?_
            refine wp_gd ql_K_149 ?_
            refine wp_bd ?_
            refine wp_of (f_X13_people.eq_1 ..) ?_
            refine wp_bd ?_
            refine wp_of (f_X13_isBetween.eq_1 ..) ?_
            refine wp_ifn qf_402 ?_
            refine wp_ifn qf_403 ?_
            refine wp_of (f_X13_isBetween_15.eq_1 ..) ?_
            refine wp_gd qf_18 ?_
            refine wp_ret_bd ?_
            refine wp_ifn qf_19 ?_
            refine wp_of (f_X13_people_15.eq_1 ..) ?_
            refine wp_gd ql_K_149 ?_
            refine wp_bd ?_
            refine wp_of (f_X13_isWrong.eq_1 ..) ?_
            refine wp_gd ql_K_149 ?_
            refine wp_zI ?_
            refine wp_ifp qf_73 ?_
            refine wp_of (f_X13_isWrong_14.eq_1 ..) ?_
            refine wp_gd qf_14 ?_
            refine wp_ret_bd ?_
            refine wp_ifp qf_15 ?_
            refine wp_of (f_X13_people_27.eq_2 ..) ?_
            refine wp_ifn qf_371 ?_
            refine wp_ifn qf_404 ?_
            refine wp_ifn qf_19 ?_
            refine wp_of (f_X13_people_54.eq_1 ..) ?_
            refine wp_lt qf_139 ?_
            refine wp_lt qf_127 ?_
            refine wp_of (f_X13_people_27.eq_2 ..) ?_
            refine wp_ifn qf_374 ?_
            refine wp_ifn qf_404 ?_
            refine wp_ifp qf_20 ?_
            refine wp_of (f_X13_people_44.eq_1 ..) ?_
            refine wp_gd ql_K_149 ?_
            refine wp_lt ql_R_149_3 ?_
            refine wp_gd ql_K_168 ?_
            refine wp_gd (gZi ql_Z_168 qf_375) ?_
            refine wp_lt (gIk qf_36 (Eq.trans (gI_a rfl) ql_I_168_1)) ?_
            refine wp_of (f_X13_people_54.eq_1 ..) ?_
            refine wp_lt qf_373 ?_
            refine wp_lt qf_129 ?_
            refine wp_of (f_X13_people_27.eq_2 ..) ?_
            refine wp_ifn qf_377 ?_
            refine wp_ifn qf_404 ?_
            refine wp_ifn qf_405 ?_
            refine wp_of (f_X13_people_54.eq_1 ..) ?_
            refine wp_lt qf_397 ?_
            refine wp_lt qf_131 ?_
            refine wp_of (f_X13_people_27.eq_2 ..) ?_
            refine wp_ifn qf_380 ?_
            refine wp_ifn qf_404 ?_
            refine wp_ifn qf_406 ?_
            refine wp_of (f_X13_people_54.eq_1 ..) ?_
            refine wp_lt qf_397 ?_
            refine wp_lt qf_133 ?_
            refine wp_of (f_X13_people_27.eq_2 ..) ?_
            refine wp_ifn qf_383 ?_
            refine wp_ifn qf_404 ?_
            refine wp_ifn qf_407 ?_
            refine wp_of (f_X13_people_54.eq_1 ..) ?_
            refine wp_lt qf_397 ?_
            refine wp_lt qf_181 ?_
            refine wp_of (f_X13_people_27.eq_2 ..) ?_
            refine wp_ifn qf_386 ?_
            refine wp_ifn qf_404 ?_
            refine wp_ifn qf_408 ?_
            refine wp_of (f_X13_people_54.eq_1 ..) ?_
            refine wp_lt qf_397 ?_
            refine wp_lt qf_192 ?_
            refine wp_of (f_X13_people_27.eq_2 ..) ?_
            refine wp_ifp qf_389 ?_
            refine wp_ret_bd ?_
            refine wp_gd ql_K_149 ?_
            refine wp_bd ?_
            refine wp_of (f_X13_thrown.eq_1 ..) ?_
            refine wp_gd ql_K_149 ?_
            refine wp_lt gI_s ?_
            refine wp_ret_bd ?_
            refine wp_ifp qf_15 ?_
            refine wp_ifp qf_15 ?_
            refine wp_gd ql_K_173 ?_
            refine wp_gd (gZi ql_Z_173 qf_71) ?_
            refine wp_lt (gLk qf_32 gL_s) ?_
            refine wp_lt qf_360 ?_
            refine wp_lt qf_366 ?_
            refine wp_ifp qf_15 ?_
            refine wp_of (f_L_law_2653.eq_1 ..) ?_
            refine wp_of (f_L_law_3632.eq_1 ..) ?_
            refine wp_lt qf_21 ?_
            exact hrc _
          · skip
            refine wp_gd (gZi ql_Z_50 qf_378) ?_
            refine wp_lt (gIk qf_41 ql_I_50_2) ?_
            refine wp_of (f_X4_sizeOf_23.eq_1 ..) ?_
            refine wp_ret_bd ?_
            refine wp_of (f_X10_people_38.eq_1 ..) ?_
            refine wp_ret_bdc ?_
            refine wp_lt qf_360 ?_
            refine wp_gd ql_K_173 ?_
            refine wp_gd (gZi ql_Z_173 qf_71) ?_
            refine wp_zLk qf_32 ?_
            refine wp_ret_bd ?_
            refine wp_gd qf_0 ?_
            refine wp_lt (xsk qf_1 hy1) ?_
            refine wp_gd ql_K_149 ?_
            refine wp_bd ?_
            refine wp_of (f_X13_people.eq_1 ..) ?_
            refine wp_bd ?_
            refine wp_of (f_X13_isBetween.eq_1 ..) ?_
            refine wp_ifn qf_409 ?_
            refine wp_ifn qf_410 ?_
            refine wp_of (f_X13_isBetween_15.eq_1 ..) ?_
            refine wp_gd qf_18 ?_
            refine wp_ret_bd ?_
            refine wp_ifn qf_19 ?_
            refine wp_of (f_X13_people_15.eq_1 ..) ?_
            refine wp_gd ql_K_149 ?_
            refine wp_bd ?_
            refine wp_of (f_X13_isWrong.eq_1 ..) ?_
            refine wp_gd ql_K_149 ?_
            refine wp_zI ?_
            refine wp_ifp qf_73 ?_
            refine wp_of (f_X13_isWrong_14.eq_1 ..) ?_
            refine wp_gd qf_14 ?_
            refine wp_ret_bd ?_
            refine wp_ifp qf_15 ?_
            refine wp_of (f_X13_people_27.eq_2 ..) ?_
            refine wp_ifn qf_371 ?_
            refine wp_ifn qf_411 ?_
            refine wp_ifn qf_102 ?_
            refine wp_of (f_X13_people_54.eq_1 ..) ?_
            refine wp_lt qf_139 ?_
            refine wp_lt qf_127 ?_
            refine wp_of (f_X13_people_27.eq_2 ..) ?_
            refine wp_ifn qf_374 ?_
            refine wp_ifn qf_411 ?_
            refine wp_ifn qf_412 ?_
            refine wp_of (f_X13_people_54.eq_1 ..) ?_
            refine wp_lt qf_139 ?_
            refine wp_lt qf_129 ?_
            refine wp_of (f_X13_people_27.eq_2 ..) ?_
            refine wp_ifn qf_377 ?_
            refine wp_ifn qf_411 ?_
            refine wp_ifp qf_101 ?_
            refine wp_of (f_X13_people_44.eq_1 ..) ?_
            refine wp_gd ql_K_149 ?_
            refine wp_lt ql_R_149_3 ?_
            refine wp_gd ql_K_168 ?_
            refine wp_gd (gZi ql_Z_168 qf_378) ?_
            refine wp_lt (gIk qf_41 (Eq.trans (gI_a rfl) ql_I_168_2)) ?_
            refine wp_of (f_X13_people_54.eq_1 ..) ?_
            refine wp_lt qf_373 ?_
            refine wp_lt qf_131 ?_
            refine wp_of (f_X13_people_27.eq_2 ..) ?_
            refine wp_ifn qf_380 ?_
            refine wp_ifn qf_411 ?_
            refine wp_ifn qf_413 ?_
            refine wp_of (f_X13_people_54.eq_1 ..) ?_
            refine wp_lt qf_397 ?_
            refine wp_lt qf_133 ?_
            refine wp_of (f_X13_people_27.eq_2 ..) ?_
            refine wp_ifn qf_383 ?_
            refine wp_ifn qf_411 ?_
            refine wp_ifn qf_414 ?_
            refine wp_of (f_X13_people_54.eq_1 ..) ?_
            refine wp_lt qf_397 ?_
            refine wp_lt qf_181 ?_
            refine wp_of (f_X13_people_27.eq_2 ..) ?_
            refine wp_ifn qf_386 ?_
            refine wp_ifn qf_411 ?_
            refine wp_ifn qf_415 ?_
            refine wp_of (f_X13_people_54.eq_1 ..) ?_
            refine wp_lt qf_397 ?_
            refine wp_lt qf_192 ?_
            refine wp_of (f_X13_people_27.eq_2 ..) ?_
            refine wp_ifp qf_389 ?_
            refine wp_ret_bd ?_
            refine wp_gd ql_K_149 ?_
            refine wp_bd ?_
            refine wp_of (f_X13_thrown.eq_1 ..) ?_
            refine wp_gd ql_K_149 ?_
            refine wp_lt gI_s ?_
            refine wp_ret_bd ?_
            refine wp_ifp qf_15 ?_
            refine wp_ifp qf_15 ?_
            refine wp_gd ql_K_173 ?_
            refine wp_gd (gZi ql_Z_173 qf_71) ?_
            refine wp_lt (gLk qf_32 gL_s) ?_
            refine wp_lt qf_360 ?_
            refine wp_lt qf_366 ?_
            refine wp_ifp qf_15 ?_
            refine wp_of (f_L_law_2653.eq_1 ..) ?_
            refine wp_of (f_L_law_3632.eq_1 ..) ?_
            refine wp_lt qf_21 ?_
            exact hrc _
          · skip
            refine wp_gd (gZi ql_Z_50 qf_381) ?_
            refine wp_lt (gIk qf_46 ql_I_50_3) ?_
            refine wp_of (f_X4_sizeOf_23.eq_1 ..) ?_
            refine wp_ret_bd ?_
            refine wp_of (f_X10_people_38.eq_1 ..) ?_
            refine wp_ret_bdc ?_
            refine wp_lt qf_360 ?_
            refine wp_gd ql_K_173 ?_
            refine wp_gd (gZi ql_Z_173 qf_71) ?_
            refine wp_zLk qf_32 ?_
            refine wp_ret_bd ?_
            refine wp_gd qf_0 ?_
            refine wp_lt (xsk qf_1 hy1) ?_
            refine wp_gd ql_K_149 ?_
            refine wp_bd ?_
            refine wp_of (f_X13_people.eq_1 ..) ?_
            refine wp_bd ?_
            refine wp_of (f_X13_isBetween.eq_1 ..) ?_
            refine wp_ifn qf_416 ?_
            refine wp_ifn qf_417 ?_
            refine wp_of (f_X13_isBetween_15.eq_1 ..) ?_
            refine wp_gd qf_18 ?_
            refine wp_ret_bd ?_
            refine wp_ifn qf_19 ?_
            refine wp_of (f_X13_people_15.eq_1 ..) ?_
            refine wp_gd ql_K_149 ?_
            refine wp_bd ?_
            refine wp_of (f_X13_isWrong.eq_1 ..) ?_
            refine wp_gd ql_K_149 ?_
            refine wp_zI ?_
            refine wp_ifp qf_73 ?_
            refine wp_of (f_X13_isWrong_14.eq_1 ..) ?_
            refine wp_gd qf_14 ?_
            refine wp_ret_bd ?_
            refine wp_ifp qf_15 ?_
            refine wp_of (f_X13_people_27.eq_2 ..) ?_
            refine wp_ifn qf_371 ?_
            refine wp_ifn qf_418 ?_
            refine wp_ifn qf_108 ?_
            refine wp_of (f_X13_people_54.eq_1 ..) ?_
            refine wp_lt qf_139 ?_
            refine wp_lt qf_127 ?_
            refine wp_of (f_X13_people_27.eq_2 ..) ?_
            refine wp_ifn qf_374 ?_
            refine wp_ifn qf_418 ?_
            refine wp_ifn qf_419 ?_
            refine wp_of (f_X13_people_54.eq_1 ..) ?_
            refine wp_lt qf_139 ?_
            refine wp_lt qf_129 ?_
            refine wp_of (f_X13_people_27.eq_2 ..) ?_
            refine wp_ifn qf_377 ?_
            refine wp_ifn qf_418 ?_
            refine wp_ifn qf_420 ?_
            refine wp_of (f_X13_people_54.eq_1 ..) ?_
            refine wp_lt qf_139 ?_
            refine wp_lt qf_131 ?_
            refine wp_of (f_X13_people_27.eq_2 ..) ?_
            refine wp_ifn qf_380 ?_
            refine wp_ifn qf_418 ?_
            refine wp_ifp qf_107 ?_
            refine wp_of (f_X13_people_44.eq_1 ..) ?_
            refine wp_gd ql_K_149 ?_
            refine wp_lt ql_R_149_3 ?_
            refine wp_gd ql_K_168 ?_
            refine wp_gd (gZi ql_Z_168 qf_381) ?_
            refine wp_lt (gIk qf_46 (Eq.trans (gI_a rfl) ql_I_168_3)) ?_
            refine wp_of (f_X13_people_54.eq_1 ..) ?_
            refine wp_lt qf_373 ?_
            refine wp_lt qf_133 ?_
            refine wp_of (f_X13_people_27.eq_2 ..) ?_
            refine wp_ifn qf_383 ?_
            refine wp_ifn qf_418 ?_
            refine wp_ifn qf_421 ?_
            refine wp_of (f_X13_people_54.eq_1 ..) ?_
            refine wp_lt qf_397 ?_
            refine wp_lt qf_181 ?_
            refine wp_of (f_X13_people_27.eq_2 ..) ?_
            refine wp_ifn qf_386 ?_
            refine wp_ifn qf_418 ?_
            refine wp_ifn qf_422 ?_
            refine wp_of (f_X13_people_54.eq_1 ..) ?_
            refine wp_lt qf_397 ?_
            refine wp_lt qf_192 ?_
            refine wp_of (f_X13_people_27.eq_2 ..) ?_
            refine wp_ifp qf_389 ?_
            refine wp_ret_bd ?_
            refine wp_gd ql_K_149 ?_
            refine wp_bd ?_
            refine wp_of (f_X13_thrown.eq_1 ..) ?_
            refine wp_gd ql_K_149 ?_
            refine wp_lt gI_s ?_
            refine wp_ret_bd ?_
            refine wp_ifp qf_15 ?_
            refine wp_ifp qf_15 ?_
            refine wp_gd ql_K_173 ?_
            refine wp_gd (gZi ql_Z_173 qf_71) ?_
            refine wp_lt (gLk qf_32 gL_s) ?_
            refine wp_lt qf_360 ?_
            refine wp_lt qf_366 ?_
            refine wp_ifp qf_15 ?_
            refine wp_of (f_L_law_2653.eq_1 ..) ?_
            refine wp_of (f_L_law_3632.eq_1 ..) ?_
            refine wp_lt qf_21 ?_
            exact hrc _
          · skip
            refine wp_gd (gZi ql_Z_50 qf_384) ?_
            refine wp_lt (gIk qf_51 ql_I_50_4) ?_
            refine wp_of (f_X4_sizeOf_23.eq_1 ..) ?_
            refine wp_ret_bd ?_
            refine wp_of (f_X10_people_38.eq_1 ..) ?_
            refine wp_ret_bdc ?_
            refine wp_lt qf_360 ?_
            refine wp_gd ql_K_173 ?_
            refine wp_gd (gZi ql_Z_173 qf_71) ?_
            refine wp_zLk qf_32 ?_
            refine wp_ret_bd ?_
            refine wp_gd qf_0 ?_
            refine wp_lt (xsk qf_1 hy1) ?_
            refine wp_gd ql_K_149 ?_
            refine wp_bd ?_
            refine wp_of (f_X13_people.eq_1 ..) ?_
            refine wp_bd ?_
            refine wp_of (f_X13_isBetween.eq_1 ..) ?_
            refine wp_ifn qf_423 ?_
            refine wp_ifn qf_424 ?_
            refine wp_of (f_X13_isBetween_15.eq_1 ..) ?_
            refine wp_gd qf_18 ?_
            refine wp_ret_bd ?_
            refine wp_ifn qf_19 ?_
            refine wp_of (f_X13_people_15.eq_1 ..) ?_
            refine wp_gd ql_K_149 ?_
            refine wp_bd ?_
            refine wp_of (f_X13_isWrong.eq_1 ..) ?_
            refine wp_gd ql_K_149 ?_
            refine wp_zI ?_
            refine wp_ifp qf_73 ?_
            refine wp_of (f_X13_isWrong_14.eq_1 ..) ?_
            refine wp_gd qf_14 ?_
            refine wp_ret_bd ?_
            refine wp_ifp qf_15 ?_
            refine wp_of (f_X13_people_27.eq_2 ..) ?_
            refine wp_ifn qf_371 ?_
            refine wp_ifn qf_425 ?_
            refine wp_ifn qf_171 ?_
            refine wp_of (f_X13_people_54.eq_1 ..) ?_
            refine wp_lt qf_139 ?_
            refine wp_lt qf_127 ?_
            refine wp_of (f_X13_people_27.eq_2 ..) ?_
            refine wp_ifn qf_374 ?_
            refine wp_ifn qf_425 ?_
            refine wp_ifn qf_426 ?_
            refine wp_of (f_X13_people_54.eq_1 ..) ?_
            refine wp_lt qf_139 ?_
            refine wp_lt qf_129 ?_
            refine wp_of (f_X13_people_27.eq_2 ..) ?_
            refine wp_ifn qf_377 ?_
            refine wp_ifn qf_425 ?_
            refine wp_ifn qf_427 ?_
            refine wp_of (f_X13_people_54.eq_1 ..) ?_
            refine wp_lt qf_139 ?_
            refine wp_lt qf_131 ?_
            refine wp_of (f_X13_people_27.eq_2 ..) ?_
            refine wp_ifn qf_380 ?_
            refine wp_ifn qf_425 ?_
            refine wp_ifn qf_428 ?_
            refine wp_of (f_X13_people_54.eq_1 ..) ?_
            refine wp_lt qf_139 ?_
            refine wp_lt qf_133 ?_
            refine wp_of (f_X13_people_27.eq_2 ..) ?_
            refine wp_ifn qf_383 ?_
            refine wp_ifn qf_425 ?_
            refine wp_ifp qf_429 ?_
            refine wp_of (f_X13_people_44.eq_1 ..) ?_
            refine wp_gd ql_K_149 ?_
            refine wp_lt ql_R_149_3 ?_
            refine wp_gd ql_K_168 ?_
            refine wp_gd (gZi ql_Z_168 qf_384) ?_
            refine wp_lt (gIk qf_51 (Eq.trans (gI_a rfl) ql_I_168_4)) ?_
            refine wp_of (f_X13_people_54.eq_1 ..) ?_
            refine wp_lt qf_373 ?_
            refine wp_lt qf_181 ?_
            refine wp_of (f_X13_people_27.eq_2 ..) ?_
            refine wp_ifn qf_386 ?_
            refine wp_ifn qf_425 ?_
            refine wp_ifn qf_430 ?_
            refine wp_of (f_X13_people_54.eq_1 ..) ?_
            refine wp_lt qf_397 ?_
            refine wp_lt qf_192 ?_
            refine wp_of (f_X13_people_27.eq_2 ..) ?_
            refine wp_ifp qf_389 ?_
            refine wp_ret_bd ?_
            refine wp_gd ql_K_149 ?_
            refine wp_bd ?_
            refine wp_of (f_X13_thrown.eq_1 ..) ?_
            refine wp_gd ql_K_149 ?_
            refine wp_lt gI_s ?_
            refine wp_ret_bd ?_
            refine wp_ifp qf_15 ?_
            refine wp_ifp qf_15 ?_
            refine wp_gd ql_K_173 ?_
            refine wp_gd (gZi ql_Z_173 qf_71) ?_
            refine wp_lt (gLk qf_32 gL_s) ?_
            refine wp_lt qf_360 ?_
            refine wp_lt qf_366 ?_
            refine wp_ifp qf_15 ?_
            refine wp_of (f_L_law_2653.eq_1 ..) ?_
            refine wp_of (f_L_law_3632.eq_1 ..) ?_
            refine wp_lt qf_21 ?_
            exact hrc _
          · skip
            refine wp_gd (gZi ql_Z_50 qf_387) ?_
            refine wp_lt (gIk qf_56 ql_I_50_5) ?_
            refine wp_of (f_X4_sizeOf_23.eq_1 ..) ?_
            refine wp_ret_bd ?_
            refine wp_of (f_X10_people_38.eq_1 ..) ?_
            refine wp_ret_bdc ?_
            refine wp_lt qf_360 ?_
            refine wp_gd ql_K_173 ?_
            refine wp_gd (gZi ql_Z_173 qf_71) ?_
            refine wp_zLk qf_32 ?_
            refine wp_ret_bd ?_
            refine wp_gd qf_0 ?_
            refine wp_lt (xsk qf_1 hy1) ?_
            refine wp_gd ql_K_149 ?_
            refine wp_bd ?_
            refine wp_of (f_X13_people.eq_1 ..) ?_
            refine wp_bd ?_
            refine wp_of (f_X13_isBetween.eq_1 ..) ?_
            refine wp_ifn qf_392 ?_
            refine wp_ifn qf_431 ?_
            refine wp_of (f_X13_isBetween_15.eq_1 ..) ?_
            refine wp_gd qf_18 ?_
            refine wp_ret_bd ?_
            refine wp_ifn qf_19 ?_
            refine wp_of (f_X13_people_15.eq_1 ..) ?_
            refine wp_gd ql_K_149 ?_
            refine wp_bd ?_
            refine wp_of (f_X13_isWrong.eq_1 ..) ?_
            refine wp_gd ql_K_149 ?_
            refine wp_zI ?_
            refine wp_ifp qf_73 ?_
            refine wp_of (f_X13_isWrong_14.eq_1 ..) ?_
            refine wp_gd qf_14 ?_
            refine wp_ret_bd ?_
            refine wp_ifp qf_15 ?_
            refine wp_of (f_X13_people_27.eq_2 ..) ?_
            refine wp_ifn qf_371 ?_
            refine wp_ifn qf_432 ?_
            refine wp_ifn qf_180 ?_
            refine wp_of (f_X13_people_54.eq_1 ..) ?_
            refine wp_lt qf_139 ?_
            refine wp_lt qf_127 ?_
            refine wp_of (f_X13_people_27.eq_2 ..) ?_
            refine wp_ifn qf_374 ?_
            refine wp_ifn qf_432 ?_
            refine wp_ifn qf_433 ?_
            refine wp_of (f_X13_people_54.eq_1 ..) ?_
            refine wp_lt qf_139 ?_
            refine wp_lt qf_129 ?_
            refine wp_of (f_X13_people_27.eq_2 ..) ?_
            refine wp_ifn qf_377 ?_
            refine wp_ifn qf_432 ?_
            refine wp_ifn qf_434 ?_
            refine wp_of (f_X13_people_54.eq_1 ..) ?_
            refine wp_lt qf_139 ?_
            refine wp_lt qf_131 ?_
            refine wp_of (f_X13_people_27.eq_2 ..) ?_
            refine wp_ifn qf_380 ?_
            refine wp_ifn qf_432 ?_
            refine wp_ifn qf_435 ?_
            refine wp_of (f_X13_people_54.eq_1 ..) ?_
            refine wp_lt qf_139 ?_
            refine wp_lt qf_133 ?_
            refine wp_of (f_X13_people_27.eq_2 ..) ?_
            refine wp_ifn qf_383 ?_
            refine wp_ifn qf_432 ?_
            refine wp_ifn qf_436 ?_
            refine wp_of (f_X13_people_54.eq_1 ..) ?_
            refine wp_lt qf_139 ?_
            refine wp_lt qf_181 ?_
            refine wp_of (f_X13_people_27.eq_2 ..) ?_
            refine wp_ifn qf_386 ?_
            refine wp_ifn qf_432 ?_
            refine wp_ifp qf_437 ?_
            refine wp_of (f_X13_people_44.eq_1 ..) ?_
            refine wp_gd ql_K_149 ?_
            refine wp_lt ql_R_149_3 ?_
            refine wp_gd ql_K_168 ?_
            refine wp_gd (gZi ql_Z_168 qf_387) ?_
            refine wp_lt (gIk qf_56 (Eq.trans (gI_a rfl) ql_I_168_5)) ?_
            refine wp_of (f_X13_people_54.eq_1 ..) ?_
            refine wp_lt qf_373 ?_
            refine wp_lt qf_192 ?_
            refine wp_of (f_X13_people_27.eq_2 ..) ?_
            refine wp_ifp qf_389 ?_
            refine wp_ret_bd ?_
            refine wp_gd ql_K_149 ?_
            refine wp_bd ?_
            refine wp_of (f_X13_thrown.eq_1 ..) ?_
            refine wp_gd ql_K_149 ?_
            refine wp_lt gI_s ?_
            refine wp_ret_bd ?_
            refine wp_ifp qf_15 ?_
            refine wp_ifp qf_15 ?_
            refine wp_gd ql_K_173 ?_
            refine wp_gd (gZi ql_Z_173 qf_71) ?_
            refine wp_lt (gLk qf_32 gL_s) ?_
            refine wp_lt qf_360 ?_
            refine wp_lt qf_366 ?_
            refine wp_ifp qf_15 ?_
            refine wp_of (f_L_law_2653.eq_1 ..) ?_
            refine wp_of (f_L_law_3632.eq_1 ..) ?_
            refine wp_lt qf_21 ?_
            exact hrc _
set_option maxRecDepth 100000 in
set_option maxHeartbeats 4000000 in
theorem cs_37 {xs : Nat → Int32} {rc : mS → Nat → Nat → Nat → Nat → Int32 → Option (Rs Int32)} {Q : Rs Int32 → Prop} (hrc : ∀ S, WP Q (rc S 1 149 173 174 8)) : WP Q (f_L_law_2656 8 xs rc (M3I, M3L, M3R, M3D, M3K, M3Z, 174) 1 149 173 174 0) := by
  obtain ⟨y1, hy1⟩ : ∃ y, xs 1 = y := ⟨_, rfl⟩
  refine wp_of (f_L_law_2656.eq_1 ..) ?_
  refine wp_gd qf_0 ?_
  refine wp_lt (xsk qf_1 hy1) ?_
  refine wp_bd ?_
  refine wp_of (f_L_tired.eq_1 ..) ?_
  refine wp_gd ql_K_1 ?_
  refine wp_bdc ?_
  refine wp_of (f_X10_tired.eq_1 ..) ?_
  refine wp_bd ?_
  refine wp_of (f_X10_isIn.eq_1 ..) ?_
  refine wp_if (fun c1 => ?_) (fun c1 => ?_)
  · skip
    refine wp_of (f_X10_isIn_14.eq_1 ..) ?_
    refine wp_of (f_X10_isIn_15.eq_1 ..) ?_
    refine wp_gd qf_14 ?_
    refine wp_ret_bd ?_
    refine wp_bd ?_
    refine wp_of (f_X10_demand.eq_1 ..) ?_
    refine wp_ifp qf_15 ?_
    refine wp_rs_bd ?_
    refine wp_rs_bdc ?_
    refine wp_ifp qf_16 ?_
    refine wp_ret_bd ?_
    refine wp_gd qf_0 ?_
    refine wp_lt (xsk qf_1 hy1) ?_
    refine wp_gd ql_K_149 ?_
    refine wp_bd ?_
    refine wp_of (f_X13_tired.eq_1 ..) ?_
    refine wp_bd ?_
    refine wp_of (f_X13_isBetween.eq_1 ..) ?_
    refine wp_ifp c1 ?_
    refine wp_of (f_X13_isBetween_14.eq_1 ..) ?_
    refine wp_of (f_X13_isBetween_15.eq_1 ..) ?_
    refine wp_gd qf_14 ?_
    refine wp_ret_bd ?_
    refine wp_ifp qf_15 ?_
    refine wp_of (f_X13_tired_15.eq_1 ..) ?_
    refine wp_gd ql_K_149 ?_
    refine wp_bd ?_
    refine wp_of (f_X13_isWrong.eq_1 ..) ?_
    refine wp_gd ql_K_149 ?_
    refine wp_zI ?_
    refine wp_ifn qf_17 ?_
    refine wp_of (f_X13_isWrong_14.eq_1 ..) ?_
    refine wp_gd qf_18 ?_
    refine wp_ret_bd ?_
    refine wp_ifn qf_19 ?_
    refine wp_of (f_X13_tired_31.eq_1 ..) ?_
    refine wp_ret_bd ?_
    refine wp_gd ql_K_149 ?_
    refine wp_bd ?_
    refine wp_of (f_X13_thrown.eq_1 ..) ?_
    refine wp_gd ql_K_149 ?_
    refine wp_lt gI_s ?_
    refine wp_ret_bd ?_
    refine wp_ifp qf_20 ?_
    refine wp_ifn qf_19 ?_
    refine wp_of (f_L_law_2709.eq_1 ..) ?_
    refine wp_of (f_L_law_3632.eq_1 ..) ?_
    refine wp_lt qf_21 ?_
    exact hrc _
  · skip
    refine wp_if (fun c2 => ?_) (fun c2 => ?_)
    · skip
      refine wp_of (f_X10_isIn_14.eq_1 ..) ?_
      refine wp_of (f_X10_isIn_15.eq_1 ..) ?_
      refine wp_gd qf_14 ?_
      refine wp_ret_bd ?_
      refine wp_bd ?_
      refine wp_of (f_X10_demand.eq_1 ..) ?_
      refine wp_ifp qf_15 ?_
      refine wp_rs_bd ?_
      refine wp_rs_bdc ?_
      refine wp_ifp qf_16 ?_
      refine wp_ret_bd ?_
      refine wp_gd qf_0 ?_
      refine wp_lt (xsk qf_1 hy1) ?_
      refine wp_gd ql_K_149 ?_
      refine wp_bd ?_
      refine wp_of (f_X13_tired.eq_1 ..) ?_
      refine wp_bd ?_
      refine wp_of (f_X13_isBetween.eq_1 ..) ?_
      refine wp_ifn c1 ?_
      refine wp_ifp c2 ?_
      refine wp_of (f_X13_isBetween_14.eq_1 ..) ?_
      refine wp_of (f_X13_isBetween_15.eq_1 ..) ?_
      refine wp_gd qf_14 ?_
      refine wp_ret_bd ?_
      refine wp_ifp qf_15 ?_
      refine wp_of (f_X13_tired_15.eq_1 ..) ?_
      refine wp_gd ql_K_149 ?_
      refine wp_bd ?_
      refine wp_of (f_X13_isWrong.eq_1 ..) ?_
      refine wp_gd ql_K_149 ?_
      refine wp_zI ?_
      refine wp_ifn qf_17 ?_
      refine wp_of (f_X13_isWrong_14.eq_1 ..) ?_
      refine wp_gd qf_18 ?_
      refine wp_ret_bd ?_
      refine wp_ifn qf_19 ?_
      refine wp_of (f_X13_tired_31.eq_1 ..) ?_
      refine wp_ret_bd ?_
      refine wp_gd ql_K_149 ?_
      refine wp_bd ?_
      refine wp_of (f_X13_thrown.eq_1 ..) ?_
      refine wp_gd ql_K_149 ?_
      refine wp_lt gI_s ?_
      refine wp_ret_bd ?_
      refine wp_ifp qf_20 ?_
      refine wp_ifn qf_19 ?_
      refine wp_of (f_L_law_2709.eq_1 ..) ?_
      refine wp_of (f_L_law_3632.eq_1 ..) ?_
      refine wp_lt qf_21 ?_
      exact hrc _
    · skip
      refine wp_of (f_X10_isIn_15.eq_1 ..) ?_
      refine wp_gd qf_18 ?_
      refine wp_ret_bd ?_
      refine wp_bd ?_
      refine wp_of (f_X10_demand.eq_1 ..) ?_
      refine wp_ifn qf_19 ?_
      refine wp_ret_bd ?_
      refine wp_gd ql_K_1 ?_
      refine wp_lt ql_R_1_0 ?_
      refine wp_gd ql_K_2 ?_
      refine wp_lt ql_R_2_2 ?_
      refine wp_gd ql_K_49 ?_
      refine wp_bd ?_
      refine wp_of (f_X4_wearOf.eq_1 ..) ?_
      refine wp_ifn c1 ?_
      refine wp_gd ql_K_49 ?_
      refine wp_lt ql_R_49_1 ?_
      refine wp_gd ql_K_51 ?_
      refine wp_lt (gZo ql_Z_51 qf_370) ?_
      refine wp_ifn (show ¬ ((6 : Int32) ≤ y1) from by have e0 := qf_80; have e1 := qf_184; have e2 := qf_195; simp only [Int32.lt_iff_toInt_lt, Int32.le_iff_toInt_le, ← Int32.toInt_inj] at c1 c2 ⊢; omega) ?_
      refine wp_lt ql_R_49_1 ?_
      refine wp_gd ql_K_51 ?_
      rcases (show y1 = (0 : Int32) ∨ y1 = (1 : Int32) ∨ y1 = (2 : Int32) ∨ y1 = (3 : Int32) ∨ y1 = (4 : Int32) ∨ y1 = (5 : Int32) from by have e0 := qf_80; have e1 := qf_85; have e2 := qf_86; have e3 := qf_83; have e4 := qf_84; have e5 := qf_184; simp only [Int32.lt_iff_toInt_lt, Int32.le_iff_toInt_le] at c1 c2; simp only [← Int32.toInt_inj]; omega) with rfl | rfl | rfl | rfl | rfl | rfl
      · skip
        refine wp_gd (gZi ql_Z_51 qf_372) ?_
        refine wp_lt (gIk qf_32 ql_I_51_0) ?_
        refine wp_of (f_X4_wearOf_23.eq_1 ..) ?_
        refine wp_ret_bd ?_
        refine wp_ret_bdc ?_
        refine wp_lt qf_70 ?_
        refine wp_gd ql_K_173 ?_
        refine wp_gd (gZi ql_Z_173 qf_71) ?_
        refine wp_zLk qf_32 ?_
        refine wp_ret_bd ?_
        refine wp_gd qf_0 ?_
        refine wp_lt (xsk qf_1 hy1) ?_
        refine wp_gd ql_K_149 ?_
        refine wp_bd ?_
        refine wp_of (f_X13_tired.eq_1 ..) ?_
        refine wp_bd ?_
        refine wp_of (f_X13_isBetween.eq_1 ..) ?_
        refine wp_ifn qf_28 ?_
        refine wp_ifn qf_53 ?_
        refine wp_of (f_X13_isBetween_15.eq_1 ..) ?_
        refine wp_gd qf_18 ?_
        refine wp_ret_bd ?_
        refine wp_ifn qf_19 ?_
        refine wp_of (f_X13_tired_15.eq_1 ..) ?_
        refine wp_gd ql_K_149 ?_
        refine wp_bd ?_
        refine wp_of (f_X13_isWrong.eq_1 ..) ?_
        refine wp_gd ql_K_149 ?_
        refine wp_zI ?_
        refine wp_ifp qf_73 ?_
        refine wp_of (f_X13_isWrong_14.eq_1 ..) ?_
        refine wp_gd qf_14 ?_
        refine wp_ret_bd ?_
        refine wp_ifp qf_15 ?_
        refine wp_gd ql_K_149 ?_
        refine wp_lt ql_R_149_4 ?_
        refine wp_gd ql_K_169 ?_
        refine wp_gd (gZi ql_Z_169 qf_372) ?_
        refine wp_lt (gIk qf_32 (Eq.trans (gI_a rfl) ql_I_169_0)) ?_
        refine wp_of (f_X13_tired_31.eq_1 ..) ?_
        refine wp_ret_bd ?_
        refine wp_gd ql_K_149 ?_
        refine wp_bd ?_
        refine wp_of (f_X13_thrown.eq_1 ..) ?_
        refine wp_gd ql_K_149 ?_
        refine wp_lt gI_s ?_
        refine wp_ret_bd ?_
        refine wp_ifp qf_15 ?_
        refine wp_ifp qf_15 ?_
        refine wp_gd ql_K_173 ?_
        refine wp_gd (gZi ql_Z_173 qf_71) ?_
        refine wp_lt (gLk qf_32 gL_s) ?_
        refine wp_lt qf_70 ?_
        refine wp_lt qf_103 ?_
        refine wp_ifp qf_15 ?_
        refine wp_of (f_L_law_2709.eq_1 ..) ?_
        refine wp_of (f_L_law_3632.eq_1 ..) ?_
        refine wp_lt qf_21 ?_
        exact hrc _
      · skip
        refine wp_gd (gZi ql_Z_51 qf_375) ?_
        refine wp_lt (gIk qf_36 ql_I_51_1) ?_
        refine wp_of (f_X4_wearOf_23.eq_1 ..) ?_
        refine wp_ret_bd ?_
        refine wp_ret_bdc ?_
        refine wp_lt qf_70 ?_
        refine wp_gd ql_K_173 ?_
        refine wp_gd (gZi ql_Z_173 qf_71) ?_
        refine wp_zLk qf_32 ?_
        refine wp_ret_bd ?_
        refine wp_gd qf_0 ?_
        refine wp_lt (xsk qf_1 hy1) ?_
        refine wp_gd ql_K_149 ?_
        refine wp_bd ?_
        refine wp_of (f_X13_tired.eq_1 ..) ?_
        refine wp_bd ?_
        refine wp_of (f_X13_isBetween.eq_1 ..) ?_
        refine wp_ifn qf_33 ?_
        refine wp_ifn qf_403 ?_
        refine wp_of (f_X13_isBetween_15.eq_1 ..) ?_
        refine wp_gd qf_18 ?_
        refine wp_ret_bd ?_
        refine wp_ifn qf_19 ?_
        refine wp_of (f_X13_tired_15.eq_1 ..) ?_
        refine wp_gd ql_K_149 ?_
        refine wp_bd ?_
        refine wp_of (f_X13_isWrong.eq_1 ..) ?_
        refine wp_gd ql_K_149 ?_
        refine wp_zI ?_
        refine wp_ifp qf_73 ?_
        refine wp_of (f_X13_isWrong_14.eq_1 ..) ?_
        refine wp_gd qf_14 ?_
        refine wp_ret_bd ?_
        refine wp_ifp qf_15 ?_
        refine wp_gd ql_K_149 ?_
        refine wp_lt ql_R_149_4 ?_
        refine wp_gd ql_K_169 ?_
        refine wp_gd (gZi ql_Z_169 qf_375) ?_
        refine wp_lt (gIk qf_36 (Eq.trans (gI_a rfl) ql_I_169_1)) ?_
        refine wp_of (f_X13_tired_31.eq_1 ..) ?_
        refine wp_ret_bd ?_
        refine wp_gd ql_K_149 ?_
        refine wp_bd ?_
        refine wp_of (f_X13_thrown.eq_1 ..) ?_
        refine wp_gd ql_K_149 ?_
        refine wp_lt gI_s ?_
        refine wp_ret_bd ?_
        refine wp_ifp qf_15 ?_
        refine wp_ifp qf_15 ?_
        refine wp_gd ql_K_173 ?_
        refine wp_gd (gZi ql_Z_173 qf_71) ?_
        refine wp_lt (gLk qf_32 gL_s) ?_
        refine wp_lt qf_70 ?_
        refine wp_lt qf_103 ?_
        refine wp_ifp qf_15 ?_
        refine wp_of (f_L_law_2709.eq_1 ..) ?_
        refine wp_of (f_L_law_3632.eq_1 ..) ?_
        refine wp_lt qf_21 ?_
        exact hrc _
      · skip
        refine wp_gd (gZi ql_Z_51 qf_378) ?_
        refine wp_lt (gIk qf_41 ql_I_51_2) ?_
        refine wp_of (f_X4_wearOf_23.eq_1 ..) ?_
        refine wp_ret_bd ?_
        refine wp_ret_bdc ?_
        refine wp_lt qf_70 ?_
        refine wp_gd ql_K_173 ?_
        refine wp_gd (gZi ql_Z_173 qf_71) ?_
        refine wp_zLk qf_32 ?_
        refine wp_ret_bd ?_
        refine wp_gd qf_0 ?_
        refine wp_lt (xsk qf_1 hy1) ?_
        refine wp_gd ql_K_149 ?_
        refine wp_bd ?_
        refine wp_of (f_X13_tired.eq_1 ..) ?_
        refine wp_bd ?_
        refine wp_of (f_X13_isBetween.eq_1 ..) ?_
        refine wp_ifn qf_38 ?_
        refine wp_ifn qf_410 ?_
        refine wp_of (f_X13_isBetween_15.eq_1 ..) ?_
        refine wp_gd qf_18 ?_
        refine wp_ret_bd ?_
        refine wp_ifn qf_19 ?_
        refine wp_of (f_X13_tired_15.eq_1 ..) ?_
        refine wp_gd ql_K_149 ?_
        refine wp_bd ?_
        refine wp_of (f_X13_isWrong.eq_1 ..) ?_
        refine wp_gd ql_K_149 ?_
        refine wp_zI ?_
        refine wp_ifp qf_73 ?_
        refine wp_of (f_X13_isWrong_14.eq_1 ..) ?_
        refine wp_gd qf_14 ?_
        refine wp_ret_bd ?_
        refine wp_ifp qf_15 ?_
        refine wp_gd ql_K_149 ?_
        refine wp_lt ql_R_149_4 ?_
        refine wp_gd ql_K_169 ?_
        refine wp_gd (gZi ql_Z_169 qf_378) ?_
        refine wp_lt (gIk qf_41 (Eq.trans (gI_a rfl) ql_I_169_2)) ?_
        refine wp_of (f_X13_tired_31.eq_1 ..) ?_
        refine wp_ret_bd ?_
        refine wp_gd ql_K_149 ?_
        refine wp_bd ?_
        refine wp_of (f_X13_thrown.eq_1 ..) ?_
        refine wp_gd ql_K_149 ?_
        refine wp_lt gI_s ?_
        refine wp_ret_bd ?_
        refine wp_ifp qf_15 ?_
        refine wp_ifp qf_15 ?_
        refine wp_gd ql_K_173 ?_
        refine wp_gd (gZi ql_Z_173 qf_71) ?_
        refine wp_lt (gLk qf_32 gL_s) ?_
        refine wp_lt qf_70 ?_
        refine wp_lt qf_103 ?_
        refine wp_ifp qf_15 ?_
        refine wp_of (f_L_law_2709.eq_1 ..) ?_
        refine wp_of (f_L_law_3632.eq_1 ..) ?_
        refine wp_lt qf_21 ?_
        exact hrc _
      · skip
        refine wp_gd (gZi ql_Z_51 qf_381) ?_
        refine wp_lt (gIk qf_46 ql_I_51_3) ?_
        refine wp_of (f_X4_wearOf_23.eq_1 ..) ?_
        refine wp_ret_bd ?_
        refine wp_ret_bdc ?_
        refine wp_lt qf_70 ?_
        refine wp_gd ql_K_173 ?_
        refine wp_gd (gZi ql_Z_173 qf_71) ?_
        refine wp_zLk qf_32 ?_
        refine wp_ret_bd ?_
        refine wp_gd qf_0 ?_
        refine wp_lt (xsk qf_1 hy1) ?_
        refine wp_gd ql_K_149 ?_
        refine wp_bd ?_
        refine wp_of (f_X13_tired.eq_1 ..) ?_
        refine wp_bd ?_
        refine wp_of (f_X13_isBetween.eq_1 ..) ?_
        refine wp_ifn qf_43 ?_
        refine wp_ifn qf_417 ?_
        refine wp_of (f_X13_isBetween_15.eq_1 ..) ?_
        refine wp_gd qf_18 ?_
        refine wp_ret_bd ?_
        refine wp_ifn qf_19 ?_
        refine wp_of (f_X13_tired_15.eq_1 ..) ?_
        refine wp_gd ql_K_149 ?_
        refine wp_bd ?_
        refine wp_of (f_X13_isWrong.eq_1 ..) ?_
        refine wp_gd ql_K_149 ?_
        refine wp_zI ?_
        refine wp_ifp qf_73 ?_
        refine wp_of (f_X13_isWrong_14.eq_1 ..) ?_
        refine wp_gd qf_14 ?_
        refine wp_ret_bd ?_
        refine wp_ifp qf_15 ?_
        refine wp_gd ql_K_149 ?_
        refine wp_lt ql_R_149_4 ?_
        refine wp_gd ql_K_169 ?_
        refine wp_gd (gZi ql_Z_169 qf_381) ?_
        refine wp_lt (gIk qf_46 (Eq.trans (gI_a rfl) ql_I_169_3)) ?_
        refine wp_of (f_X13_tired_31.eq_1 ..) ?_
        refine wp_ret_bd ?_
        refine wp_gd ql_K_149 ?_
        refine wp_bd ?_
        refine wp_of (f_X13_thrown.eq_1 ..) ?_
        refine wp_gd ql_K_149 ?_
        refine wp_lt gI_s ?_
        refine wp_ret_bd ?_
        refine wp_ifp qf_15 ?_
        refine wp_ifp qf_15 ?_
        refine wp_gd ql_K_173 ?_
        refine wp_gd (gZi ql_Z_173 qf_71) ?_
        refine wp_lt (gLk qf_32 gL_s) ?_
        refine wp_lt qf_70 ?_
        refine wp_lt qf_103 ?_
        refine wp_ifp qf_15 ?_
        refine wp_of (f_L_law_2709.eq_1 ..) ?_
        refine wp_of (f_L_law_3632.eq_1 ..) ?_
        refine wp_lt qf_21 ?_
        exact hrc _
      · skip
        refine wp_gd (gZi ql_Z_51 qf_384) ?_
        refine wp_lt (gIk qf_51 ql_I_51_4) ?_
        refine wp_of (f_X4_wearOf_23.eq_1 ..) ?_
        refine wp_ret_bd ?_
        refine wp_ret_bdc ?_
        refine wp_lt qf_70 ?_
        refine wp_gd ql_K_173 ?_
        refine wp_gd (gZi ql_Z_173 qf_71) ?_
        refine wp_zLk qf_32 ?_
        refine wp_ret_bd ?_
        refine wp_gd qf_0 ?_
        refine wp_lt (xsk qf_1 hy1) ?_
        refine wp_gd ql_K_149 ?_
        refine wp_bd ?_
        refine wp_of (f_X13_tired.eq_1 ..) ?_
        refine wp_bd ?_
        refine wp_of (f_X13_isBetween.eq_1 ..) ?_
        refine wp_ifn qf_48 ?_
        refine wp_ifn qf_424 ?_
        refine wp_of (f_X13_isBetween_15.eq_1 ..) ?_
        refine wp_gd qf_18 ?_
        refine wp_ret_bd ?_
        refine wp_ifn qf_19 ?_
        refine wp_of (f_X13_tired_15.eq_1 ..) ?_
        refine wp_gd ql_K_149 ?_
        refine wp_bd ?_
        refine wp_of (f_X13_isWrong.eq_1 ..) ?_
        refine wp_gd ql_K_149 ?_
        refine wp_zI ?_
        refine wp_ifp qf_73 ?_
        refine wp_of (f_X13_isWrong_14.eq_1 ..) ?_
        refine wp_gd qf_14 ?_
        refine wp_ret_bd ?_
        refine wp_ifp qf_15 ?_
        refine wp_gd ql_K_149 ?_
        refine wp_lt ql_R_149_4 ?_
        refine wp_gd ql_K_169 ?_
        refine wp_gd (gZi ql_Z_169 qf_384) ?_
        refine wp_lt (gIk qf_51 (Eq.trans (gI_a rfl) ql_I_169_4)) ?_
        refine wp_of (f_X13_tired_31.eq_1 ..) ?_
        refine wp_ret_bd ?_
        refine wp_gd ql_K_149 ?_
        refine wp_bd ?_
        refine wp_of (f_X13_thrown.eq_1 ..) ?_
        refine wp_gd ql_K_149 ?_
        refine wp_lt gI_s ?_
        refine wp_ret_bd ?_
        refine wp_ifp qf_15 ?_
        refine wp_ifp qf_15 ?_
        refine wp_gd ql_K_173 ?_
        refine wp_gd (gZi ql_Z_173 qf_71) ?_
        refine wp_lt (gLk qf_32 gL_s) ?_
        refine wp_lt qf_70 ?_
        refine wp_lt qf_103 ?_
        refine wp_ifp qf_15 ?_
        refine wp_of (f_L_law_2709.eq_1 ..) ?_
        refine wp_of (f_L_law_3632.eq_1 ..) ?_
        refine wp_lt qf_21 ?_
        exact hrc _
      · skip
        refine wp_gd (gZi ql_Z_51 qf_387) ?_
        refine wp_lt (gIk qf_56 ql_I_51_5) ?_
        refine wp_of (f_X4_wearOf_23.eq_1 ..) ?_
        refine wp_ret_bd ?_
        refine wp_ret_bdc ?_
        refine wp_lt qf_70 ?_
        refine wp_gd ql_K_173 ?_
        refine wp_gd (gZi ql_Z_173 qf_71) ?_
        refine wp_zLk qf_32 ?_
        refine wp_ret_bd ?_
        refine wp_gd qf_0 ?_
        refine wp_lt (xsk qf_1 hy1) ?_
        refine wp_gd ql_K_149 ?_
        refine wp_bd ?_
        refine wp_of (f_X13_tired.eq_1 ..) ?_
        refine wp_bd ?_
        refine wp_of (f_X13_isBetween.eq_1 ..) ?_
        refine wp_ifn qf_53 ?_
        refine wp_ifn qf_431 ?_
        refine wp_of (f_X13_isBetween_15.eq_1 ..) ?_
        refine wp_gd qf_18 ?_
        refine wp_ret_bd ?_
        refine wp_ifn qf_19 ?_
        refine wp_of (f_X13_tired_15.eq_1 ..) ?_
        refine wp_gd ql_K_149 ?_
        refine wp_bd ?_
        refine wp_of (f_X13_isWrong.eq_1 ..) ?_
        refine wp_gd ql_K_149 ?_
        refine wp_zI ?_
        refine wp_ifp qf_73 ?_
        refine wp_of (f_X13_isWrong_14.eq_1 ..) ?_
        refine wp_gd qf_14 ?_
        refine wp_ret_bd ?_
        refine wp_ifp qf_15 ?_
        refine wp_gd ql_K_149 ?_
        refine wp_lt ql_R_149_4 ?_
        refine wp_gd ql_K_169 ?_
        refine wp_gd (gZi ql_Z_169 qf_387) ?_
        refine wp_lt (gIk qf_56 (Eq.trans (gI_a rfl) ql_I_169_5)) ?_
        refine wp_of (f_X13_tired_31.eq_1 ..) ?_
        refine wp_ret_bd ?_
        refine wp_gd ql_K_149 ?_
        refine wp_bd ?_
        refine wp_of (f_X13_thrown.eq_1 ..) ?_
        refine wp_gd ql_K_149 ?_
        refine wp_lt gI_s ?_
        refine wp_ret_bd ?_
        refine wp_ifp qf_15 ?_
        refine wp_ifp qf_15 ?_
        refine wp_gd ql_K_173 ?_
        refine wp_gd (gZi ql_Z_173 qf_71) ?_
        refine wp_lt (gLk qf_32 gL_s) ?_
        refine wp_lt qf_70 ?_
        refine wp_lt qf_103 ?_
        refine wp_ifp qf_15 ?_
        refine wp_of (f_L_law_2709.eq_1 ..) ?_
        refine wp_of (f_L_law_3632.eq_1 ..) ?_
        refine wp_lt qf_21 ?_
        exact hrc _
set_option maxRecDepth 100000 in
set_option maxHeartbeats 4000000 in
theorem cs_38 {xs : Nat → Int32} {rc : mS → Nat → Nat → Nat → Nat → Int32 → Option (Rs Int32)} {Q : Rs Int32 → Prop} (hrc : ∀ S, WP Q (rc S 1 149 173 174 8)) : WP Q (f_L_law_2712 8 xs rc (M3I, M3L, M3R, M3D, M3K, M3Z, 174) 1 149 173 174 0) := by
  obtain ⟨y1, hy1⟩ : ∃ y, xs 1 = y := ⟨_, rfl⟩
  refine wp_of (f_L_law_2712.eq_1 ..) ?_
  refine wp_gd qf_0 ?_
  refine wp_lt (xsk qf_1 hy1) ?_
  refine wp_bd ?_
  refine wp_of (f_L_seconds.eq_1 ..) ?_
  refine wp_gd ql_K_1 ?_
  refine wp_bdc ?_
  refine wp_of (f_X10_seconds.eq_1 ..) ?_
  refine wp_gd ql_K_1 ?_
  refine wp_bd ?_
  refine wp_of (f_X10_discOf.eq_1 ..) ?_
  refine wp_gd ql_K_1 ?_
  refine wp_lt ql_R_1_0 ?_
  refine wp_gd ql_K_2 ?_
  refine wp_bd ?_
  refine wp_of (f_X8_discAt.eq_1 ..) ?_
  refine wp_if (fun c1 => ?_) (fun c1 => ?_)
  · skip
    refine wp_of (f_X8_discAt_30.eq_1 ..) ?_
    refine wp_of (f_X8_discAt_31.eq_1 ..) ?_
    refine wp_ret_bd ?_
    refine wp_ifp qf_77 ?_
    refine wp_rs_bd ?_
    refine wp_rs_bdc ?_
    refine wp_ifp qf_78 ?_
    refine wp_ret_bd ?_
    refine wp_gd qf_0 ?_
    refine wp_lt (xsk qf_1 hy1) ?_
    refine wp_gd ql_K_149 ?_
    refine wp_bd ?_
    refine wp_of (f_X13_seconds.eq_1 ..) ?_
    refine wp_gd ql_K_149 ?_
    refine wp_bd ?_
    refine wp_of (f_X13_isDisc.eq_1 ..) ?_
    refine wp_gd ql_K_149 ?_
    refine wp_lt ql_R_149_1 ?_
    refine wp_gd ql_K_150 ?_
    refine wp_bd ?_
    refine wp_of (f_Jx4a65c_size_8abf5.eq_1 ..) ?_
    refine wp_gd ql_K_150 ?_
    refine wp_lt ql_I_150_2 ?_
    refine wp_ret_bd ?_
    refine wp_lt qf_79 ?_
    refine wp_bd ?_
    refine wp_of (f_X13_isBetween.eq_1 ..) ?_
    refine wp_ifp c1 ?_
    refine wp_of (f_X13_isBetween_14.eq_1 ..) ?_
    refine wp_of (f_X13_isBetween_15.eq_1 ..) ?_
    refine wp_gd qf_14 ?_
    refine wp_ret_bd ?_
    refine wp_gd qf_14 ?_
    refine wp_ret_bd ?_
    refine wp_ifp qf_15 ?_
    refine wp_of (f_X13_seconds_14.eq_1 ..) ?_
    refine wp_gd ql_K_149 ?_
    refine wp_bd ?_
    refine wp_of (f_X13_isWrong.eq_1 ..) ?_
    refine wp_gd ql_K_149 ?_
    refine wp_zI ?_
    refine wp_ifn qf_17 ?_
    refine wp_of (f_X13_isWrong_14.eq_1 ..) ?_
    refine wp_gd qf_18 ?_
    refine wp_ret_bd ?_
    refine wp_ifn qf_19 ?_
    refine wp_of (f_X13_seconds_45.eq_1 ..) ?_
    refine wp_ret_bd ?_
    refine wp_gd ql_K_149 ?_
    refine wp_bd ?_
    refine wp_of (f_X13_thrown.eq_1 ..) ?_
    refine wp_gd ql_K_149 ?_
    refine wp_lt gI_s ?_
    refine wp_ret_bd ?_
    refine wp_ifp qf_20 ?_
    refine wp_ifn qf_19 ?_
    refine wp_of (f_L_law_2765.eq_1 ..) ?_
    refine wp_of (f_L_law_3632.eq_1 ..) ?_
    refine wp_lt qf_21 ?_
    exact hrc _
  · skip
    refine wp_gd ql_K_2 ?_
    refine wp_lt ql_I_2_4 ?_
    refine wp_ifp (show ((0 : Int32) ≤ y1) from by have e0 := qf_80; simp only [Int32.lt_iff_toInt_lt, Int32.le_iff_toInt_le, ← Int32.toInt_inj] at c1 ⊢; omega) ?_
    refine wp_of (f_X8_discAt_30.eq_1 ..) ?_
    refine wp_of (f_X8_discAt_31.eq_1 ..) ?_
    refine wp_ret_bd ?_
    refine wp_ifp qf_77 ?_
    refine wp_rs_bd ?_
    refine wp_rs_bdc ?_
    refine wp_ifp qf_78 ?_
    refine wp_ret_bd ?_
    refine wp_gd qf_0 ?_
    refine wp_lt (xsk qf_1 hy1) ?_
    refine wp_gd ql_K_149 ?_
    refine wp_bd ?_
    refine wp_of (f_X13_seconds.eq_1 ..) ?_
    refine wp_gd ql_K_149 ?_
    refine wp_bd ?_
    refine wp_of (f_X13_isDisc.eq_1 ..) ?_
    refine wp_gd ql_K_149 ?_
    refine wp_lt ql_R_149_1 ?_
    refine wp_gd ql_K_150 ?_
    refine wp_bd ?_
    refine wp_of (f_Jx4a65c_size_8abf5.eq_1 ..) ?_
    refine wp_gd ql_K_150 ?_
    refine wp_lt ql_I_150_2 ?_
    refine wp_ret_bd ?_
    refine wp_lt qf_79 ?_
    refine wp_bd ?_
    refine wp_of (f_X13_isBetween.eq_1 ..) ?_
    refine wp_ifn c1 ?_
    refine wp_ifp (show ((-1 : Int32) < y1) from by have e0 := qf_81; have e1 := qf_80; simp only [Int32.lt_iff_toInt_lt, Int32.le_iff_toInt_le, ← Int32.toInt_inj] at c1 ⊢; omega) ?_
    refine wp_of (f_X13_isBetween_14.eq_1 ..) ?_
    refine wp_of (f_X13_isBetween_15.eq_1 ..) ?_
    refine wp_gd qf_14 ?_
    refine wp_ret_bd ?_
    refine wp_gd qf_14 ?_
    refine wp_ret_bd ?_
    refine wp_ifp qf_15 ?_
    refine wp_of (f_X13_seconds_14.eq_1 ..) ?_
    refine wp_gd ql_K_149 ?_
    refine wp_bd ?_
    refine wp_of (f_X13_isWrong.eq_1 ..) ?_
    refine wp_gd ql_K_149 ?_
    refine wp_zI ?_
    refine wp_ifn qf_17 ?_
    refine wp_of (f_X13_isWrong_14.eq_1 ..) ?_
    refine wp_gd qf_18 ?_
    refine wp_ret_bd ?_
    refine wp_ifn qf_19 ?_
    refine wp_of (f_X13_seconds_45.eq_1 ..) ?_
    refine wp_ret_bd ?_
    refine wp_gd ql_K_149 ?_
    refine wp_bd ?_
    refine wp_of (f_X13_thrown.eq_1 ..) ?_
    refine wp_gd ql_K_149 ?_
    refine wp_lt gI_s ?_
    refine wp_ret_bd ?_
    refine wp_ifp qf_20 ?_
    refine wp_ifn qf_19 ?_
    refine wp_of (f_L_law_2765.eq_1 ..) ?_
    refine wp_of (f_L_law_3632.eq_1 ..) ?_
    refine wp_lt qf_21 ?_
    exact hrc _
set_option maxRecDepth 100000 in
set_option maxHeartbeats 4000000 in
theorem cs_39 {xs : Nat → Int32} {rc : mS → Nat → Nat → Nat → Nat → Int32 → Option (Rs Int32)} {Q : Rs Int32 → Prop} (hrc : ∀ S, WP Q (rc S 1 149 173 174 8)) : WP Q (f_L_law_2768 8 xs rc (M3I, M3L, M3R, M3D, M3K, M3Z, 174) 1 149 173 174 0) := by
  obtain ⟨y1, hy1⟩ : ∃ y, xs 1 = y := ⟨_, rfl⟩
  obtain ⟨y2, hy2⟩ : ∃ y, xs 2 = y := ⟨_, rfl⟩
  refine wp_of (f_L_law_2768.eq_1 ..) ?_
  refine wp_gd qf_0 ?_
  refine wp_lt (xsk qf_1 hy1) ?_
  refine wp_gd qf_2 ?_
  refine wp_lt (xsk qf_3 hy2) ?_
  refine wp_bd ?_
  refine wp_of (f_L_setLimit.eq_1 ..) ?_
  refine wp_gd ql_K_1 ?_
  refine wp_bdc ?_
  refine wp_of (f_X10_setLimit.eq_1 ..) ?_
  refine wp_bd ?_
  refine wp_of (f_X10_isIn.eq_1 ..) ?_
  refine wp_if (fun c1 => ?_) (fun c1 => ?_)
  · skip
    refine wp_of (f_X10_isIn_14.eq_1 ..) ?_
    refine wp_of (f_X10_isIn_15.eq_1 ..) ?_
    refine wp_gd qf_14 ?_
    refine wp_ret_bd ?_
    refine wp_ifp qf_15 ?_
    refine wp_of (f_X10_setLimit_24.eq_1 ..) ?_
    refine wp_of (f_X10_setLimit_25.eq_1 ..) ?_
    refine wp_bd ?_
    refine wp_of (f_X10_demand.eq_1 ..) ?_
    refine wp_ifp qf_15 ?_
    refine wp_rs_bd ?_
    refine wp_rs_bdc ?_
    refine wp_ifp qf_16 ?_
    refine wp_ret_bd ?_
    refine wp_gd qf_0 ?_
    refine wp_lt (xsk qf_1 hy1) ?_
    refine wp_gd qf_2 ?_
    refine wp_lt (xsk qf_3 hy2) ?_
    refine wp_gd ql_K_149 ?_
    refine wp_bd ?_
    refine wp_of (f_X13_setLimit.eq_1 ..) ?_
    refine wp_bd ?_
    refine wp_of (f_X13_isBetween.eq_1 ..) ?_
    refine wp_ifp c1 ?_
    refine wp_of (f_X13_isBetween_14.eq_1 ..) ?_
    refine wp_of (f_X13_isBetween_15.eq_1 ..) ?_
    refine wp_gd qf_14 ?_
    refine wp_ret_bd ?_
    refine wp_ifp qf_15 ?_
    refine wp_of (f_X13_setLimit_25.eq_1 ..) ?_
    refine wp_of (f_X13_setLimit_26.eq_1 ..) ?_
    refine wp_gd ql_K_149 ?_
    refine wp_bd ?_
    refine wp_of (f_X13_isWrong.eq_1 ..) ?_
    refine wp_gd ql_K_149 ?_
    refine wp_zI ?_
    refine wp_ifn qf_17 ?_
    refine wp_of (f_X13_isWrong_14.eq_1 ..) ?_
    refine wp_gd qf_18 ?_
    refine wp_ret_bd ?_
    refine wp_ifn qf_19 ?_
    refine wp_ret_bd ?_
    refine wp_gd ql_K_149 ?_
    refine wp_bd ?_
    refine wp_of (f_X13_thrown.eq_1 ..) ?_
    refine wp_gd ql_K_149 ?_
    refine wp_lt gI_s ?_
    refine wp_ret_bd ?_
    refine wp_ifp qf_20 ?_
    refine wp_ifn qf_19 ?_
    refine wp_of (f_L_law_2833.eq_1 ..) ?_
    refine wp_of (f_L_law_3632.eq_1 ..) ?_
    refine wp_lt qf_21 ?_
    exact hrc _
  · skip
    refine wp_if (fun c2 => ?_) (fun c2 => ?_)
    · skip
      refine wp_of (f_X10_isIn_14.eq_1 ..) ?_
      refine wp_of (f_X10_isIn_15.eq_1 ..) ?_
      refine wp_gd qf_14 ?_
      refine wp_ret_bd ?_
      refine wp_ifp qf_15 ?_
      refine wp_of (f_X10_setLimit_24.eq_1 ..) ?_
      refine wp_of (f_X10_setLimit_25.eq_1 ..) ?_
      refine wp_bd ?_
      refine wp_of (f_X10_demand.eq_1 ..) ?_
      refine wp_ifp qf_15 ?_
      refine wp_rs_bd ?_
      refine wp_rs_bdc ?_
      refine wp_ifp qf_16 ?_
      refine wp_ret_bd ?_
      refine wp_gd qf_0 ?_
      refine wp_lt (xsk qf_1 hy1) ?_
      refine wp_gd qf_2 ?_
      refine wp_lt (xsk qf_3 hy2) ?_
      refine wp_gd ql_K_149 ?_
      refine wp_bd ?_
      refine wp_of (f_X13_setLimit.eq_1 ..) ?_
      refine wp_bd ?_
      refine wp_of (f_X13_isBetween.eq_1 ..) ?_
      refine wp_ifn c1 ?_
      refine wp_ifp c2 ?_
      refine wp_of (f_X13_isBetween_14.eq_1 ..) ?_
      refine wp_of (f_X13_isBetween_15.eq_1 ..) ?_
      refine wp_gd qf_14 ?_
      refine wp_ret_bd ?_
      refine wp_ifp qf_15 ?_
      refine wp_of (f_X13_setLimit_25.eq_1 ..) ?_
      refine wp_of (f_X13_setLimit_26.eq_1 ..) ?_
      refine wp_gd ql_K_149 ?_
      refine wp_bd ?_
      refine wp_of (f_X13_isWrong.eq_1 ..) ?_
      refine wp_gd ql_K_149 ?_
      refine wp_zI ?_
      refine wp_ifn qf_17 ?_
      refine wp_of (f_X13_isWrong_14.eq_1 ..) ?_
      refine wp_gd qf_18 ?_
      refine wp_ret_bd ?_
      refine wp_ifn qf_19 ?_
      refine wp_ret_bd ?_
      refine wp_gd ql_K_149 ?_
      refine wp_bd ?_
      refine wp_of (f_X13_thrown.eq_1 ..) ?_
      refine wp_gd ql_K_149 ?_
      refine wp_lt gI_s ?_
      refine wp_ret_bd ?_
      refine wp_ifp qf_20 ?_
      refine wp_ifn qf_19 ?_
      refine wp_of (f_L_law_2833.eq_1 ..) ?_
      refine wp_of (f_L_law_3632.eq_1 ..) ?_
      refine wp_lt qf_21 ?_
      exact hrc _
    · skip
      refine wp_of (f_X10_isIn_15.eq_1 ..) ?_
      refine wp_gd qf_18 ?_
      refine wp_ret_bd ?_
      refine wp_ifn qf_19 ?_
      refine wp_bd ?_
      refine wp_of (f_X10_isIn.eq_1 ..) ?_
      refine wp_if (fun c3 => ?_) (fun c3 => ?_)
      · skip
        refine wp_of (f_X10_isIn_14.eq_1 ..) ?_
        refine wp_of (f_X10_isIn_15.eq_1 ..) ?_
        refine wp_gd qf_14 ?_
        refine wp_ret_bd ?_
        refine wp_ifp qf_15 ?_
        refine wp_of (f_X10_setLimit_24.eq_1 ..) ?_
        refine wp_of (f_X10_setLimit_25.eq_1 ..) ?_
        refine wp_bd ?_
        refine wp_of (f_X10_demand.eq_1 ..) ?_
        refine wp_ifp qf_15 ?_
        refine wp_rs_bd ?_
        refine wp_rs_bdc ?_
        refine wp_ifp qf_16 ?_
        refine wp_ret_bd ?_
        refine wp_gd qf_0 ?_
        refine wp_lt (xsk qf_1 hy1) ?_
        refine wp_gd qf_2 ?_
        refine wp_lt (xsk qf_3 hy2) ?_
        refine wp_gd ql_K_149 ?_
        refine wp_bd ?_
        refine wp_of (f_X13_setLimit.eq_1 ..) ?_
        refine wp_bd ?_
        refine wp_of (f_X13_isBetween.eq_1 ..) ?_
        refine wp_ifn c1 ?_
        refine wp_ifn c2 ?_
        refine wp_of (f_X13_isBetween_15.eq_1 ..) ?_
        refine wp_gd qf_18 ?_
        refine wp_ret_bd ?_
        refine wp_ifn qf_19 ?_
        refine wp_bd ?_
        refine wp_of (f_X13_isBetween.eq_1 ..) ?_
        refine wp_ifp c3 ?_
        refine wp_of (f_X13_isBetween_14.eq_1 ..) ?_
        refine wp_of (f_X13_isBetween_15.eq_1 ..) ?_
        refine wp_gd qf_14 ?_
        refine wp_ret_bd ?_
        refine wp_ifp qf_15 ?_
        refine wp_of (f_X13_setLimit_25.eq_1 ..) ?_
        refine wp_of (f_X13_setLimit_26.eq_1 ..) ?_
        refine wp_gd ql_K_149 ?_
        refine wp_bd ?_
        refine wp_of (f_X13_isWrong.eq_1 ..) ?_
        refine wp_gd ql_K_149 ?_
        refine wp_zI ?_
        refine wp_ifn qf_17 ?_
        refine wp_of (f_X13_isWrong_14.eq_1 ..) ?_
        refine wp_gd qf_18 ?_
        refine wp_ret_bd ?_
        refine wp_ifn qf_19 ?_
        refine wp_ret_bd ?_
        refine wp_gd ql_K_149 ?_
        refine wp_bd ?_
        refine wp_of (f_X13_thrown.eq_1 ..) ?_
        refine wp_gd ql_K_149 ?_
        refine wp_lt gI_s ?_
        refine wp_ret_bd ?_
        refine wp_ifp qf_20 ?_
        refine wp_ifn qf_19 ?_
        refine wp_of (f_L_law_2833.eq_1 ..) ?_
        refine wp_of (f_L_law_3632.eq_1 ..) ?_
        refine wp_lt qf_21 ?_
        exact hrc _
      · skip
        refine wp_if (fun c4 => ?_) (fun c4 => ?_)
        · skip
          refine wp_of (f_X10_isIn_14.eq_1 ..) ?_
          refine wp_of (f_X10_isIn_15.eq_1 ..) ?_
          refine wp_gd qf_14 ?_
          refine wp_ret_bd ?_
          refine wp_ifp qf_15 ?_
          refine wp_of (f_X10_setLimit_24.eq_1 ..) ?_
          refine wp_of (f_X10_setLimit_25.eq_1 ..) ?_
          refine wp_bd ?_
          refine wp_of (f_X10_demand.eq_1 ..) ?_
          refine wp_ifp qf_15 ?_
          refine wp_rs_bd ?_
          refine wp_rs_bdc ?_
          refine wp_ifp qf_16 ?_
          refine wp_ret_bd ?_
          refine wp_gd qf_0 ?_
          refine wp_lt (xsk qf_1 hy1) ?_
          refine wp_gd qf_2 ?_
          refine wp_lt (xsk qf_3 hy2) ?_
          refine wp_gd ql_K_149 ?_
          refine wp_bd ?_
          refine wp_of (f_X13_setLimit.eq_1 ..) ?_
          refine wp_bd ?_
          refine wp_of (f_X13_isBetween.eq_1 ..) ?_
          refine wp_ifn c1 ?_
          refine wp_ifn c2 ?_
          refine wp_of (f_X13_isBetween_15.eq_1 ..) ?_
          refine wp_gd qf_18 ?_
          refine wp_ret_bd ?_
          refine wp_ifn qf_19 ?_
          refine wp_bd ?_
          refine wp_of (f_X13_isBetween.eq_1 ..) ?_
          refine wp_ifn c3 ?_
          refine wp_ifp c4 ?_
          refine wp_of (f_X13_isBetween_14.eq_1 ..) ?_
          refine wp_of (f_X13_isBetween_15.eq_1 ..) ?_
          refine wp_gd qf_14 ?_
          refine wp_ret_bd ?_
          refine wp_ifp qf_15 ?_
          refine wp_of (f_X13_setLimit_25.eq_1 ..) ?_
          refine wp_of (f_X13_setLimit_26.eq_1 ..) ?_
          refine wp_gd ql_K_149 ?_
          refine wp_bd ?_
          refine wp_of (f_X13_isWrong.eq_1 ..) ?_
          refine wp_gd ql_K_149 ?_
          refine wp_zI ?_
          refine wp_ifn qf_17 ?_
          refine wp_of (f_X13_isWrong_14.eq_1 ..) ?_
          refine wp_gd qf_18 ?_
          refine wp_ret_bd ?_
          refine wp_ifn qf_19 ?_
          refine wp_ret_bd ?_
          refine wp_gd ql_K_149 ?_
          refine wp_bd ?_
          refine wp_of (f_X13_thrown.eq_1 ..) ?_
          refine wp_gd ql_K_149 ?_
          refine wp_lt gI_s ?_
          refine wp_ret_bd ?_
          refine wp_ifp qf_20 ?_
          refine wp_ifn qf_19 ?_
          refine wp_of (f_L_law_2833.eq_1 ..) ?_
          refine wp_of (f_L_law_3632.eq_1 ..) ?_
          refine wp_lt qf_21 ?_
          exact hrc _
        · skip
          refine wp_of (f_X10_isIn_15.eq_1 ..) ?_
          refine wp_gd qf_18 ?_
          refine wp_ret_bd ?_
          refine wp_ifn qf_19 ?_
          refine wp_of (f_X10_setLimit_25.eq_1 ..) ?_
          refine wp_bd ?_
          refine wp_of (f_X10_demand.eq_1 ..) ?_
          refine wp_ifn qf_19 ?_
          refine wp_ret_bd ?_
          refine wp_gd ql_K_1 ?_
          refine wp_lt ql_R_1_2 ?_
          refine wp_gd ql_K_106 ?_
          refine wp_bd ?_
          refine wp_of (f_X6_note.eq_1 ..) ?_
          refine wp_gd ql_K_106 ?_
          refine wp_bd ?_
          refine wp_of (f_X6_open.eq_1 ..) ?_
          refine wp_gd ql_K_106 ?_
          refine wp_lt ql_I_106_2 ?_
          refine wp_lt qf_25 ?_
          refine wp_zI ?_
          refine wp_lt (Eq.trans (gI_b rfl) ql_I_106_2) ?_
          refine wp_ifn qf_26 ?_
          refine wp_lt (Eq.trans (gI_b rfl) ql_I_106_2) ?_
          refine wp_lt qf_27 ?_
          refine wp_zI ?_
          refine wp_of (f_X6_open_31.eq_1 ..) ?_
          refine wp_gd ql_K_106 ?_
          refine wp_bd ?_
          refine wp_of (f_X6_put.eq_1 ..) ?_
          refine wp_gd ql_K_106 ?_
          refine wp_lt (Eq.trans (gI_b rfl) gI_s) ?_
          refine wp_ifn qf_28 ?_
          refine wp_lt (Eq.trans (gI_b rfl) gI_s) ?_
          refine wp_lt ql_R_106_0 ?_
          refine wp_gd ql_K_107 ?_
          refine wp_lt (gZo ql_Z_107 qf_29) ?_
          refine wp_ifn qf_30 ?_
          refine wp_lt ql_R_106_0 ?_
          refine wp_lt (Eq.trans (gI_b rfl) gI_s) ?_
          refine wp_gd ql_K_107 ?_
          refine wp_gd (gZi ql_Z_107 qf_31) ?_
          refine wp_zIk qf_32 ?_
          refine wp_lt (Eq.trans (gI_a rfl) (Eq.trans (gI_b rfl) gI_s)) ?_
          refine wp_lt qf_27 ?_
          refine wp_zI ?_
          refine wp_of (f_X6_put_39.eq_1 ..) ?_
          refine wp_ret_bd ?_
          refine wp_ret_bd ?_
          refine wp_gd ql_K_106 ?_
          refine wp_bd ?_
          refine wp_of (f_X6_put.eq_1 ..) ?_
          refine wp_gd ql_K_106 ?_
          refine wp_lt gI_s ?_
          refine wp_ifn qf_33 ?_
          refine wp_lt gI_s ?_
          refine wp_lt ql_R_106_0 ?_
          refine wp_gd ql_K_107 ?_
          refine wp_lt (gZo ql_Z_107 qf_29) ?_
          refine wp_ifn qf_34 ?_
          refine wp_lt ql_R_106_0 ?_
          refine wp_lt gI_s ?_
          refine wp_gd ql_K_107 ?_
          refine wp_gd (gZi ql_Z_107 qf_35) ?_
          refine wp_zIk qf_36 ?_
          refine wp_lt (Eq.trans (gI_a rfl) gI_s) ?_
          refine wp_lt qf_37 ?_
          refine wp_zI ?_
          refine wp_of (f_X6_put_39.eq_1 ..) ?_
          refine wp_ret_bd ?_
          refine wp_gd ql_K_106 ?_
          refine wp_bd ?_
          refine wp_of (f_X6_put.eq_1 ..) ?_
          refine wp_gd ql_K_106 ?_
          refine wp_lt gI_s ?_
          refine wp_ifn qf_38 ?_
          refine wp_lt gI_s ?_
          refine wp_lt ql_R_106_0 ?_
          refine wp_gd ql_K_107 ?_
          refine wp_lt (gZo ql_Z_107 qf_29) ?_
          refine wp_ifn qf_39 ?_
          refine wp_lt ql_R_106_0 ?_
          refine wp_lt gI_s ?_
          refine wp_gd ql_K_107 ?_
          refine wp_gd (gZi ql_Z_107 qf_40) ?_
          refine wp_zIk qf_41 ?_
          refine wp_lt (Eq.trans (gI_a rfl) gI_s) ?_
          refine wp_lt qf_42 ?_
          refine wp_zI ?_
          refine wp_of (f_X6_put_39.eq_1 ..) ?_
          refine wp_ret_bd ?_
          refine wp_gd ql_K_106 ?_
          refine wp_bd ?_
          refine wp_of (f_X6_put.eq_1 ..) ?_
          refine wp_gd ql_K_106 ?_
          refine wp_lt gI_s ?_
          refine wp_ifn qf_43 ?_
          refine wp_lt gI_s ?_
          refine wp_lt ql_R_106_0 ?_
          refine wp_gd ql_K_107 ?_
          refine wp_lt (gZo ql_Z_107 qf_29) ?_
          refine wp_ifn qf_44 ?_
          refine wp_lt ql_R_106_0 ?_
          refine wp_lt gI_s ?_
          refine wp_gd ql_K_107 ?_
          refine wp_gd (gZi ql_Z_107 qf_45) ?_
          refine wp_zIk qf_46 ?_
          refine wp_lt (Eq.trans (gI_a rfl) gI_s) ?_
          refine wp_lt qf_47 ?_
          refine wp_zI ?_
          refine wp_of (f_X6_put_39.eq_1 ..) ?_
          refine wp_ret_bd ?_
          refine wp_ret_bd ?_
          refine wp_gd ql_K_1 ?_
          refine wp_lt ql_R_1_0 ?_
          refine wp_gd ql_K_2 ?_
          refine wp_lt ql_R_2_3 ?_
          refine wp_gd ql_K_52 ?_
          refine wp_bd ?_
          refine wp_of (f_X5_change.eq_1 ..) ?_
          refine wp_ifn c1 ?_
          refine wp_gd ql_K_52 ?_
          refine wp_lt ql_R_52_0 ?_
          refine wp_gd ql_K_53 ?_
          refine wp_lt (gZo ql_Z_53 qf_82) ?_
          refine wp_ifp (show (y1 < (4 : Int32)) from by have e0 := qf_80; have e1 := qf_83; have e2 := qf_84; simp only [Int32.lt_iff_toInt_lt, Int32.le_iff_toInt_le, ← Int32.toInt_inj] at c1 c2 ⊢; omega) ?_
          refine wp_lt ql_R_52_0 ?_
          refine wp_gd ql_K_53 ?_
          rcases (show y1 = (0 : Int32) ∨ y1 = (1 : Int32) ∨ y1 = (2 : Int32) ∨ y1 = (3 : Int32) from by have e0 := qf_80; have e1 := qf_85; have e2 := qf_86; have e3 := qf_83; simp only [Int32.lt_iff_toInt_lt, Int32.le_iff_toInt_le] at c1 c2; simp only [← Int32.toInt_inj]; omega) with rfl | rfl | rfl | rfl
          · skip
            refine wp_gd (gZi ql_Z_53 qf_87) ?_
            refine wp_lt (gIk qf_32 (Eq.trans (gI_a rfl) (Eq.trans (gI_a rfl) (Eq.trans (gI_a rfl) (Eq.trans (gI_a rfl) (Eq.trans (gI_a rfl) (Eq.trans (gI_a rfl) (Eq.trans (gI_a rfl) (Eq.trans (gI_a rfl) (Eq.trans (gI_a rfl) (Eq.trans (gI_a rfl) ql_I_53_0))))))))))) ?_
            refine wp_lt ql_R_52_0 ?_
            refine wp_gd ql_K_53 ?_
            refine wp_gd (gZi ql_Z_53 qf_87) ?_
            refine wp_zIk qf_32 ?_
            refine wp_ret_bd ?_
            refine wp_ret_bdc ?_
            refine wp_lt qf_438 ?_
            refine wp_gd ql_K_173 ?_
            refine wp_gd (gZi ql_Z_173 qf_71) ?_
            refine wp_zLk qf_32 ?_
            refine wp_ret_bd ?_
            refine wp_gd qf_0 ?_
            refine wp_lt (xsk qf_1 hy1) ?_
            refine wp_gd qf_2 ?_
            refine wp_lt (xsk qf_3 hy2) ?_
            refine wp_gd ql_K_149 ?_
            refine wp_bd ?_
            refine wp_of (f_X13_setLimit.eq_1 ..) ?_
            refine wp_bd ?_
            refine wp_of (f_X13_isBetween.eq_1 ..) ?_
            refine wp_ifn qf_28 ?_
            refine wp_ifn qf_43 ?_
            refine wp_of (f_X13_isBetween_15.eq_1 ..) ?_
            refine wp_gd qf_18 ?_
            refine wp_ret_bd ?_
            refine wp_ifn qf_19 ?_
            refine wp_bd ?_
            refine wp_of (f_X13_isBetween.eq_1 ..) ?_
            refine wp_ifn c3 ?_
            refine wp_ifn c4 ?_
            refine wp_of (f_X13_isBetween_15.eq_1 ..) ?_
            refine wp_gd qf_18 ?_
            refine wp_ret_bd ?_
            refine wp_ifn qf_19 ?_
            refine wp_of (f_X13_setLimit_26.eq_1 ..) ?_
            refine wp_gd ql_K_149 ?_
            refine wp_bd ?_
            refine wp_of (f_X13_isWrong.eq_1 ..) ?_
            refine wp_gd ql_K_149 ?_
            refine wp_zI ?_
            refine wp_ifp qf_73 ?_
            refine wp_of (f_X13_isWrong_14.eq_1 ..) ?_
            refine wp_gd qf_14 ?_
            refine wp_ret_bd ?_
            refine wp_ifp qf_15 ?_
            refine wp_gd ql_K_149 ?_
            refine wp_lt ql_R_149_5 ?_
            refine wp_gd ql_K_170 ?_
            refine wp_gd (gZi ql_Z_170 qf_87) ?_
            refine wp_lt (gIk qf_32 (Eq.trans (gI_a rfl) (Eq.trans (gI_a rfl) (Eq.trans (gI_a rfl) (Eq.trans (gI_a rfl) (Eq.trans (gI_a rfl) (Eq.trans (gI_a rfl) (Eq.trans (gI_a rfl) (Eq.trans (gI_a rfl) (Eq.trans (gI_a rfl) (Eq.trans (gI_a rfl) (Eq.trans (gI_a rfl) (Eq.trans (gI_a rfl) ql_I_170_0))))))))))))) ?_
            refine wp_lt ql_R_149_5 ?_
            refine wp_gd ql_K_170 ?_
            refine wp_gd (gZi ql_Z_170 qf_87) ?_
            refine wp_zIk qf_32 ?_
            refine wp_bd ?_
            refine wp_of (f_X13_logs.eq_1 ..) ?_
            refine wp_gd ql_K_149 ?_
            refine wp_lt (Eq.trans (gI_a rfl) (Eq.trans (gI_b rfl) (Eq.trans (gI_a rfl) (Eq.trans (gI_a rfl) (Eq.trans (gI_a rfl) (Eq.trans (gI_a rfl) (Eq.trans (gI_a rfl) (Eq.trans (gI_a rfl) (Eq.trans (gI_a rfl) (Eq.trans (gI_a rfl) (Eq.trans (gI_a rfl) (Eq.trans (gI_a rfl) (Eq.trans (gI_a rfl) ql_I_149_16))))))))))))) ?_
            refine wp_lt qf_27 ?_
            refine wp_zI ?_
            refine wp_ret_bd ?_
            refine wp_ret_bd ?_
            refine wp_gd ql_K_149 ?_
            refine wp_bd ?_
            refine wp_of (f_X13_thrown.eq_1 ..) ?_
            refine wp_gd ql_K_149 ?_
            refine wp_lt (Eq.trans (gI_b rfl) (Eq.trans (gI_a rfl) gI_s)) ?_
            refine wp_ret_bd ?_
            refine wp_ifp qf_15 ?_
            refine wp_ifp qf_15 ?_
            refine wp_gd ql_K_173 ?_
            refine wp_gd (gZi ql_Z_173 qf_71) ?_
            refine wp_lt (gLk qf_32 gL_s) ?_
            refine wp_lt qf_438 ?_
            refine wp_lt qf_439 ?_
            refine wp_ifp qf_15 ?_
            refine wp_of (f_L_law_2833.eq_1 ..) ?_
            refine wp_of (f_L_law_3632.eq_1 ..) ?_
            refine wp_lt qf_21 ?_
            exact hrc _
          · skip
            refine wp_gd (gZi ql_Z_53 qf_89) ?_
            refine wp_lt (gIk qf_36 (Eq.trans (gI_a rfl) (Eq.trans (gI_a rfl) (Eq.trans (gI_a rfl) (Eq.trans (gI_a rfl) (Eq.trans (gI_a rfl) (Eq.trans (gI_a rfl) (Eq.trans (gI_a rfl) (Eq.trans (gI_a rfl) (Eq.trans (gI_a rfl) (Eq.trans (gI_a rfl) ql_I_53_1))))))))))) ?_
            refine wp_lt ql_R_52_0 ?_
            refine wp_gd ql_K_53 ?_
            refine wp_gd (gZi ql_Z_53 qf_89) ?_
            refine wp_zIk qf_36 ?_
            refine wp_ret_bd ?_
            refine wp_ret_bdc ?_
            refine wp_lt qf_438 ?_
            refine wp_gd ql_K_173 ?_
            refine wp_gd (gZi ql_Z_173 qf_71) ?_
            refine wp_zLk qf_32 ?_
            refine wp_ret_bd ?_
            refine wp_gd qf_0 ?_
            refine wp_lt (xsk qf_1 hy1) ?_
            refine wp_gd qf_2 ?_
            refine wp_lt (xsk qf_3 hy2) ?_
            refine wp_gd ql_K_149 ?_
            refine wp_bd ?_
            refine wp_of (f_X13_setLimit.eq_1 ..) ?_
            refine wp_bd ?_
            refine wp_of (f_X13_isBetween.eq_1 ..) ?_
            refine wp_ifn qf_33 ?_
            refine wp_ifn qf_91 ?_
            refine wp_of (f_X13_isBetween_15.eq_1 ..) ?_
            refine wp_gd qf_18 ?_
            refine wp_ret_bd ?_
            refine wp_ifn qf_19 ?_
            refine wp_bd ?_
            refine wp_of (f_X13_isBetween.eq_1 ..) ?_
            refine wp_ifn c3 ?_
            refine wp_ifn c4 ?_
            refine wp_of (f_X13_isBetween_15.eq_1 ..) ?_
            refine wp_gd qf_18 ?_
            refine wp_ret_bd ?_
            refine wp_ifn qf_19 ?_
            refine wp_of (f_X13_setLimit_26.eq_1 ..) ?_
            refine wp_gd ql_K_149 ?_
            refine wp_bd ?_
            refine wp_of (f_X13_isWrong.eq_1 ..) ?_
            refine wp_gd ql_K_149 ?_
            refine wp_zI ?_
            refine wp_ifp qf_73 ?_
            refine wp_of (f_X13_isWrong_14.eq_1 ..) ?_
            refine wp_gd qf_14 ?_
            refine wp_ret_bd ?_
            refine wp_ifp qf_15 ?_
            refine wp_gd ql_K_149 ?_
            refine wp_lt ql_R_149_5 ?_
            refine wp_gd ql_K_170 ?_
            refine wp_gd (gZi ql_Z_170 qf_89) ?_
            refine wp_lt (gIk qf_36 (Eq.trans (gI_a rfl) (Eq.trans (gI_a rfl) (Eq.trans (gI_a rfl) (Eq.trans (gI_a rfl) (Eq.trans (gI_a rfl) (Eq.trans (gI_a rfl) (Eq.trans (gI_a rfl) (Eq.trans (gI_a rfl) (Eq.trans (gI_a rfl) (Eq.trans (gI_a rfl) (Eq.trans (gI_a rfl) (Eq.trans (gI_a rfl) ql_I_170_1))))))))))))) ?_
            refine wp_lt ql_R_149_5 ?_
            refine wp_gd ql_K_170 ?_
            refine wp_gd (gZi ql_Z_170 qf_89) ?_
            refine wp_zIk qf_36 ?_
            refine wp_bd ?_
            refine wp_of (f_X13_logs.eq_1 ..) ?_
            refine wp_gd ql_K_149 ?_
            refine wp_lt (Eq.trans (gI_a rfl) (Eq.trans (gI_b rfl) (Eq.trans (gI_a rfl) (Eq.trans (gI_a rfl) (Eq.trans (gI_a rfl) (Eq.trans (gI_a rfl) (Eq.trans (gI_a rfl) (Eq.trans (gI_a rfl) (Eq.trans (gI_a rfl) (Eq.trans (gI_a rfl) (Eq.trans (gI_a rfl) (Eq.trans (gI_a rfl) (Eq.trans (gI_a rfl) ql_I_149_16))))))))))))) ?_
            refine wp_lt qf_27 ?_
            refine wp_zI ?_
            refine wp_ret_bd ?_
            refine wp_ret_bd ?_
            refine wp_gd ql_K_149 ?_
            refine wp_bd ?_
            refine wp_of (f_X13_thrown.eq_1 ..) ?_
            refine wp_gd ql_K_149 ?_
            refine wp_lt (Eq.trans (gI_b rfl) (Eq.trans (gI_a rfl) gI_s)) ?_
            refine wp_ret_bd ?_
            refine wp_ifp qf_15 ?_
            refine wp_ifp qf_15 ?_
            refine wp_gd ql_K_173 ?_
            refine wp_gd (gZi ql_Z_173 qf_71) ?_
            refine wp_lt (gLk qf_32 gL_s) ?_
            refine wp_lt qf_438 ?_
            refine wp_lt qf_439 ?_
            refine wp_ifp qf_15 ?_
            refine wp_of (f_L_law_2833.eq_1 ..) ?_
            refine wp_of (f_L_law_3632.eq_1 ..) ?_
            refine wp_lt qf_21 ?_
            exact hrc _
          · skip
            refine wp_gd (gZi ql_Z_53 qf_92) ?_
            refine wp_lt (gIk qf_41 (Eq.trans (gI_a rfl) (Eq.trans (gI_a rfl) (Eq.trans (gI_a rfl) (Eq.trans (gI_a rfl) (Eq.trans (gI_a rfl) (Eq.trans (gI_a rfl) (Eq.trans (gI_a rfl) (Eq.trans (gI_a rfl) (Eq.trans (gI_a rfl) (Eq.trans (gI_a rfl) ql_I_53_2))))))))))) ?_
            refine wp_lt ql_R_52_0 ?_
            refine wp_gd ql_K_53 ?_
            refine wp_gd (gZi ql_Z_53 qf_92) ?_
            refine wp_zIk qf_41 ?_
            refine wp_ret_bd ?_
            refine wp_ret_bdc ?_
            refine wp_lt qf_438 ?_
            refine wp_gd ql_K_173 ?_
            refine wp_gd (gZi ql_Z_173 qf_71) ?_
            refine wp_zLk qf_32 ?_
            refine wp_ret_bd ?_
            refine wp_gd qf_0 ?_
            refine wp_lt (xsk qf_1 hy1) ?_
            refine wp_gd qf_2 ?_
            refine wp_lt (xsk qf_3 hy2) ?_
            refine wp_gd ql_K_149 ?_
            refine wp_bd ?_
            refine wp_of (f_X13_setLimit.eq_1 ..) ?_
            refine wp_bd ?_
            refine wp_of (f_X13_isBetween.eq_1 ..) ?_
            refine wp_ifn qf_38 ?_
            refine wp_ifn qf_94 ?_
            refine wp_of (f_X13_isBetween_15.eq_1 ..) ?_
            refine wp_gd qf_18 ?_
            refine wp_ret_bd ?_
            refine wp_ifn qf_19 ?_
            refine wp_bd ?_
            refine wp_of (f_X13_isBetween.eq_1 ..) ?_
            refine wp_ifn c3 ?_
            refine wp_ifn c4 ?_
            refine wp_of (f_X13_isBetween_15.eq_1 ..) ?_
            refine wp_gd qf_18 ?_
            refine wp_ret_bd ?_
            refine wp_ifn qf_19 ?_
            refine wp_of (f_X13_setLimit_26.eq_1 ..) ?_
            refine wp_gd ql_K_149 ?_
            refine wp_bd ?_
            refine wp_of (f_X13_isWrong.eq_1 ..) ?_
            refine wp_gd ql_K_149 ?_
            refine wp_zI ?_
            refine wp_ifp qf_73 ?_
            refine wp_of (f_X13_isWrong_14.eq_1 ..) ?_
            refine wp_gd qf_14 ?_
            refine wp_ret_bd ?_
            refine wp_ifp qf_15 ?_
            refine wp_gd ql_K_149 ?_
            refine wp_lt ql_R_149_5 ?_
            refine wp_gd ql_K_170 ?_
            refine wp_gd (gZi ql_Z_170 qf_92) ?_
            refine wp_lt (gIk qf_41 (Eq.trans (gI_a rfl) (Eq.trans (gI_a rfl) (Eq.trans (gI_a rfl) (Eq.trans (gI_a rfl) (Eq.trans (gI_a rfl) (Eq.trans (gI_a rfl) (Eq.trans (gI_a rfl) (Eq.trans (gI_a rfl) (Eq.trans (gI_a rfl) (Eq.trans (gI_a rfl) (Eq.trans (gI_a rfl) (Eq.trans (gI_a rfl) ql_I_170_2))))))))))))) ?_
            refine wp_lt ql_R_149_5 ?_
            refine wp_gd ql_K_170 ?_
            refine wp_gd (gZi ql_Z_170 qf_92) ?_
            refine wp_zIk qf_41 ?_
            refine wp_bd ?_
            refine wp_of (f_X13_logs.eq_1 ..) ?_
            refine wp_gd ql_K_149 ?_
            refine wp_lt (Eq.trans (gI_a rfl) (Eq.trans (gI_b rfl) (Eq.trans (gI_a rfl) (Eq.trans (gI_a rfl) (Eq.trans (gI_a rfl) (Eq.trans (gI_a rfl) (Eq.trans (gI_a rfl) (Eq.trans (gI_a rfl) (Eq.trans (gI_a rfl) (Eq.trans (gI_a rfl) (Eq.trans (gI_a rfl) (Eq.trans (gI_a rfl) (Eq.trans (gI_a rfl) ql_I_149_16))))))))))))) ?_
            refine wp_lt qf_27 ?_
            refine wp_zI ?_
            refine wp_ret_bd ?_
            refine wp_ret_bd ?_
            refine wp_gd ql_K_149 ?_
            refine wp_bd ?_
            refine wp_of (f_X13_thrown.eq_1 ..) ?_
            refine wp_gd ql_K_149 ?_
            refine wp_lt (Eq.trans (gI_b rfl) (Eq.trans (gI_a rfl) gI_s)) ?_
            refine wp_ret_bd ?_
            refine wp_ifp qf_15 ?_
            refine wp_ifp qf_15 ?_
            refine wp_gd ql_K_173 ?_
            refine wp_gd (gZi ql_Z_173 qf_71) ?_
            refine wp_lt (gLk qf_32 gL_s) ?_
            refine wp_lt qf_438 ?_
            refine wp_lt qf_439 ?_
            refine wp_ifp qf_15 ?_
            refine wp_of (f_L_law_2833.eq_1 ..) ?_
            refine wp_of (f_L_law_3632.eq_1 ..) ?_
            refine wp_lt qf_21 ?_
            exact hrc _
          · skip
            refine wp_gd (gZi ql_Z_53 qf_95) ?_
            refine wp_lt (gIk qf_46 (Eq.trans (gI_a rfl) (Eq.trans (gI_a rfl) (Eq.trans (gI_a rfl) (Eq.trans (gI_a rfl) (Eq.trans (gI_a rfl) (Eq.trans (gI_a rfl) (Eq.trans (gI_a rfl) (Eq.trans (gI_a rfl) (Eq.trans (gI_a rfl) (Eq.trans (gI_a rfl) ql_I_53_3))))))))))) ?_
            refine wp_lt ql_R_52_0 ?_
            refine wp_gd ql_K_53 ?_
            refine wp_gd (gZi ql_Z_53 qf_95) ?_
            refine wp_zIk qf_46 ?_
            refine wp_ret_bd ?_
            refine wp_ret_bdc ?_
            refine wp_lt qf_438 ?_
            refine wp_gd ql_K_173 ?_
            refine wp_gd (gZi ql_Z_173 qf_71) ?_
            refine wp_zLk qf_32 ?_
            refine wp_ret_bd ?_
            refine wp_gd qf_0 ?_
            refine wp_lt (xsk qf_1 hy1) ?_
            refine wp_gd qf_2 ?_
            refine wp_lt (xsk qf_3 hy2) ?_
            refine wp_gd ql_K_149 ?_
            refine wp_bd ?_
            refine wp_of (f_X13_setLimit.eq_1 ..) ?_
            refine wp_bd ?_
            refine wp_of (f_X13_isBetween.eq_1 ..) ?_
            refine wp_ifn qf_43 ?_
            refine wp_ifn qf_97 ?_
            refine wp_of (f_X13_isBetween_15.eq_1 ..) ?_
            refine wp_gd qf_18 ?_
            refine wp_ret_bd ?_
            refine wp_ifn qf_19 ?_
            refine wp_bd ?_
            refine wp_of (f_X13_isBetween.eq_1 ..) ?_
            refine wp_ifn c3 ?_
            refine wp_ifn c4 ?_
            refine wp_of (f_X13_isBetween_15.eq_1 ..) ?_
            refine wp_gd qf_18 ?_
            refine wp_ret_bd ?_
            refine wp_ifn qf_19 ?_
            refine wp_of (f_X13_setLimit_26.eq_1 ..) ?_
            refine wp_gd ql_K_149 ?_
            refine wp_bd ?_
            refine wp_of (f_X13_isWrong.eq_1 ..) ?_
            refine wp_gd ql_K_149 ?_
            refine wp_zI ?_
            refine wp_ifp qf_73 ?_
            refine wp_of (f_X13_isWrong_14.eq_1 ..) ?_
            refine wp_gd qf_14 ?_
            refine wp_ret_bd ?_
            refine wp_ifp qf_15 ?_
            refine wp_gd ql_K_149 ?_
            refine wp_lt ql_R_149_5 ?_
            refine wp_gd ql_K_170 ?_
            refine wp_gd (gZi ql_Z_170 qf_95) ?_
            refine wp_lt (gIk qf_46 (Eq.trans (gI_a rfl) (Eq.trans (gI_a rfl) (Eq.trans (gI_a rfl) (Eq.trans (gI_a rfl) (Eq.trans (gI_a rfl) (Eq.trans (gI_a rfl) (Eq.trans (gI_a rfl) (Eq.trans (gI_a rfl) (Eq.trans (gI_a rfl) (Eq.trans (gI_a rfl) (Eq.trans (gI_a rfl) (Eq.trans (gI_a rfl) ql_I_170_3))))))))))))) ?_
            refine wp_lt ql_R_149_5 ?_
            refine wp_gd ql_K_170 ?_
            refine wp_gd (gZi ql_Z_170 qf_95) ?_
            refine wp_zIk qf_46 ?_
            refine wp_bd ?_
            refine wp_of (f_X13_logs.eq_1 ..) ?_
            refine wp_gd ql_K_149 ?_
            refine wp_lt (Eq.trans (gI_a rfl) (Eq.trans (gI_b rfl) (Eq.trans (gI_a rfl) (Eq.trans (gI_a rfl) (Eq.trans (gI_a rfl) (Eq.trans (gI_a rfl) (Eq.trans (gI_a rfl) (Eq.trans (gI_a rfl) (Eq.trans (gI_a rfl) (Eq.trans (gI_a rfl) (Eq.trans (gI_a rfl) (Eq.trans (gI_a rfl) (Eq.trans (gI_a rfl) ql_I_149_16))))))))))))) ?_
            refine wp_lt qf_27 ?_
            refine wp_zI ?_
            refine wp_ret_bd ?_
            refine wp_ret_bd ?_
            refine wp_gd ql_K_149 ?_
            refine wp_bd ?_
            refine wp_of (f_X13_thrown.eq_1 ..) ?_
            refine wp_gd ql_K_149 ?_
            refine wp_lt (Eq.trans (gI_b rfl) (Eq.trans (gI_a rfl) gI_s)) ?_
            refine wp_ret_bd ?_
            refine wp_ifp qf_15 ?_
            refine wp_ifp qf_15 ?_
            refine wp_gd ql_K_173 ?_
            refine wp_gd (gZi ql_Z_173 qf_71) ?_
            refine wp_lt (gLk qf_32 gL_s) ?_
            refine wp_lt qf_438 ?_
            refine wp_lt qf_439 ?_
            refine wp_ifp qf_15 ?_
            refine wp_of (f_L_law_2833.eq_1 ..) ?_
            refine wp_of (f_L_law_3632.eq_1 ..) ?_
            refine wp_lt qf_21 ?_
            exact hrc _
set_option maxRecDepth 100000 in
set_option maxHeartbeats 4000000 in
theorem cs_40 {xs : Nat → Int32} {rc : mS → Nat → Nat → Nat → Nat → Int32 → Option (Rs Int32)} {Q : Rs Int32 → Prop} (hrc : ∀ S, WP Q (rc S 1 149 173 174 8)) : WP Q (f_L_law_2836 8 xs rc (M3I, M3L, M3R, M3D, M3K, M3Z, 174) 1 149 173 174 0) := by
  refine wp_of (f_L_law_2836.eq_1 ..) ?_
  refine wp_gd ql_K_1 ?_
  refine wp_bd ?_
  refine wp_of (f_X10_breaches.eq_1 ..) ?_
  refine wp_gd ql_K_1 ?_
  refine wp_lt ql_R_1_0 ?_
  refine wp_gd ql_K_2 ?_
  refine wp_lt ql_R_2_3 ?_
  refine wp_gd ql_K_52 ?_
  refine wp_lt ql_I_52_1 ?_
  refine wp_ret_bd ?_
  refine wp_gd ql_K_149 ?_
  refine wp_bd ?_
  refine wp_of (f_X13_breaches.eq_1 ..) ?_
  refine wp_gd ql_K_149 ?_
  refine wp_lt ql_I_149_14 ?_
  refine wp_bd ?_
  refine wp_of (f_X13_plain.eq_1 ..) ?_
  refine wp_gd ql_K_149 ?_
  refine wp_zI ?_
  refine wp_ret_bd ?_
  refine wp_ret_bd ?_
  refine wp_ifp qf_15 ?_
  refine wp_of (f_L_law_3632.eq_1 ..) ?_
  refine wp_lt qf_21 ?_
  exact hrc _
set_option maxRecDepth 100000 in
set_option maxHeartbeats 4000000 in
theorem cs_41 {xs : Nat → Int32} {rc : mS → Nat → Nat → Nat → Nat → Int32 → Option (Rs Int32)} {Q : Rs Int32 → Prop} (hrc : ∀ S, WP Q (rc S 1 149 173 174 8)) : WP Q (f_L_law_2849 8 xs rc (M3I, M3L, M3R, M3D, M3K, M3Z, 174) 1 149 173 174 0) := by
  obtain ⟨y1, hy1⟩ : ∃ y, xs 1 = y := ⟨_, rfl⟩
  obtain ⟨y2, hy2⟩ : ∃ y, xs 2 = y := ⟨_, rfl⟩
  refine wp_of (f_L_law_2849.eq_1 ..) ?_
  refine wp_gd qf_0 ?_
  refine wp_lt (xsk qf_1 hy1) ?_
  refine wp_gd qf_2 ?_
  refine wp_lt (xsk qf_3 hy2) ?_
  refine wp_bd ?_
  refine wp_of (f_L_strobe.eq_1 ..) ?_
  refine wp_gd ql_K_1 ?_
  refine wp_bdc ?_
  refine wp_of (f_X10_strobe.eq_1 ..) ?_
  refine wp_bd ?_
  refine wp_of (f_X10_isIn.eq_1 ..) ?_
  refine wp_if (fun c1 => ?_) (fun c1 => ?_)
  · skip
    refine wp_of (f_X10_isIn_14.eq_1 ..) ?_
    refine wp_of (f_X10_isIn_15.eq_1 ..) ?_
    refine wp_gd qf_14 ?_
    refine wp_ret_bd ?_
    refine wp_ifp qf_15 ?_
    refine wp_of (f_X10_strobe_24.eq_1 ..) ?_
    refine wp_of (f_X10_strobe_25.eq_1 ..) ?_
    refine wp_bd ?_
    refine wp_of (f_X10_demand.eq_1 ..) ?_
    refine wp_ifp qf_15 ?_
    refine wp_rs_bd ?_
    refine wp_rs_bdc ?_
    refine wp_ifp qf_16 ?_
    refine wp_ret_bd ?_
    refine wp_gd qf_0 ?_
    refine wp_lt (xsk qf_1 hy1) ?_
    refine wp_gd qf_2 ?_
    refine wp_lt (xsk qf_3 hy2) ?_
    refine wp_gd ql_K_149 ?_
    refine wp_bd ?_
    refine wp_of (f_X13_strobe.eq_1 ..) ?_
    refine wp_bd ?_
    refine wp_of (f_X13_isBetween.eq_1 ..) ?_
    refine wp_ifp c1 ?_
    refine wp_of (f_X13_isBetween_14.eq_1 ..) ?_
    refine wp_of (f_X13_isBetween_15.eq_1 ..) ?_
    refine wp_gd qf_14 ?_
    refine wp_ret_bd ?_
    refine wp_ifp qf_15 ?_
    refine wp_of (f_X13_strobe_25.eq_1 ..) ?_
    refine wp_of (f_X13_strobe_26.eq_1 ..) ?_
    refine wp_gd ql_K_149 ?_
    refine wp_bd ?_
    refine wp_of (f_X13_isWrong.eq_1 ..) ?_
    refine wp_gd ql_K_149 ?_
    refine wp_zI ?_
    refine wp_ifn qf_17 ?_
    refine wp_of (f_X13_isWrong_14.eq_1 ..) ?_
    refine wp_gd qf_18 ?_
    refine wp_ret_bd ?_
    refine wp_ifn qf_19 ?_
    refine wp_ret_bd ?_
    refine wp_gd ql_K_149 ?_
    refine wp_bd ?_
    refine wp_of (f_X13_thrown.eq_1 ..) ?_
    refine wp_gd ql_K_149 ?_
    refine wp_lt gI_s ?_
    refine wp_ret_bd ?_
    refine wp_ifp qf_20 ?_
    refine wp_ifn qf_19 ?_
    refine wp_of (f_L_law_2914.eq_1 ..) ?_
    refine wp_of (f_L_law_3632.eq_1 ..) ?_
    refine wp_lt qf_21 ?_
    exact hrc _
  · skip
    refine wp_if (fun c2 => ?_) (fun c2 => ?_)
    · skip
      refine wp_of (f_X10_isIn_14.eq_1 ..) ?_
      refine wp_of (f_X10_isIn_15.eq_1 ..) ?_
      refine wp_gd qf_14 ?_
      refine wp_ret_bd ?_
      refine wp_ifp qf_15 ?_
      refine wp_of (f_X10_strobe_24.eq_1 ..) ?_
      refine wp_of (f_X10_strobe_25.eq_1 ..) ?_
      refine wp_bd ?_
      refine wp_of (f_X10_demand.eq_1 ..) ?_
      refine wp_ifp qf_15 ?_
      refine wp_rs_bd ?_
      refine wp_rs_bdc ?_
      refine wp_ifp qf_16 ?_
      refine wp_ret_bd ?_
      refine wp_gd qf_0 ?_
      refine wp_lt (xsk qf_1 hy1) ?_
      refine wp_gd qf_2 ?_
      refine wp_lt (xsk qf_3 hy2) ?_
      refine wp_gd ql_K_149 ?_
      refine wp_bd ?_
      refine wp_of (f_X13_strobe.eq_1 ..) ?_
      refine wp_bd ?_
      refine wp_of (f_X13_isBetween.eq_1 ..) ?_
      refine wp_ifn c1 ?_
      refine wp_ifp c2 ?_
      refine wp_of (f_X13_isBetween_14.eq_1 ..) ?_
      refine wp_of (f_X13_isBetween_15.eq_1 ..) ?_
      refine wp_gd qf_14 ?_
      refine wp_ret_bd ?_
      refine wp_ifp qf_15 ?_
      refine wp_of (f_X13_strobe_25.eq_1 ..) ?_
      refine wp_of (f_X13_strobe_26.eq_1 ..) ?_
      refine wp_gd ql_K_149 ?_
      refine wp_bd ?_
      refine wp_of (f_X13_isWrong.eq_1 ..) ?_
      refine wp_gd ql_K_149 ?_
      refine wp_zI ?_
      refine wp_ifn qf_17 ?_
      refine wp_of (f_X13_isWrong_14.eq_1 ..) ?_
      refine wp_gd qf_18 ?_
      refine wp_ret_bd ?_
      refine wp_ifn qf_19 ?_
      refine wp_ret_bd ?_
      refine wp_gd ql_K_149 ?_
      refine wp_bd ?_
      refine wp_of (f_X13_thrown.eq_1 ..) ?_
      refine wp_gd ql_K_149 ?_
      refine wp_lt gI_s ?_
      refine wp_ret_bd ?_
      refine wp_ifp qf_20 ?_
      refine wp_ifn qf_19 ?_
      refine wp_of (f_L_law_2914.eq_1 ..) ?_
      refine wp_of (f_L_law_3632.eq_1 ..) ?_
      refine wp_lt qf_21 ?_
      exact hrc _
    · skip
      refine wp_of (f_X10_isIn_15.eq_1 ..) ?_
      refine wp_gd qf_18 ?_
      refine wp_ret_bd ?_
      refine wp_ifn qf_19 ?_
      refine wp_bd ?_
      refine wp_of (f_X10_isIn.eq_1 ..) ?_
      refine wp_if (fun c3 => ?_) (fun c3 => ?_)
      · skip
        refine wp_of (f_X10_isIn_14.eq_1 ..) ?_
        refine wp_of (f_X10_isIn_15.eq_1 ..) ?_
        refine wp_gd qf_14 ?_
        refine wp_ret_bd ?_
        refine wp_ifp qf_15 ?_
        refine wp_of (f_X10_strobe_24.eq_1 ..) ?_
        refine wp_of (f_X10_strobe_25.eq_1 ..) ?_
        refine wp_bd ?_
        refine wp_of (f_X10_demand.eq_1 ..) ?_
        refine wp_ifp qf_15 ?_
        refine wp_rs_bd ?_
        refine wp_rs_bdc ?_
        refine wp_ifp qf_16 ?_
        refine wp_ret_bd ?_
        refine wp_gd qf_0 ?_
        refine wp_lt (xsk qf_1 hy1) ?_
        refine wp_gd qf_2 ?_
        refine wp_lt (xsk qf_3 hy2) ?_
        refine wp_gd ql_K_149 ?_
        refine wp_bd ?_
        refine wp_of (f_X13_strobe.eq_1 ..) ?_
        refine wp_bd ?_
        refine wp_of (f_X13_isBetween.eq_1 ..) ?_
        refine wp_ifn c1 ?_
        refine wp_ifn c2 ?_
        refine wp_of (f_X13_isBetween_15.eq_1 ..) ?_
        refine wp_gd qf_18 ?_
        refine wp_ret_bd ?_
        refine wp_ifn qf_19 ?_
        refine wp_bd ?_
        refine wp_of (f_X13_isBetween.eq_1 ..) ?_
        refine wp_ifp c3 ?_
        refine wp_of (f_X13_isBetween_14.eq_1 ..) ?_
        refine wp_of (f_X13_isBetween_15.eq_1 ..) ?_
        refine wp_gd qf_14 ?_
        refine wp_ret_bd ?_
        refine wp_ifp qf_15 ?_
        refine wp_of (f_X13_strobe_25.eq_1 ..) ?_
        refine wp_of (f_X13_strobe_26.eq_1 ..) ?_
        refine wp_gd ql_K_149 ?_
        refine wp_bd ?_
        refine wp_of (f_X13_isWrong.eq_1 ..) ?_
        refine wp_gd ql_K_149 ?_
        refine wp_zI ?_
        refine wp_ifn qf_17 ?_
        refine wp_of (f_X13_isWrong_14.eq_1 ..) ?_
        refine wp_gd qf_18 ?_
        refine wp_ret_bd ?_
        refine wp_ifn qf_19 ?_
        refine wp_ret_bd ?_
        refine wp_gd ql_K_149 ?_
        refine wp_bd ?_
        refine wp_of (f_X13_thrown.eq_1 ..) ?_
        refine wp_gd ql_K_149 ?_
        refine wp_lt gI_s ?_
        refine wp_ret_bd ?_
        refine wp_ifp qf_20 ?_
        refine wp_ifn qf_19 ?_
        refine wp_of (f_L_law_2914.eq_1 ..) ?_
        refine wp_of (f_L_law_3632.eq_1 ..) ?_
        refine wp_lt qf_21 ?_
        exact hrc _
      · skip
        refine wp_if (fun c4 => ?_) (fun c4 => ?_)
        · skip
          refine wp_of (f_X10_isIn_14.eq_1 ..) ?_
          refine wp_of (f_X10_isIn_15.eq_1 ..) ?_
          refine wp_gd qf_14 ?_
          refine wp_ret_bd ?_
          refine wp_ifp qf_15 ?_
          refine wp_of (f_X10_strobe_24.eq_1 ..) ?_
          refine wp_of (f_X10_strobe_25.eq_1 ..) ?_
          refine wp_bd ?_
          refine wp_of (f_X10_demand.eq_1 ..) ?_
          refine wp_ifp qf_15 ?_
          refine wp_rs_bd ?_
          refine wp_rs_bdc ?_
          refine wp_ifp qf_16 ?_
          refine wp_ret_bd ?_
          refine wp_gd qf_0 ?_
          refine wp_lt (xsk qf_1 hy1) ?_
          refine wp_gd qf_2 ?_
          refine wp_lt (xsk qf_3 hy2) ?_
          refine wp_gd ql_K_149 ?_
          refine wp_bd ?_
          refine wp_of (f_X13_strobe.eq_1 ..) ?_
          refine wp_bd ?_
          refine wp_of (f_X13_isBetween.eq_1 ..) ?_
          refine wp_ifn c1 ?_
          refine wp_ifn c2 ?_
          refine wp_of (f_X13_isBetween_15.eq_1 ..) ?_
          refine wp_gd qf_18 ?_
          refine wp_ret_bd ?_
          refine wp_ifn qf_19 ?_
          refine wp_bd ?_
          refine wp_of (f_X13_isBetween.eq_1 ..) ?_
          refine wp_ifn c3 ?_
          refine wp_ifp c4 ?_
          refine wp_of (f_X13_isBetween_14.eq_1 ..) ?_
          refine wp_of (f_X13_isBetween_15.eq_1 ..) ?_
          refine wp_gd qf_14 ?_
          refine wp_ret_bd ?_
          refine wp_ifp qf_15 ?_
          refine wp_of (f_X13_strobe_25.eq_1 ..) ?_
          refine wp_of (f_X13_strobe_26.eq_1 ..) ?_
          refine wp_gd ql_K_149 ?_
          refine wp_bd ?_
          refine wp_of (f_X13_isWrong.eq_1 ..) ?_
          refine wp_gd ql_K_149 ?_
          refine wp_zI ?_
          refine wp_ifn qf_17 ?_
          refine wp_of (f_X13_isWrong_14.eq_1 ..) ?_
          refine wp_gd qf_18 ?_
          refine wp_ret_bd ?_
          refine wp_ifn qf_19 ?_
          refine wp_ret_bd ?_
          refine wp_gd ql_K_149 ?_
          refine wp_bd ?_
          refine wp_of (f_X13_thrown.eq_1 ..) ?_
          refine wp_gd ql_K_149 ?_
          refine wp_lt gI_s ?_
          refine wp_ret_bd ?_
          refine wp_ifp qf_20 ?_
          refine wp_ifn qf_19 ?_
          refine wp_of (f_L_law_2914.eq_1 ..) ?_
          refine wp_of (f_L_law_3632.eq_1 ..) ?_
          refine wp_lt qf_21 ?_
          exact hrc _
        · skip
          refine wp_of (f_X10_isIn_15.eq_1 ..) ?_
          refine wp_gd qf_18 ?_
          refine wp_ret_bd ?_
          refine wp_ifn qf_19 ?_
          refine wp_of (f_X10_strobe_25.eq_1 ..) ?_
          refine wp_bd ?_
          refine wp_of (f_X10_demand.eq_1 ..) ?_
          refine wp_ifn qf_19 ?_
          refine wp_ret_bd ?_
          refine wp_gd ql_K_1 ?_
          refine wp_lt ql_R_1_2 ?_
          refine wp_gd ql_K_106 ?_
          refine wp_bd ?_
          refine wp_of (f_X6_note.eq_1 ..) ?_
          refine wp_gd ql_K_106 ?_
          refine wp_bd ?_
          refine wp_of (f_X6_open.eq_1 ..) ?_
          refine wp_gd ql_K_106 ?_
          refine wp_lt ql_I_106_2 ?_
          refine wp_lt qf_25 ?_
          refine wp_zI ?_
          refine wp_lt (Eq.trans (gI_b rfl) ql_I_106_2) ?_
          refine wp_ifn qf_26 ?_
          refine wp_lt (Eq.trans (gI_b rfl) ql_I_106_2) ?_
          refine wp_lt qf_27 ?_
          refine wp_zI ?_
          refine wp_of (f_X6_open_31.eq_1 ..) ?_
          refine wp_gd ql_K_106 ?_
          refine wp_bd ?_
          refine wp_of (f_X6_put.eq_1 ..) ?_
          refine wp_gd ql_K_106 ?_
          refine wp_lt (Eq.trans (gI_b rfl) gI_s) ?_
          refine wp_ifn qf_28 ?_
          refine wp_lt (Eq.trans (gI_b rfl) gI_s) ?_
          refine wp_lt ql_R_106_0 ?_
          refine wp_gd ql_K_107 ?_
          refine wp_lt (gZo ql_Z_107 qf_29) ?_
          refine wp_ifn qf_30 ?_
          refine wp_lt ql_R_106_0 ?_
          refine wp_lt (Eq.trans (gI_b rfl) gI_s) ?_
          refine wp_gd ql_K_107 ?_
          refine wp_gd (gZi ql_Z_107 qf_31) ?_
          refine wp_zIk qf_32 ?_
          refine wp_lt (Eq.trans (gI_a rfl) (Eq.trans (gI_b rfl) gI_s)) ?_
          refine wp_lt qf_27 ?_
          refine wp_zI ?_
          refine wp_of (f_X6_put_39.eq_1 ..) ?_
          refine wp_ret_bd ?_
          refine wp_ret_bd ?_
          refine wp_gd ql_K_106 ?_
          refine wp_bd ?_
          refine wp_of (f_X6_put.eq_1 ..) ?_
          refine wp_gd ql_K_106 ?_
          refine wp_lt gI_s ?_
          refine wp_ifn qf_33 ?_
          refine wp_lt gI_s ?_
          refine wp_lt ql_R_106_0 ?_
          refine wp_gd ql_K_107 ?_
          refine wp_lt (gZo ql_Z_107 qf_29) ?_
          refine wp_ifn qf_34 ?_
          refine wp_lt ql_R_106_0 ?_
          refine wp_lt gI_s ?_
          refine wp_gd ql_K_107 ?_
          refine wp_gd (gZi ql_Z_107 qf_35) ?_
          refine wp_zIk qf_36 ?_
          refine wp_lt (Eq.trans (gI_a rfl) gI_s) ?_
          refine wp_lt qf_37 ?_
          refine wp_zI ?_
          refine wp_of (f_X6_put_39.eq_1 ..) ?_
          refine wp_ret_bd ?_
          refine wp_gd ql_K_106 ?_
          refine wp_bd ?_
          refine wp_of (f_X6_put.eq_1 ..) ?_
          refine wp_gd ql_K_106 ?_
          refine wp_lt gI_s ?_
          refine wp_ifn qf_38 ?_
          refine wp_lt gI_s ?_
          refine wp_lt ql_R_106_0 ?_
          refine wp_gd ql_K_107 ?_
          refine wp_lt (gZo ql_Z_107 qf_29) ?_
          refine wp_ifn qf_39 ?_
          refine wp_lt ql_R_106_0 ?_
          refine wp_lt gI_s ?_
          refine wp_gd ql_K_107 ?_
          refine wp_gd (gZi ql_Z_107 qf_40) ?_
          refine wp_zIk qf_41 ?_
          refine wp_lt (Eq.trans (gI_a rfl) gI_s) ?_
          refine wp_lt qf_42 ?_
          refine wp_zI ?_
          refine wp_of (f_X6_put_39.eq_1 ..) ?_
          refine wp_ret_bd ?_
          refine wp_gd ql_K_106 ?_
          refine wp_bd ?_
          refine wp_of (f_X6_put.eq_1 ..) ?_
          refine wp_gd ql_K_106 ?_
          refine wp_lt gI_s ?_
          refine wp_ifn qf_43 ?_
          refine wp_lt gI_s ?_
          refine wp_lt ql_R_106_0 ?_
          refine wp_gd ql_K_107 ?_
          refine wp_lt (gZo ql_Z_107 qf_29) ?_
          refine wp_ifn qf_44 ?_
          refine wp_lt ql_R_106_0 ?_
          refine wp_lt gI_s ?_
          refine wp_gd ql_K_107 ?_
          refine wp_gd (gZi ql_Z_107 qf_45) ?_
          refine wp_zIk qf_46 ?_
          refine wp_lt (Eq.trans (gI_a rfl) gI_s) ?_
          refine wp_lt qf_47 ?_
          refine wp_zI ?_
          refine wp_of (f_X6_put_39.eq_1 ..) ?_
          refine wp_ret_bd ?_
          refine wp_ret_bd ?_
          refine wp_gd ql_K_1 ?_
          refine wp_lt ql_R_1_0 ?_
          refine wp_gd ql_K_2 ?_
          refine wp_bd ?_
          refine wp_of (f_X8_setLights.eq_1 ..) ?_
          refine wp_gd ql_K_2 ?_
          refine wp_zI ?_
          refine wp_ltite (fun c5 => ?_) (fun c5 => ?_)
          · skip
            refine wp_ret_bd ?_
            refine wp_ret_bdc ?_
            refine wp_lt qf_240 ?_
            refine wp_gd ql_K_173 ?_
            refine wp_gd (gZi ql_Z_173 qf_71) ?_
            refine wp_zLk qf_32 ?_
            refine wp_ret_bd ?_
            refine wp_gd qf_0 ?_
            refine wp_lt (xsk qf_1 hy1) ?_
            refine wp_gd qf_2 ?_
            refine wp_lt (xsk qf_3 hy2) ?_
            refine wp_gd ql_K_149 ?_
            refine wp_bd ?_
            refine wp_of (f_X13_strobe.eq_1 ..) ?_
            refine wp_bd ?_
            refine wp_of (f_X13_isBetween.eq_1 ..) ?_
            refine wp_ifn c1 ?_
            refine wp_ifn c2 ?_
            refine wp_of (f_X13_isBetween_15.eq_1 ..) ?_
            refine wp_gd qf_18 ?_
            refine wp_ret_bd ?_
            refine wp_ifn qf_19 ?_
            refine wp_bd ?_
            refine wp_of (f_X13_isBetween.eq_1 ..) ?_
            refine wp_ifn c3 ?_
            refine wp_ifn c4 ?_
            refine wp_of (f_X13_isBetween_15.eq_1 ..) ?_
            refine wp_gd qf_18 ?_
            refine wp_ret_bd ?_
            refine wp_ifn qf_19 ?_
            refine wp_of (f_X13_strobe_26.eq_1 ..) ?_
            refine wp_gd ql_K_149 ?_
            refine wp_bd ?_
            refine wp_of (f_X13_isWrong.eq_1 ..) ?_
            refine wp_gd ql_K_149 ?_
            refine wp_zI ?_
            refine wp_ifp qf_73 ?_
            refine wp_of (f_X13_isWrong_14.eq_1 ..) ?_
            refine wp_gd qf_14 ?_
            refine wp_ret_bd ?_
            refine wp_ifp qf_15 ?_
            refine wp_gd ql_K_149 ?_
            refine wp_zI ?_
            refine wp_bd ?_
            refine wp_of (f_X13_logs.eq_1 ..) ?_
            refine wp_gd ql_K_149 ?_
            refine wp_lt (Eq.trans (gI_b rfl) (Eq.trans (gI_b rfl) (Eq.trans (gI_a rfl) (Eq.trans (gI_a rfl) (Eq.trans (gI_a rfl) (Eq.trans (gI_a rfl) (Eq.trans (gI_a rfl) (Eq.trans (gI_a rfl) (Eq.trans (gI_a rfl) (Eq.trans (gI_a rfl) (Eq.trans (gI_a rfl) (Eq.trans (gI_a rfl) (Eq.trans (gI_a rfl) ql_I_149_16))))))))))))) ?_
            refine wp_lt qf_27 ?_
            refine wp_zI ?_
            refine wp_ret_bd ?_
            refine wp_lt (if_neg (show ¬ (y1 < (10 : Int32)) from by have e0 := qf_85; have e1 := qf_241; have e2 := qf_440; simp only [Int32.lt_iff_toInt_lt, Int32.le_iff_toInt_le, ← Int32.toInt_inj] at c1 c2 c5 ⊢; omega)) ?_
            refine wp_ret_bd ?_
            refine wp_gd ql_K_149 ?_
            refine wp_bd ?_
            refine wp_of (f_X13_thrown.eq_1 ..) ?_
            refine wp_gd ql_K_149 ?_
            refine wp_lt (Eq.trans (gI_b rfl) (Eq.trans (gI_b rfl) gI_s)) ?_
            refine wp_ret_bd ?_
            refine wp_ifp qf_15 ?_
            refine wp_ifp qf_15 ?_
            refine wp_gd ql_K_173 ?_
            refine wp_gd (gZi ql_Z_173 qf_71) ?_
            refine wp_lt (gLk qf_32 gL_s) ?_
            refine wp_lt qf_240 ?_
            refine wp_lt qf_246 ?_
            refine wp_ifp qf_15 ?_
            refine wp_of (f_L_law_2914.eq_1 ..) ?_
            refine wp_of (f_L_law_3632.eq_1 ..) ?_
            refine wp_lt qf_21 ?_
            exact hrc _
          · skip
            refine wp_ret_bd ?_
            refine wp_ret_bdc ?_
            refine wp_ltr ?_
            refine wp_gd ql_K_173 ?_
            refine wp_gd (gZi ql_Z_173 qf_71) ?_
            refine wp_zLk qf_32 ?_
            refine wp_ret_bd ?_
            refine wp_gd qf_0 ?_
            refine wp_lt (xsk qf_1 hy1) ?_
            refine wp_gd qf_2 ?_
            refine wp_lt (xsk qf_3 hy2) ?_
            refine wp_gd ql_K_149 ?_
            refine wp_bd ?_
            refine wp_of (f_X13_strobe.eq_1 ..) ?_
            refine wp_bd ?_
            refine wp_of (f_X13_isBetween.eq_1 ..) ?_
            refine wp_ifn c1 ?_
            refine wp_ifn c2 ?_
            refine wp_of (f_X13_isBetween_15.eq_1 ..) ?_
            refine wp_gd qf_18 ?_
            refine wp_ret_bd ?_
            refine wp_ifn qf_19 ?_
            refine wp_bd ?_
            refine wp_of (f_X13_isBetween.eq_1 ..) ?_
            refine wp_ifn c3 ?_
            refine wp_ifn c4 ?_
            refine wp_of (f_X13_isBetween_15.eq_1 ..) ?_
            refine wp_gd qf_18 ?_
            refine wp_ret_bd ?_
            refine wp_ifn qf_19 ?_
            refine wp_of (f_X13_strobe_26.eq_1 ..) ?_
            refine wp_gd ql_K_149 ?_
            refine wp_bd ?_
            refine wp_of (f_X13_isWrong.eq_1 ..) ?_
            refine wp_gd ql_K_149 ?_
            refine wp_zI ?_
            refine wp_ifp qf_73 ?_
            refine wp_of (f_X13_isWrong_14.eq_1 ..) ?_
            refine wp_gd qf_14 ?_
            refine wp_ret_bd ?_
            refine wp_ifp qf_15 ?_
            refine wp_gd ql_K_149 ?_
            refine wp_zI ?_
            refine wp_bd ?_
            refine wp_of (f_X13_logs.eq_1 ..) ?_
            refine wp_gd ql_K_149 ?_
            refine wp_lt (Eq.trans (gI_b rfl) (Eq.trans (gI_b rfl) (Eq.trans (gI_a rfl) (Eq.trans (gI_a rfl) (Eq.trans (gI_a rfl) (Eq.trans (gI_a rfl) (Eq.trans (gI_a rfl) (Eq.trans (gI_a rfl) (Eq.trans (gI_a rfl) (Eq.trans (gI_a rfl) (Eq.trans (gI_a rfl) (Eq.trans (gI_a rfl) (Eq.trans (gI_a rfl) ql_I_149_16))))))))))))) ?_
            refine wp_lt qf_27 ?_
            refine wp_zI ?_
            refine wp_ret_bd ?_
            refine wp_ltite (fun c6 => ?_) (fun c6 => ?_)
            · skip
              refine wp_ret_bd ?_
              refine wp_gd ql_K_149 ?_
              refine wp_bd ?_
              refine wp_of (f_X13_thrown.eq_1 ..) ?_
              refine wp_gd ql_K_149 ?_
              refine wp_lt (Eq.trans (gI_b rfl) (Eq.trans (gI_b rfl) gI_s)) ?_
              refine wp_ret_bd ?_
              refine wp_ifp qf_15 ?_
              refine wp_ifp qf_15 ?_
              refine wp_gd ql_K_173 ?_
              refine wp_gd (gZi ql_Z_173 qf_71) ?_
              refine wp_lt (gLk qf_32 gL_s) ?_
              refine wp_ltr ?_
              refine wp_ltr ?_
              refine wp_ifp lg_self ?_
              refine wp_of (f_L_law_2914.eq_1 ..) ?_
              refine wp_of (f_L_law_3632.eq_1 ..) ?_
              refine wp_lt qf_21 ?_
              exact hrc _
            · skip
              refine wp_ret_bd ?_
              refine wp_gd ql_K_149 ?_
              refine wp_bd ?_
              refine wp_of (f_X13_thrown.eq_1 ..) ?_
              refine wp_gd ql_K_149 ?_
              refine wp_lt (Eq.trans (gI_b rfl) (Eq.trans (gI_b rfl) gI_s)) ?_
              refine wp_ret_bd ?_
              refine wp_ifp qf_15 ?_
              refine wp_ifp qf_15 ?_
              refine wp_gd ql_K_173 ?_
              refine wp_gd (gZi ql_Z_173 qf_71) ?_
              refine wp_lt (gLk qf_32 gL_s) ?_
              refine wp_lt qf_240 ?_
              refine wp_ltr ?_
              rcases (show y1 = (10 : Int32) from by have e0 := qf_85; have e1 := qf_241; have e2 := qf_440; simp only [Int32.lt_iff_toInt_lt, Int32.le_iff_toInt_le] at c1 c2 c5 c6; simp only [← Int32.toInt_inj]; omega) with rfl
              · skip
                refine wp_ifp qf_441 ?_
                refine wp_of (f_L_law_2914.eq_1 ..) ?_
                refine wp_of (f_L_law_3632.eq_1 ..) ?_
                refine wp_lt qf_21 ?_
                exact hrc _
end CASES8
