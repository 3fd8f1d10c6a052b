section CASES10
set_option maxRecDepth 100000 in
set_option maxHeartbeats 4000000 in
theorem cs_36 {xs : Nat → Int32} {rc : mS → Nat → Nat → Nat → Nat → Int32 → Option (Rs Int32)} {Q : Rs Int32 → Prop} (hrc : ∀ S, WP Q (rc S 1 149 173 174 8)) : WP Q (f_L_law_2600 8 xs rc (M3I, M3L, M3R, M3D, M3K, M3Z, 174) 1 149 173 174 0) := by
  obtain ⟨y1, hy1⟩ : ∃ y, xs 1 = y := ⟨_, rfl⟩
  refine wp_of (f_L_law_2600.eq_1 ..) ?_
  refine wp_gd qf_0 ?_
  refine wp_lt (xsk qf_1 hy1) ?_
  refine wp_bd ?_
  refine wp_of (f_L_people.eq_1 ..) ?_
  refine wp_gd ql_K_1 ?_
  refine wp_bdc ?_
  refine wp_of (f_X10_people.eq_1 ..) ?_
  refine wp_bd ?_
  refine wp_of (f_X10_isIn.eq_1 ..) ?_
  refine wp_if (fun c1 => ?_) (fun c1 => ?_)
  · skip
    refine wp_of (f_X10_isIn_14.eq_1 ..) ?_
    refine wp_of (f_X10_isIn_15.eq_1 ..) ?_
    refine wp_gd qf_14 ?_
    refine wp_ret_bd ?_
    refine wp_bd ?_
    refine wp_of (f_X10_demand.eq_1 ..) ?_
    refine wp_ifp qf_15 ?_
    refine wp_rs_bd ?_
    refine wp_rs_bdc ?_
    refine wp_ifp qf_16 ?_
    refine wp_ret_bd ?_
    refine wp_gd qf_0 ?_
    refine wp_lt (xsk qf_1 hy1) ?_
    refine wp_gd ql_K_149 ?_
    refine wp_bd ?_
    refine wp_of (f_X13_people.eq_1 ..) ?_
    refine wp_bd ?_
    refine wp_of (f_X13_isBetween.eq_1 ..) ?_
    refine wp_ifp c1 ?_
    refine wp_of (f_X13_isBetween_14.eq_1 ..) ?_
    refine wp_of (f_X13_isBetween_15.eq_1 ..) ?_
    refine wp_gd qf_14 ?_
    refine wp_ret_bd ?_
    refine wp_ifp qf_15 ?_
    refine wp_of (f_X13_people_15.eq_1 ..) ?_
    refine wp_gd ql_K_149 ?_
    refine wp_bd ?_
    refine wp_of (f_X13_isWrong.eq_1 ..) ?_
    refine wp_gd ql_K_149 ?_
    refine wp_zI ?_
    refine wp_ifn qf_17 ?_
    refine wp_of (f_X13_isWrong_14.eq_1 ..) ?_
    refine wp_gd qf_18 ?_
    refine wp_ret_bd ?_
    refine wp_ifn qf_19 ?_
    refine wp_ret_bd ?_
    refine wp_gd ql_K_149 ?_
    refine wp_bd ?_
    refine wp_of (f_X13_thrown.eq_1 ..) ?_
    refine wp_gd ql_K_149 ?_
    refine wp_lt gI_s ?_
    refine wp_ret_bd ?_
    refine wp_ifp qf_20 ?_
    refine wp_ifn qf_19 ?_
    refine wp_of (f_L_law_2653.eq_1 ..) ?_
    refine wp_of (f_L_law_3632.eq_1 ..) ?_
    refine wp_lt qf_21 ?_
    exact hrc _
  · skip
    refine wp_if (fun c2 => ?_) (fun c2 => ?_)
    · skip
      refine wp_of (f_X10_isIn_14.eq_1 ..) ?_
      refine wp_of (f_X10_isIn_15.eq_1 ..) ?_
      refine wp_gd qf_14 ?_
      refine wp_ret_bd ?_
      refine wp_bd ?_
      refine wp_of (f_X10_demand.eq_1 ..) ?_
      refine wp_ifp qf_15 ?_
      refine wp_rs_bd ?_
      refine wp_rs_bdc ?_
      refine wp_ifp qf_16 ?_
      refine wp_ret_bd ?_
      refine wp_gd qf_0 ?_
      refine wp_lt (xsk qf_1 hy1) ?_
      refine wp_gd ql_K_149 ?_
      refine wp_bd ?_
      refine wp_of (f_X13_people.eq_1 ..) ?_
      refine wp_bd ?_
      refine wp_of (f_X13_isBetween.eq_1 ..) ?_
      refine wp_ifn c1 ?_
      refine wp_ifp c2 ?_
      refine wp_of (f_X13_isBetween_14.eq_1 ..) ?_
      refine wp_of (f_X13_isBetween_15.eq_1 ..) ?_
      refine wp_gd qf_14 ?_
      refine wp_ret_bd ?_
      refine wp_ifp qf_15 ?_
      refine wp_of (f_X13_people_15.eq_1 ..) ?_
      refine wp_gd ql_K_149 ?_
      refine wp_bd ?_
      refine wp_of (f_X13_isWrong.eq_1 ..) ?_
      refine wp_gd ql_K_149 ?_
      refine wp_zI ?_
      refine wp_ifn qf_17 ?_
      refine wp_of (f_X13_isWrong_14.eq_1 ..) ?_
      refine wp_gd qf_18 ?_
      refine wp_ret_bd ?_
      refine wp_ifn qf_19 ?_
      refine wp_ret_bd ?_
      refine wp_gd ql_K_149 ?_
      refine wp_bd ?_
      refine wp_of (f_X13_thrown.eq_1 ..) ?_
      refine wp_gd ql_K_149 ?_
      refine wp_lt gI_s ?_
      refine wp_ret_bd ?_
      refine wp_ifp qf_20 ?_
      refine wp_ifn qf_19 ?_
      refine wp_of (f_L_law_2653.eq_1 ..) ?_
      refine wp_of (f_L_law_3632.eq_1 ..) ?_
      refine wp_lt qf_21 ?_
      exact hrc _
    · skip
      refine wp_of (f_X10_isIn_15.eq_1 ..) ?_
      refine wp_gd qf_18 ?_
      refine wp_ret_bd ?_
      refine wp_bd ?_
      refine wp_of (f_X10_demand.eq_1 ..) ?_
      refine wp_ifn qf_19 ?_
      refine wp_ret_bd ?_
      refine wp_if (fun c3 => ?_) (fun c3 => ?_)
      · skip
        subst c3
        refine wp_gd ql_K_1 ?_
        refine wp_lt ql_R_1_0 ?_
        refine wp_gd ql_K_2 ?_
        refine wp_lt ql_R_2_2 ?_
        refine wp_gd ql_K_49 ?_
        refine wp_bd ?_
        refine wp_of (f_X4_everybody.eq_1 ..) ?_
        refine wp_of (f_X4_everybody_4.eq_2 ..) ?_
        refine wp_gd ql_K_49 ?_
        refine wp_lt ql_R_49_0 ?_
        refine wp_gd ql_K_50 ?_
        refine wp_lt (gZo ql_Z_50 qf_214) ?_
        refine wp_ifn qf_215 ?_
        refine wp_lt ql_R_49_0 ?_
        refine wp_gd ql_K_50 ?_
        refine wp_gd (gZi ql_Z_50 qf_216) ?_
        refine wp_lt (gIk qf_32 ql_I_50_0) ?_
        refine wp_lt qf_217 ?_
        refine wp_lt qf_153 ?_
        refine wp_of (f_X4_everybody_4.eq_2 ..) ?_
        refine wp_gd ql_K_49 ?_
        refine wp_lt ql_R_49_0 ?_
        refine wp_gd ql_K_50 ?_
        refine wp_lt (gZo ql_Z_50 qf_214) ?_
        refine wp_ifn qf_218 ?_
        refine wp_lt ql_R_49_0 ?_
        refine wp_gd ql_K_50 ?_
        refine wp_gd (gZi ql_Z_50 qf_219) ?_
        refine wp_lt (gIk qf_36 ql_I_50_1) ?_
        refine wp_lt qf_220 ?_
        refine wp_lt qf_164 ?_
        refine wp_of (f_X4_everybody_4.eq_2 ..) ?_
        refine wp_gd ql_K_49 ?_
        refine wp_lt ql_R_49_0 ?_
        refine wp_gd ql_K_50 ?_
        refine wp_lt (gZo ql_Z_50 qf_214) ?_
        refine wp_ifn qf_221 ?_
        refine wp_lt ql_R_49_0 ?_
        refine wp_gd ql_K_50 ?_
        refine wp_gd (gZi ql_Z_50 qf_222) ?_
        refine wp_lt (gIk qf_41 ql_I_50_2) ?_
        refine wp_lt qf_223 ?_
        refine wp_lt qf_177 ?_
        refine wp_of (f_X4_everybody_4.eq_2 ..) ?_
        refine wp_gd ql_K_49 ?_
        refine wp_lt ql_R_49_0 ?_
        refine wp_gd ql_K_50 ?_
        refine wp_lt (gZo ql_Z_50 qf_214) ?_
        refine wp_ifn qf_224 ?_
        refine wp_lt ql_R_49_0 ?_
        refine wp_gd ql_K_50 ?_
        refine wp_gd (gZi ql_Z_50 qf_225) ?_
        refine wp_lt (gIk qf_46 ql_I_50_3) ?_
        refine wp_lt qf_226 ?_
        refine wp_lt qf_227 ?_
        refine wp_of (f_X4_everybody_4.eq_2 ..) ?_
        refine wp_gd ql_K_49 ?_
        refine wp_lt ql_R_49_0 ?_
        refine wp_gd ql_K_50 ?_
        refine wp_lt (gZo ql_Z_50 qf_214) ?_
        refine wp_ifn qf_228 ?_
        refine wp_lt ql_R_49_0 ?_
        refine wp_gd ql_K_50 ?_
        refine wp_gd (gZi ql_Z_50 qf_229) ?_
        refine wp_lt (gIk qf_51 ql_I_50_4) ?_
        refine wp_lt qf_230 ?_
        refine wp_lt qf_231 ?_
        refine wp_of (f_X4_everybody_4.eq_2 ..) ?_
        refine wp_gd ql_K_49 ?_
        refine wp_lt ql_R_49_0 ?_
        refine wp_gd ql_K_50 ?_
        refine wp_lt (gZo ql_Z_50 qf_214) ?_
        refine wp_ifn qf_232 ?_
        refine wp_lt ql_R_49_0 ?_
        refine wp_gd ql_K_50 ?_
        refine wp_gd (gZi ql_Z_50 qf_233) ?_
        refine wp_lt (gIk qf_56 ql_I_50_5) ?_
        refine wp_lt qf_234 ?_
        refine wp_lt qf_235 ?_
        refine wp_of (f_X4_everybody_4.eq_2 ..) ?_
        refine wp_gd ql_K_49 ?_
        refine wp_lt ql_R_49_0 ?_
        refine wp_gd ql_K_50 ?_
        refine wp_lt (gZo ql_Z_50 qf_214) ?_
        refine wp_ifp qf_236 ?_
        refine wp_ret_bd ?_
        refine wp_of (f_X10_people_38.eq_1 ..) ?_
        refine wp_ret_bdc ?_
        refine wp_lt qf_237 ?_
        refine wp_gd ql_K_173 ?_
        refine wp_gd (gZi ql_Z_173 qf_71) ?_
        refine wp_zLk qf_32 ?_
        refine wp_ret_bd ?_
        refine wp_gd qf_0 ?_
        refine wp_lt (xsk qf_1 hy1) ?_
        refine wp_gd ql_K_149 ?_
        refine wp_bd ?_
        refine wp_of (f_X13_people.eq_1 ..) ?_
        refine wp_bd ?_
        refine wp_of (f_X13_isBetween.eq_1 ..) ?_
        refine wp_ifn qf_238 ?_
        refine wp_ifn qf_239 ?_
        refine wp_of (f_X13_isBetween_15.eq_1 ..) ?_
        refine wp_gd qf_18 ?_
        refine wp_ret_bd ?_
        refine wp_ifn qf_19 ?_
        refine wp_of (f_X13_people_15.eq_1 ..) ?_
        refine wp_gd ql_K_149 ?_
        refine wp_bd ?_
        refine wp_of (f_X13_isWrong.eq_1 ..) ?_
        refine wp_gd ql_K_149 ?_
        refine wp_zI ?_
        refine wp_ifp qf_73 ?_
        refine wp_of (f_X13_isWrong_14.eq_1 ..) ?_
        refine wp_gd qf_14 ?_
        refine wp_ret_bd ?_
        refine wp_ifp qf_15 ?_
        refine wp_of (f_X13_people_27.eq_2 ..) ?_
        refine wp_ifn qf_215 ?_
        refine wp_ifp qf_118 ?_
        refine wp_of (f_X13_people_44.eq_1 ..) ?_
        refine wp_gd ql_K_149 ?_
        refine wp_lt ql_R_149_3 ?_
        refine wp_gd ql_K_168 ?_
        refine wp_gd (gZi ql_Z_168 qf_216) ?_
        refine wp_lt (gIk qf_32 (Eq.trans (gI_a rfl) ql_I_168_0)) ?_
        refine wp_of (f_X13_people_54.eq_1 ..) ?_
        refine wp_lt qf_217 ?_
        refine wp_lt qf_153 ?_
        refine wp_of (f_X13_people_27.eq_2 ..) ?_
        refine wp_ifn qf_218 ?_
        refine wp_ifp qf_118 ?_
        refine wp_of (f_X13_people_44.eq_1 ..) ?_
        refine wp_gd ql_K_149 ?_
        refine wp_lt ql_R_149_3 ?_
        refine wp_gd ql_K_168 ?_
        refine wp_gd (gZi ql_Z_168 qf_219) ?_
        refine wp_lt (gIk qf_36 (Eq.trans (gI_a rfl) ql_I_168_1)) ?_
        refine wp_of (f_X13_people_54.eq_1 ..) ?_
        refine wp_lt qf_220 ?_
        refine wp_lt qf_164 ?_
        refine wp_of (f_X13_people_27.eq_2 ..) ?_
        refine wp_ifn qf_221 ?_
        refine wp_ifp qf_118 ?_
        refine wp_of (f_X13_people_44.eq_1 ..) ?_
        refine wp_gd ql_K_149 ?_
        refine wp_lt ql_R_149_3 ?_
        refine wp_gd ql_K_168 ?_
        refine wp_gd (gZi ql_Z_168 qf_222) ?_
        refine wp_lt (gIk qf_41 (Eq.trans (gI_a rfl) ql_I_168_2)) ?_
        refine wp_of (f_X13_people_54.eq_1 ..) ?_
        refine wp_lt qf_223 ?_
        refine wp_lt qf_177 ?_
        refine wp_of (f_X13_people_27.eq_2 ..) ?_
        refine wp_ifn qf_224 ?_
        refine wp_ifp qf_118 ?_
        refine wp_of (f_X13_people_44.eq_1 ..) ?_
        refine wp_gd ql_K_149 ?_
        refine wp_lt ql_R_149_3 ?_
        refine wp_gd ql_K_168 ?_
        refine wp_gd (gZi ql_Z_168 qf_225) ?_
        refine wp_lt (gIk qf_46 (Eq.trans (gI_a rfl) ql_I_168_3)) ?_
        refine wp_of (f_X13_people_54.eq_1 ..) ?_
        refine wp_lt qf_226 ?_
        refine wp_lt qf_227 ?_
        refine wp_of (f_X13_people_27.eq_2 ..) ?_
        refine wp_ifn qf_228 ?_
        refine wp_ifp qf_118 ?_
        refine wp_of (f_X13_people_44.eq_1 ..) ?_
        refine wp_gd ql_K_149 ?_
        refine wp_lt ql_R_149_3 ?_
        refine wp_gd ql_K_168 ?_
        refine wp_gd (gZi ql_Z_168 qf_229) ?_
        refine wp_lt (gIk qf_51 (Eq.trans (gI_a rfl) ql_I_168_4)) ?_
        refine wp_of (f_X13_people_54.eq_1 ..) ?_
        refine wp_lt qf_230 ?_
        refine wp_lt qf_231 ?_
        refine wp_of (f_X13_people_27.eq_2 ..) ?_
        refine wp_ifn qf_232 ?_
        refine wp_ifp qf_118 ?_
        refine wp_of (f_X13_people_44.eq_1 ..) ?_
        refine wp_gd ql_K_149 ?_
        refine wp_lt ql_R_149_3 ?_
        refine wp_gd ql_K_168 ?_
        refine wp_gd (gZi ql_Z_168 qf_233) ?_
        refine wp_lt (gIk qf_56 (Eq.trans (gI_a rfl) ql_I_168_5)) ?_
        refine wp_of (f_X13_people_54.eq_1 ..) ?_
        refine wp_lt qf_234 ?_
        refine wp_lt qf_235 ?_
        refine wp_of (f_X13_people_27.eq_2 ..) ?_
        refine wp_ifp qf_236 ?_
        refine wp_ret_bd ?_
        refine wp_gd ql_K_149 ?_
        refine wp_bd ?_
        refine wp_of (f_X13_thrown.eq_1 ..) ?_
        refine wp_gd ql_K_149 ?_
        refine wp_lt gI_s ?_
        refine wp_ret_bd ?_
        refine wp_ifp qf_15 ?_
        refine wp_ifp qf_15 ?_
        refine wp_gd ql_K_173 ?_
        refine wp_gd (gZi ql_Z_173 qf_71) ?_
        refine wp_lt (gLk qf_32 gL_s) ?_
        refine wp_lt qf_237 ?_
        refine wp_lt qf_240 ?_
        refine wp_ifp qf_15 ?_
        refine wp_of (f_L_law_2653.eq_1 ..) ?_
        refine wp_of (f_L_law_3632.eq_1 ..) ?_
        refine wp_lt qf_21 ?_
        exact hrc _
      · skip
        refine wp_gd ql_K_1 ?_
        refine wp_lt ql_R_1_0 ?_
        refine wp_gd ql_K_2 ?_
        refine wp_lt ql_R_2_2 ?_
        refine wp_gd ql_K_49 ?_
        refine wp_bd ?_
        refine wp_of (f_X4_sizeOf.eq_1 ..) ?_
        refine wp_if (fun c4 => ?_) (fun c4 => ?_)
        · skip
          refine wp_of (f_X4_sizeOf_22.eq_1 ..) ?_
          refine wp_of (f_X4_sizeOf_23.eq_1 ..) ?_
          refine wp_ret_bd ?_
          refine wp_of (f_X10_people_38.eq_1 ..) ?_
          refine wp_ret_bdc ?_
          refine wp_lt qf_70 ?_
          refine wp_gd ql_K_173 ?_
          refine wp_gd (gZi ql_Z_173 qf_71) ?_
          refine wp_zLk qf_32 ?_
          refine wp_ret_bd ?_
          refine wp_gd qf_0 ?_
          refine wp_lt (xsk qf_1 hy1) ?_
          refine wp_gd ql_K_149 ?_
          refine wp_bd ?_
          refine wp_of (f_X13_people.eq_1 ..) ?_
          refine wp_bd ?_
          refine wp_of (f_X13_isBetween.eq_1 ..) ?_
          refine wp_ifn c1 ?_
          refine wp_ifn c2 ?_
          refine wp_of (f_X13_isBetween_15.eq_1 ..) ?_
          refine wp_gd qf_18 ?_
          refine wp_ret_bd ?_
          refine wp_ifn qf_19 ?_
          refine wp_of (f_X13_people_15.eq_1 ..) ?_
          refine wp_gd ql_K_149 ?_
          refine wp_bd ?_
          refine wp_of (f_X13_isWrong.eq_1 ..) ?_
          refine wp_gd ql_K_149 ?_
          refine wp_zI ?_
          refine wp_ifp qf_73 ?_
          refine wp_of (f_X13_isWrong_14.eq_1 ..) ?_
          refine wp_gd qf_14 ?_
          refine wp_ret_bd ?_
          refine wp_ifp qf_15 ?_
          refine wp_of (f_X13_people_27.eq_2 ..) ?_
          refine wp_ifn qf_215 ?_
          refine wp_ifn c3 ?_
          refine wp_ifn (show ¬ (y1 = (0 : Int32)) from by have e0 := qf_91; have e1 := qf_90; have e2 := qf_241; simp only [Int32.lt_iff_toInt_lt, Int32.le_iff_toInt_le, ← Int32.toInt_inj] at c1 c2 c4 ⊢; omega) ?_
          refine wp_of (f_X13_people_54.eq_1 ..) ?_
          refine wp_lt qf_242 ?_
          refine wp_lt qf_153 ?_
          refine wp_of (f_X13_people_27.eq_2 ..) ?_
          refine wp_ifn qf_218 ?_
          refine wp_ifn c3 ?_
          refine wp_ifn (show ¬ (y1 = (1 : Int32)) from by have e0 := qf_91; have e1 := qf_90; have e2 := qf_95; have e3 := qf_241; simp only [Int32.lt_iff_toInt_lt, Int32.le_iff_toInt_le, ← Int32.toInt_inj] at c1 c2 c4 ⊢; omega) ?_
          refine wp_of (f_X13_people_54.eq_1 ..) ?_
          refine wp_lt qf_242 ?_
          refine wp_lt qf_164 ?_
          refine wp_of (f_X13_people_27.eq_2 ..) ?_
          refine wp_ifn qf_221 ?_
          refine wp_ifn c3 ?_
          refine wp_ifn (show ¬ (y1 = (2 : Int32)) from by have e0 := qf_91; have e1 := qf_90; have e2 := qf_96; have e3 := qf_241; simp only [Int32.lt_iff_toInt_lt, Int32.le_iff_toInt_le, ← Int32.toInt_inj] at c1 c2 c4 ⊢; omega) ?_
          refine wp_of (f_X13_people_54.eq_1 ..) ?_
          refine wp_lt qf_242 ?_
          refine wp_lt qf_177 ?_
          refine wp_of (f_X13_people_27.eq_2 ..) ?_
          refine wp_ifn qf_224 ?_
          refine wp_ifn c3 ?_
          refine wp_ifn (show ¬ (y1 = (3 : Int32)) from by have e0 := qf_91; have e1 := qf_90; have e2 := qf_93; have e3 := qf_241; simp only [Int32.lt_iff_toInt_lt, Int32.le_iff_toInt_le, ← Int32.toInt_inj] at c1 c2 c4 ⊢; omega) ?_
          refine wp_of (f_X13_people_54.eq_1 ..) ?_
          refine wp_lt qf_242 ?_
          refine wp_lt qf_227 ?_
          refine wp_of (f_X13_people_27.eq_2 ..) ?_
          refine wp_ifn qf_228 ?_
          refine wp_ifn c3 ?_
          refine wp_ifn (show ¬ (y1 = (4 : Int32)) from by have e0 := qf_91; have e1 := qf_90; have e2 := qf_94; have e3 := qf_241; simp only [Int32.lt_iff_toInt_lt, Int32.le_iff_toInt_le, ← Int32.toInt_inj] at c1 c2 c4 ⊢; omega) ?_
          refine wp_of (f_X13_people_54.eq_1 ..) ?_
          refine wp_lt qf_242 ?_
          refine wp_lt qf_231 ?_
          refine wp_of (f_X13_people_27.eq_2 ..) ?_
          refine wp_ifn qf_232 ?_
          refine wp_ifn c3 ?_
          refine wp_ifn (show ¬ (y1 = (5 : Int32)) from by have e0 := qf_91; have e1 := qf_90; have e2 := qf_241; simp only [Int32.lt_iff_toInt_lt, Int32.le_iff_toInt_le, ← Int32.toInt_inj] at c1 c2 c4 ⊢; omega) ?_
          refine wp_of (f_X13_people_54.eq_1 ..) ?_
          refine wp_lt qf_242 ?_
          refine wp_lt qf_235 ?_
          refine wp_of (f_X13_people_27.eq_2 ..) ?_
          refine wp_ifp qf_236 ?_
          refine wp_ret_bd ?_
          refine wp_gd ql_K_149 ?_
          refine wp_bd ?_
          refine wp_of (f_X13_thrown.eq_1 ..) ?_
          refine wp_gd ql_K_149 ?_
          refine wp_lt gI_s ?_
          refine wp_ret_bd ?_
          refine wp_ifp qf_15 ?_
          refine wp_ifp qf_15 ?_
          refine wp_gd ql_K_173 ?_
          refine wp_gd (gZi ql_Z_173 qf_71) ?_
          refine wp_lt (gLk qf_32 gL_s) ?_
          refine wp_lt qf_70 ?_
          refine wp_lt qf_81 ?_
          refine wp_ifp qf_15 ?_
          refine wp_of (f_L_law_2653.eq_1 ..) ?_
          refine wp_of (f_L_law_3632.eq_1 ..) ?_
          refine wp_lt qf_21 ?_
          exact hrc _
        · skip
          refine wp_gd ql_K_49 ?_
          refine wp_lt ql_R_49_0 ?_
          refine wp_gd ql_K_50 ?_
          refine wp_lt (gZo ql_Z_50 qf_214) ?_
          refine wp_ifn (show ¬ ((6 : Int32) ≤ y1) from by have e0 := qf_91; have e1 := qf_90; have e2 := qf_241; have e3 := qf_243; simp only [Int32.lt_iff_toInt_lt, Int32.le_iff_toInt_le, ← Int32.toInt_inj] at c1 c2 c4 ⊢; omega) ?_
          refine wp_lt ql_R_49_0 ?_
          refine wp_gd ql_K_50 ?_
          rcases (show y1 = (0 : Int32) ∨ y1 = (1 : Int32) ∨ y1 = (2 : Int32) ∨ y1 = (3 : Int32) ∨ y1 = (4 : Int32) ∨ y1 = (5 : Int32) from by have e0 := qf_91; have e1 := qf_90; have e2 := qf_95; have e3 := qf_96; have e4 := qf_93; have e5 := qf_94; have e6 := qf_241; simp only [Int32.lt_iff_toInt_lt, Int32.le_iff_toInt_le] at c1 c2 c4; simp only [← Int32.toInt_inj]; omega) with rfl | rfl | rfl | rfl | rfl | rfl
          · skip
            refine wp_gd (gZi ql_Z_50 qf_216) ?_
            refine wp_lt (gIk qf_32 ql_I_50_0) ?_
            refine wp_of (f_X4_sizeOf_23.eq_1 ..) ?_
            refine wp_ret_bd ?_
            refine wp_of (f_X10_people_38.eq_1 ..) ?_
            refine wp_ret_bdc ?_
            refine wp_lt qf_244 ?_
            refine wp_gd ql_K_173 ?_
            refine wp_gd (gZi ql_Z_173 qf_71) ?_
            refine wp_zLk qf_32 ?_
            refine wp_ret_bd ?_
            refine wp_gd qf_0 ?_
            refine wp_lt (xsk qf_1 hy1) ?_
            refine wp_gd ql_K_149 ?_
            refine wp_bd ?_
            refine wp_of (f_X13_people.eq_1 ..) ?_
            refine wp_bd ?_
            refine wp_of (f_X13_isBetween.eq_1 ..) ?_
            refine wp_ifn qf_245 ?_
            refine wp_ifn qf_53 ?_
            refine wp_of (f_X13_isBetween_15.eq_1 ..) ?_
            refine wp_gd qf_18 ?_
            refine wp_ret_bd ?_
            refine wp_ifn qf_19 ?_
            refine wp_of (f_X13_people_15.eq_1 ..) ?_
            refine wp_gd ql_K_149 ?_
            refine wp_bd ?_
            refine wp_of (f_X13_isWrong.eq_1 ..) ?_
            refine wp_gd ql_K_149 ?_
            refine wp_zI ?_
            refine wp_ifp qf_73 ?_
            refine wp_of (f_X13_isWrong_14.eq_1 ..) ?_
            refine wp_gd qf_14 ?_
            refine wp_ret_bd ?_
            refine wp_ifp qf_15 ?_
            refine wp_of (f_X13_people_27.eq_2 ..) ?_
            refine wp_ifn qf_215 ?_
            refine wp_ifn qf_246 ?_
            refine wp_ifp qf_15 ?_
            refine wp_of (f_X13_people_44.eq_1 ..) ?_
            refine wp_gd ql_K_149 ?_
            refine wp_lt ql_R_149_3 ?_
            refine wp_gd ql_K_168 ?_
            refine wp_gd (gZi ql_Z_168 qf_216) ?_
            refine wp_lt (gIk qf_32 (Eq.trans (gI_a rfl) ql_I_168_0)) ?_
            refine wp_of (f_X13_people_54.eq_1 ..) ?_
            refine wp_lt qf_217 ?_
            refine wp_lt qf_153 ?_
            refine wp_of (f_X13_people_27.eq_2 ..) ?_
            refine wp_ifn qf_218 ?_
            refine wp_ifn qf_246 ?_
            refine wp_ifn qf_247 ?_
            refine wp_of (f_X13_people_54.eq_1 ..) ?_
            refine wp_lt qf_248 ?_
            refine wp_lt qf_164 ?_
            refine wp_of (f_X13_people_27.eq_2 ..) ?_
            refine wp_ifn qf_221 ?_
            refine wp_ifn qf_246 ?_
            refine wp_ifn qf_249 ?_
            refine wp_of (f_X13_people_54.eq_1 ..) ?_
            refine wp_lt qf_248 ?_
            refine wp_lt qf_177 ?_
            refine wp_of (f_X13_people_27.eq_2 ..) ?_
            refine wp_ifn qf_224 ?_
            refine wp_ifn qf_246 ?_
            refine wp_ifn qf_193 ?_
            refine wp_of (f_X13_people_54.eq_1 ..) ?_
            refine wp_lt qf_248 ?_
            refine wp_lt qf_227 ?_
            refine wp_of (f_X13_people_27.eq_2 ..) ?_
            refine wp_ifn qf_228 ?_
            refine wp_ifn qf_246 ?_
            refine wp_ifn qf_250 ?_
            refine wp_of (f_X13_people_54.eq_1 ..) ?_
            refine wp_lt qf_248 ?_
            refine wp_lt qf_231 ?_
            refine wp_of (f_X13_people_27.eq_2 ..) ?_
            refine wp_ifn qf_232 ?_
            refine wp_ifn qf_246 ?_
            refine wp_ifn qf_251 ?_
            refine wp_of (f_X13_people_54.eq_1 ..) ?_
            refine wp_lt qf_248 ?_
            refine wp_lt qf_235 ?_
            refine wp_of (f_X13_people_27.eq_2 ..) ?_
            refine wp_ifp qf_236 ?_
            refine wp_ret_bd ?_
            refine wp_gd ql_K_149 ?_
            refine wp_bd ?_
            refine wp_of (f_X13_thrown.eq_1 ..) ?_
            refine wp_gd ql_K_149 ?_
            refine wp_lt gI_s ?_
            refine wp_ret_bd ?_
            refine wp_ifp qf_15 ?_
            refine wp_ifp qf_15 ?_
            refine wp_gd ql_K_173 ?_
            refine wp_gd (gZi ql_Z_173 qf_71) ?_
            refine wp_lt (gLk qf_32 gL_s) ?_
            refine wp_lt qf_244 ?_
            refine wp_lt qf_252 ?_
            refine wp_ifp qf_15 ?_
            refine wp_of (f_L_law_2653.eq_1 ..) ?_
            refine wp_of (f_L_law_3632.eq_1 ..) ?_
            refine wp_lt qf_21 ?_
            exact hrc _
          · skip
            refine wp_gd (gZi ql_Z_50 qf_219) ?_
            refine wp_lt (gIk qf_36 ql_I_50_1) ?_
            refine wp_of (f_X4_sizeOf_23.eq_1 ..) ?_
            refine wp_ret_bd ?_
            refine wp_of (f_X10_people_38.eq_1 ..) ?_
            refine wp_ret_bdc ?_
            refine wp_lt qf_244 ?_
            refine wp_gd ql_K_173 ?_
            refine wp_gd (gZi ql_Z_173 qf_71) ?_
            refine wp_zLk qf_32 ?_
            refine wp_ret_bd ?_
            refine wp_gd qf_0 ?_
            refine wp_lt (xsk qf_1 hy1) ?_
            refine wp_gd ql_K_149 ?_
            refine wp_bd ?_
            refine wp_of (f_X13_people.eq_1 ..) ?_
            refine wp_bd ?_
            refine wp_of (f_X13_isBetween.eq_1 ..) ?_
            refine wp_ifn qf_253 ?_
            refine wp_ifn qf_254 ?_
            refine wp_of (f_X13_isBetween_15.eq_1 ..) ?_
            refine wp_gd qf_18 ?_
            refine wp_ret_bd ?_
            refine wp_ifn qf_19 ?_
            refine wp_of (f_X13_people_15.eq_1 ..) ?_
            refine wp_gd ql_K_149 ?_
            refine wp_bd ?_
            refine wp_of (f_X13_isWrong.eq_1 ..) ?_
            refine wp_gd ql_K_149 ?_
            refine wp_zI ?_
            refine wp_ifp qf_73 ?_
            refine wp_of (f_X13_isWrong_14.eq_1 ..) ?_
            refine wp_gd qf_14 ?_
            refine wp_ret_bd ?_
            refine wp_ifp qf_15 ?_
            refine wp_of (f_X13_people_27.eq_2 ..) ?_
            refine wp_ifn qf_215 ?_
            refine wp_ifn qf_255 ?_
            refine wp_ifn qf_19 ?_
            refine wp_of (f_X13_people_54.eq_1 ..) ?_
            refine wp_lt qf_242 ?_
            refine wp_lt qf_153 ?_
            refine wp_of (f_X13_people_27.eq_2 ..) ?_
            refine wp_ifn qf_218 ?_
            refine wp_ifn qf_255 ?_
            refine wp_ifp qf_20 ?_
            refine wp_of (f_X13_people_44.eq_1 ..) ?_
            refine wp_gd ql_K_149 ?_
            refine wp_lt ql_R_149_3 ?_
            refine wp_gd ql_K_168 ?_
            refine wp_gd (gZi ql_Z_168 qf_219) ?_
            refine wp_lt (gIk qf_36 (Eq.trans (gI_a rfl) ql_I_168_1)) ?_
            refine wp_of (f_X13_people_54.eq_1 ..) ?_
            refine wp_lt qf_217 ?_
            refine wp_lt qf_164 ?_
            refine wp_of (f_X13_people_27.eq_2 ..) ?_
            refine wp_ifn qf_221 ?_
            refine wp_ifn qf_255 ?_
            refine wp_ifn qf_256 ?_
            refine wp_of (f_X13_people_54.eq_1 ..) ?_
            refine wp_lt qf_248 ?_
            refine wp_lt qf_177 ?_
            refine wp_of (f_X13_people_27.eq_2 ..) ?_
            refine wp_ifn qf_224 ?_
            refine wp_ifn qf_255 ?_
            refine wp_ifn qf_257 ?_
            refine wp_of (f_X13_people_54.eq_1 ..) ?_
            refine wp_lt qf_248 ?_
            refine wp_lt qf_227 ?_
            refine wp_of (f_X13_people_27.eq_2 ..) ?_
            refine wp_ifn qf_228 ?_
            refine wp_ifn qf_255 ?_
            refine wp_ifn qf_258 ?_
            refine wp_of (f_X13_people_54.eq_1 ..) ?_
            refine wp_lt qf_248 ?_
            refine wp_lt qf_231 ?_
            refine wp_of (f_X13_people_27.eq_2 ..) ?_
            refine wp_ifn qf_232 ?_
            refine wp_ifn qf_255 ?_
            refine wp_ifn qf_259 ?_
            refine wp_of (f_X13_people_54.eq_1 ..) ?_
            refine wp_lt qf_248 ?_
            refine wp_lt qf_235 ?_
            refine wp_of (f_X13_people_27.eq_2 ..) ?_
            refine wp_ifp qf_236 ?_
            refine wp_ret_bd ?_
            refine wp_gd ql_K_149 ?_
            refine wp_bd ?_
            refine wp_of (f_X13_thrown.eq_1 ..) ?_
            refine wp_gd ql_K_149 ?_
            refine wp_lt gI_s ?_
            refine wp_ret_bd ?_
            refine wp_ifp qf_15 ?_
            refine wp_ifp qf_15 ?_
            refine wp_gd ql_K_173 ?_
            refine wp_gd (gZi ql_Z_173 qf_71) ?_
            refine wp_lt (gLk qf_32 gL_s) ?_
            refine wp_lt qf_244 ?_
            refine wp_lt qf_252 ?_
            refine wp_ifp qf_15 ?_
            refine wp_of (f_L_law_2653.eq_1 ..) ?_
            refine wp_of (f_L_law_3632.eq_1 ..) ?_
            refine wp_lt qf_21 ?_
            exact hrc _
          · skip
            refine wp_gd (gZi ql_Z_50 qf_222) ?_
            refine wp_lt (gIk qf_41 ql_I_50_2) ?_
            refine wp_of (f_X4_sizeOf_23.eq_1 ..) ?_
            refine wp_ret_bd ?_
            refine wp_of (f_X10_people_38.eq_1 ..) ?_
            refine wp_ret_bdc ?_
            refine wp_lt qf_244 ?_
            refine wp_gd ql_K_173 ?_
            refine wp_gd (gZi ql_Z_173 qf_71) ?_
            refine wp_zLk qf_32 ?_
            refine wp_ret_bd ?_
            refine wp_gd qf_0 ?_
            refine wp_lt (xsk qf_1 hy1) ?_
            refine wp_gd ql_K_149 ?_
            refine wp_bd ?_
            refine wp_of (f_X13_people.eq_1 ..) ?_
            refine wp_bd ?_
            refine wp_of (f_X13_isBetween.eq_1 ..) ?_
            refine wp_ifn qf_260 ?_
            refine wp_ifn qf_261 ?_
            refine wp_of (f_X13_isBetween_15.eq_1 ..) ?_
            refine wp_gd qf_18 ?_
            refine wp_ret_bd ?_
            refine wp_ifn qf_19 ?_
            refine wp_of (f_X13_people_15.eq_1 ..) ?_
            refine wp_gd ql_K_149 ?_
            refine wp_bd ?_
            refine wp_of (f_X13_isWrong.eq_1 ..) ?_
            refine wp_gd ql_K_149 ?_
            refine wp_zI ?_
            refine wp_ifp qf_73 ?_
            refine wp_of (f_X13_isWrong_14.eq_1 ..) ?_
            refine wp_gd qf_14 ?_
            refine wp_ret_bd ?_
            refine wp_ifp qf_15 ?_
            refine wp_of (f_X13_people_27.eq_2 ..) ?_
            refine wp_ifn qf_215 ?_
            refine wp_ifn qf_262 ?_
            refine wp_ifn qf_112 ?_
            refine wp_of (f_X13_people_54.eq_1 ..) ?_
            refine wp_lt qf_242 ?_
            refine wp_lt qf_153 ?_
            refine wp_of (f_X13_people_27.eq_2 ..) ?_
            refine wp_ifn qf_218 ?_
            refine wp_ifn qf_262 ?_
            refine wp_ifn qf_263 ?_
            refine wp_of (f_X13_people_54.eq_1 ..) ?_
            refine wp_lt qf_242 ?_
            refine wp_lt qf_164 ?_
            refine wp_of (f_X13_people_27.eq_2 ..) ?_
            refine wp_ifn qf_221 ?_
            refine wp_ifn qf_262 ?_
            refine wp_ifp qf_111 ?_
            refine wp_of (f_X13_people_44.eq_1 ..) ?_
            refine wp_gd ql_K_149 ?_
            refine wp_lt ql_R_149_3 ?_
            refine wp_gd ql_K_168 ?_
            refine wp_gd (gZi ql_Z_168 qf_222) ?_
            refine wp_lt (gIk qf_41 (Eq.trans (gI_a rfl) ql_I_168_2)) ?_
            refine wp_of (f_X13_people_54.eq_1 ..) ?_
            refine wp_lt qf_217 ?_
            refine wp_lt qf_177 ?_
            refine wp_of (f_X13_people_27.eq_2 ..) ?_
            refine wp_ifn qf_224 ?_
            refine wp_ifn qf_262 ?_
            refine wp_ifn qf_264 ?_
            refine wp_of (f_X13_people_54.eq_1 ..) ?_
            refine wp_lt qf_248 ?_
            refine wp_lt qf_227 ?_
            refine wp_of (f_X13_people_27.eq_2 ..) ?_
            refine wp_ifn qf_228 ?_
            refine wp_ifn qf_262 ?_
            refine wp_ifn qf_265 ?_
            refine wp_of (f_X13_people_54.eq_1 ..) ?_
            refine wp_lt qf_248 ?_
            refine wp_lt qf_231 ?_
            refine wp_of (f_X13_people_27.eq_2 ..) ?_
            refine wp_ifn qf_232 ?_
            refine wp_ifn qf_262 ?_
            refine wp_ifn qf_266 ?_
            refine wp_of (f_X13_people_54.eq_1 ..) ?_
            refine wp_lt qf_248 ?_
            refine wp_lt qf_235 ?_
            refine wp_of (f_X13_people_27.eq_2 ..) ?_
            refine wp_ifp qf_236 ?_
            refine wp_ret_bd ?_
            refine wp_gd ql_K_149 ?_
            refine wp_bd ?_
            refine wp_of (f_X13_thrown.eq_1 ..) ?_
            refine wp_gd ql_K_149 ?_
            refine wp_lt gI_s ?_
            refine wp_ret_bd ?_
            refine wp_ifp qf_15 ?_
            refine wp_ifp qf_15 ?_
            refine wp_gd ql_K_173 ?_
            refine wp_gd (gZi ql_Z_173 qf_71) ?_
            refine wp_lt (gLk qf_32 gL_s) ?_
            refine wp_lt qf_244 ?_
            refine wp_lt qf_252 ?_
            refine wp_ifp qf_15 ?_
            refine wp_of (f_L_law_2653.eq_1 ..) ?_
            refine wp_of (f_L_law_3632.eq_1 ..) ?_
            refine wp_lt qf_21 ?_
            exact hrc _
          · skip
            refine wp_gd (gZi ql_Z_50 qf_225) ?_
            refine wp_lt (gIk qf_46 ql_I_50_3) ?_
            refine wp_of (f_X4_sizeOf_23.eq_1 ..) ?_
            refine wp_ret_bd ?_
            refine wp_of (f_X10_people_38.eq_1 ..) ?_
            refine wp_ret_bdc ?_
            refine wp_lt qf_244 ?_
            refine wp_gd ql_K_173 ?_
            refine wp_gd (gZi ql_Z_173 qf_71) ?_
            refine wp_zLk qf_32 ?_
            refine wp_ret_bd ?_
            refine wp_gd qf_0 ?_
            refine wp_lt (xsk qf_1 hy1) ?_
            refine wp_gd ql_K_149 ?_
            refine wp_bd ?_
            refine wp_of (f_X13_people.eq_1 ..) ?_
            refine wp_bd ?_
            refine wp_of (f_X13_isBetween.eq_1 ..) ?_
            refine wp_ifn qf_267 ?_
            refine wp_ifn qf_268 ?_
            refine wp_of (f_X13_isBetween_15.eq_1 ..) ?_
            refine wp_gd qf_18 ?_
            refine wp_ret_bd ?_
            refine wp_ifn qf_19 ?_
            refine wp_of (f_X13_people_15.eq_1 ..) ?_
            refine wp_gd ql_K_149 ?_
            refine wp_bd ?_
            refine wp_of (f_X13_isWrong.eq_1 ..) ?_
            refine wp_gd ql_K_149 ?_
            refine wp_zI ?_
            refine wp_ifp qf_73 ?_
            refine wp_of (f_X13_isWrong_14.eq_1 ..) ?_
            refine wp_gd qf_14 ?_
            refine wp_ret_bd ?_
            refine wp_ifp qf_15 ?_
            refine wp_of (f_X13_people_27.eq_2 ..) ?_
            refine wp_ifn qf_215 ?_
            refine wp_ifn qf_269 ?_
            refine wp_ifn qf_117 ?_
            refine wp_of (f_X13_people_54.eq_1 ..) ?_
            refine wp_lt qf_242 ?_
            refine wp_lt qf_153 ?_
            refine wp_of (f_X13_people_27.eq_2 ..) ?_
            refine wp_ifn qf_218 ?_
            refine wp_ifn qf_269 ?_
            refine wp_ifn qf_270 ?_
            refine wp_of (f_X13_people_54.eq_1 ..) ?_
            refine wp_lt qf_242 ?_
            refine wp_lt qf_164 ?_
            refine wp_of (f_X13_people_27.eq_2 ..) ?_
            refine wp_ifn qf_221 ?_
            refine wp_ifn qf_269 ?_
            refine wp_ifn qf_271 ?_
            refine wp_of (f_X13_people_54.eq_1 ..) ?_
            refine wp_lt qf_242 ?_
            refine wp_lt qf_177 ?_
            refine wp_of (f_X13_people_27.eq_2 ..) ?_
            refine wp_ifn qf_224 ?_
            refine wp_ifn qf_269 ?_
            refine wp_ifp qf_116 ?_
            refine wp_of (f_X13_people_44.eq_1 ..) ?_
            refine wp_gd ql_K_149 ?_
            refine wp_lt ql_R_149_3 ?_
            refine wp_gd ql_K_168 ?_
            refine wp_gd (gZi ql_Z_168 qf_225) ?_
            refine wp_lt (gIk qf_46 (Eq.trans (gI_a rfl) ql_I_168_3)) ?_
            refine wp_of (f_X13_people_54.eq_1 ..) ?_
            refine wp_lt qf_217 ?_
            refine wp_lt qf_227 ?_
            refine wp_of (f_X13_people_27.eq_2 ..) ?_
            refine wp_ifn qf_228 ?_
            refine wp_ifn qf_269 ?_
            refine wp_ifn qf_272 ?_
            refine wp_of (f_X13_people_54.eq_1 ..) ?_
            refine wp_lt qf_248 ?_
            refine wp_lt qf_231 ?_
            refine wp_of (f_X13_people_27.eq_2 ..) ?_
            refine wp_ifn qf_232 ?_
            refine wp_ifn qf_269 ?_
            refine wp_ifn qf_273 ?_
            refine wp_of (f_X13_people_54.eq_1 ..) ?_
            refine wp_lt qf_248 ?_
            refine wp_lt qf_235 ?_
            refine wp_of (f_X13_people_27.eq_2 ..) ?_
            refine wp_ifp qf_236 ?_
            refine wp_ret_bd ?_
            refine wp_gd ql_K_149 ?_
            refine wp_bd ?_
            refine wp_of (f_X13_thrown.eq_1 ..) ?_
            refine wp_gd ql_K_149 ?_
            refine wp_lt gI_s ?_
            refine wp_ret_bd ?_
            refine wp_ifp qf_15 ?_
            refine wp_ifp qf_15 ?_
            refine wp_gd ql_K_173 ?_
            refine wp_gd (gZi ql_Z_173 qf_71) ?_
            refine wp_lt (gLk qf_32 gL_s) ?_
            refine wp_lt qf_244 ?_
            refine wp_lt qf_252 ?_
            refine wp_ifp qf_15 ?_
            refine wp_of (f_L_law_2653.eq_1 ..) ?_
            refine wp_of (f_L_law_3632.eq_1 ..) ?_
            refine wp_lt qf_21 ?_
            exact hrc _
          · skip
            refine wp_gd (gZi ql_Z_50 qf_229) ?_
            refine wp_lt (gIk qf_51 ql_I_50_4) ?_
            refine wp_of (f_X4_sizeOf_23.eq_1 ..) ?_
            refine wp_ret_bd ?_
            refine wp_of (f_X10_people_38.eq_1 ..) ?_
            refine wp_ret_bdc ?_
            refine wp_lt qf_244 ?_
            refine wp_gd ql_K_173 ?_
            refine wp_gd (gZi ql_Z_173 qf_71) ?_
            refine wp_zLk qf_32 ?_
            refine wp_ret_bd ?_
            refine wp_gd qf_0 ?_
            refine wp_lt (xsk qf_1 hy1) ?_
            refine wp_gd ql_K_149 ?_
            refine wp_bd ?_
            refine wp_of (f_X13_people.eq_1 ..) ?_
            refine wp_bd ?_
            refine wp_of (f_X13_isBetween.eq_1 ..) ?_
            refine wp_ifn qf_274 ?_
            refine wp_ifn qf_275 ?_
            refine wp_of (f_X13_isBetween_15.eq_1 ..) ?_
            refine wp_gd qf_18 ?_
            refine wp_ret_bd ?_
            refine wp_ifn qf_19 ?_
            refine wp_of (f_X13_people_15.eq_1 ..) ?_
            refine wp_gd ql_K_149 ?_
            refine wp_bd ?_
            refine wp_of (f_X13_isWrong.eq_1 ..) ?_
            refine wp_gd ql_K_149 ?_
            refine wp_zI ?_
            refine wp_ifp qf_73 ?_
            refine wp_of (f_X13_isWrong_14.eq_1 ..) ?_
            refine wp_gd qf_14 ?_
            refine wp_ret_bd ?_
            refine wp_ifp qf_15 ?_
            refine wp_of (f_X13_people_27.eq_2 ..) ?_
            refine wp_ifn qf_215 ?_
            refine wp_ifn qf_276 ?_
            refine wp_ifn qf_277 ?_
            refine wp_of (f_X13_people_54.eq_1 ..) ?_
            refine wp_lt qf_242 ?_
            refine wp_lt qf_153 ?_
            refine wp_of (f_X13_people_27.eq_2 ..) ?_
            refine wp_ifn qf_218 ?_
            refine wp_ifn qf_276 ?_
            refine wp_ifn qf_278 ?_
            refine wp_of (f_X13_people_54.eq_1 ..) ?_
            refine wp_lt qf_242 ?_
            refine wp_lt qf_164 ?_
            refine wp_of (f_X13_people_27.eq_2 ..) ?_
            refine wp_ifn qf_221 ?_
            refine wp_ifn qf_276 ?_
            refine wp_ifn qf_279 ?_
            refine wp_of (f_X13_people_54.eq_1 ..) ?_
            refine wp_lt qf_242 ?_
            refine wp_lt qf_177 ?_
            refine wp_of (f_X13_people_27.eq_2 ..) ?_
            refine wp_ifn qf_224 ?_
            refine wp_ifn qf_276 ?_
            refine wp_ifn qf_280 ?_
            refine wp_of (f_X13_people_54.eq_1 ..) ?_
            refine wp_lt qf_242 ?_
            refine wp_lt qf_227 ?_
            refine wp_of (f_X13_people_27.eq_2 ..) ?_
            refine wp_ifn qf_228 ?_
            refine wp_ifn qf_276 ?_
            refine wp_ifp qf_281 ?_
            refine wp_of (f_X13_people_44.eq_1 ..) ?_
            refine wp_gd ql_K_149 ?_
            refine wp_lt ql_R_149_3 ?_
            refine wp_gd ql_K_168 ?_
            refine wp_gd (gZi ql_Z_168 qf_229) ?_
            refine wp_lt (gIk qf_51 (Eq.trans (gI_a rfl) ql_I_168_4)) ?_
            refine wp_of (f_X13_people_54.eq_1 ..) ?_
            refine wp_lt qf_217 ?_
            refine wp_lt qf_231 ?_
            refine wp_of (f_X13_people_27.eq_2 ..) ?_
            refine wp_ifn qf_232 ?_
            refine wp_ifn qf_276 ?_
            refine wp_ifn qf_282 ?_
            refine wp_of (f_X13_people_54.eq_1 ..) ?_
            refine wp_lt qf_248 ?_
            refine wp_lt qf_235 ?_
            refine wp_of (f_X13_people_27.eq_2 ..) ?_
            refine wp_ifp qf_236 ?_
            refine wp_ret_bd ?_
            refine wp_gd ql_K_149 ?_
            refine wp_bd ?_
            refine wp_of (f_X13_thrown.eq_1 ..) ?_
            refine wp_gd ql_K_149 ?_
            refine wp_lt gI_s ?_
            refine wp_ret_bd ?_
            refine wp_ifp qf_15 ?_
            refine wp_ifp qf_15 ?_
            refine wp_gd ql_K_173 ?_
            refine wp_gd (gZi ql_Z_173 qf_71) ?_
            refine wp_lt (gLk qf_32 gL_s) ?_
            refine wp_lt qf_244 ?_
            refine wp_lt qf_252 ?_
            refine wp_ifp qf_15 ?_
            refine wp_of (f_L_law_2653.eq_1 ..) ?_
            refine wp_of (f_L_law_3632.eq_1 ..) ?_
            refine wp_lt qf_21 ?_
            exact hrc _
          · skip
            refine wp_gd (gZi ql_Z_50 qf_233) ?_
            refine wp_lt (gIk qf_56 ql_I_50_5) ?_
            refine wp_of (f_X4_sizeOf_23.eq_1 ..) ?_
            refine wp_ret_bd ?_
            refine wp_of (f_X10_people_38.eq_1 ..) ?_
            refine wp_ret_bdc ?_
            refine wp_lt qf_244 ?_
            refine wp_gd ql_K_173 ?_
            refine wp_gd (gZi ql_Z_173 qf_71) ?_
            refine wp_zLk qf_32 ?_
            refine wp_ret_bd ?_
            refine wp_gd qf_0 ?_
            refine wp_lt (xsk qf_1 hy1) ?_
            refine wp_gd ql_K_149 ?_
            refine wp_bd ?_
            refine wp_of (f_X13_people.eq_1 ..) ?_
            refine wp_bd ?_
            refine wp_of (f_X13_isBetween.eq_1 ..) ?_
            refine wp_ifn qf_239 ?_
            refine wp_ifn qf_283 ?_
            refine wp_of (f_X13_isBetween_15.eq_1 ..) ?_
            refine wp_gd qf_18 ?_
            refine wp_ret_bd ?_
            refine wp_ifn qf_19 ?_
            refine wp_of (f_X13_people_15.eq_1 ..) ?_
            refine wp_gd ql_K_149 ?_
            refine wp_bd ?_
            refine wp_of (f_X13_isWrong.eq_1 ..) ?_
            refine wp_gd ql_K_149 ?_
            refine wp_zI ?_
            refine wp_ifp qf_73 ?_
            refine wp_of (f_X13_isWrong_14.eq_1 ..) ?_
            refine wp_gd qf_14 ?_
            refine wp_ret_bd ?_
            refine wp_ifp qf_15 ?_
            refine wp_of (f_X13_people_27.eq_2 ..) ?_
            refine wp_ifn qf_215 ?_
            refine wp_ifn qf_284 ?_
            refine wp_ifn qf_285 ?_
            refine wp_of (f_X13_people_54.eq_1 ..) ?_
            refine wp_lt qf_242 ?_
            refine wp_lt qf_153 ?_
            refine wp_of (f_X13_people_27.eq_2 ..) ?_
            refine wp_ifn qf_218 ?_
            refine wp_ifn qf_284 ?_
            refine wp_ifn qf_286 ?_
            refine wp_of (f_X13_people_54.eq_1 ..) ?_
            refine wp_lt qf_242 ?_
            refine wp_lt qf_164 ?_
            refine wp_of (f_X13_people_27.eq_2 ..) ?_
            refine wp_ifn qf_221 ?_
            refine wp_ifn qf_284 ?_
            refine wp_ifn qf_287 ?_
            refine wp_of (f_X13_people_54.eq_1 ..) ?_
            refine wp_lt qf_242 ?_
            refine wp_lt qf_177 ?_
            refine wp_of (f_X13_people_27.eq_2 ..) ?_
            refine wp_ifn qf_224 ?_
            refine wp_ifn qf_284 ?_
            refine wp_ifn qf_288 ?_
            refine wp_of (f_X13_people_54.eq_1 ..) ?_
            refine wp_lt qf_242 ?_
            refine wp_lt qf_227 ?_
            refine wp_of (f_X13_people_27.eq_2 ..) ?_
            refine wp_ifn qf_228 ?_
            refine wp_ifn qf_284 ?_
            refine wp_ifn qf_289 ?_
            refine wp_of (f_X13_people_54.eq_1 ..) ?_
            refine wp_lt qf_242 ?_
            refine wp_lt qf_231 ?_
            refine wp_of (f_X13_people_27.eq_2 ..) ?_
            refine wp_ifn qf_232 ?_
            refine wp_ifn qf_284 ?_
            refine wp_ifp qf_290 ?_
            refine wp_of (f_X13_people_44.eq_1 ..) ?_
            refine wp_gd ql_K_149 ?_
            refine wp_lt ql_R_149_3 ?_
            refine wp_gd ql_K_168 ?_
            refine wp_gd (gZi ql_Z_168 qf_233) ?_
            refine wp_lt (gIk qf_56 (Eq.trans (gI_a rfl) ql_I_168_5)) ?_
            refine wp_of (f_X13_people_54.eq_1 ..) ?_
            refine wp_lt qf_217 ?_
            refine wp_lt qf_235 ?_
            refine wp_of (f_X13_people_27.eq_2 ..) ?_
            refine wp_ifp qf_236 ?_
            refine wp_ret_bd ?_
            refine wp_gd ql_K_149 ?_
            refine wp_bd ?_
            refine wp_of (f_X13_thrown.eq_1 ..) ?_
            refine wp_gd ql_K_149 ?_
            refine wp_lt gI_s ?_
            refine wp_ret_bd ?_
            refine wp_ifp qf_15 ?_
            refine wp_ifp qf_15 ?_
            refine wp_gd ql_K_173 ?_
            refine wp_gd (gZi ql_Z_173 qf_71) ?_
            refine wp_lt (gLk qf_32 gL_s) ?_
            refine wp_lt qf_244 ?_
            refine wp_lt qf_252 ?_
            refine wp_ifp qf_15 ?_
            refine wp_of (f_L_law_2653.eq_1 ..) ?_
            refine wp_of (f_L_law_3632.eq_1 ..) ?_
            refine wp_lt qf_21 ?_
            exact hrc _
set_option maxRecDepth 100000 in
set_option maxHeartbeats 4000000 in
theorem cs_37 {xs : Nat → Int32} {rc : mS → Nat → Nat → Nat → Nat → Int32 → Option (Rs Int32)} {Q : Rs Int32 → Prop} (hrc : ∀ S, WP Q (rc S 1 149 173 174 8)) : WP Q (f_L_law_2656 8 xs rc (M3I, M3L, M3R, M3D, M3K, M3Z, 174) 1 149 173 174 0) := by
  obtain ⟨y1, hy1⟩ : ∃ y, xs 1 = y := ⟨_, rfl⟩
  refine wp_of (f_L_law_2656.eq_1 ..) ?_
  refine wp_gd qf_0 ?_
  refine wp_lt (xsk qf_1 hy1) ?_
  refine wp_bd ?_
  refine wp_of (f_L_tired.eq_1 ..) ?_
  refine wp_gd ql_K_1 ?_
  refine wp_bdc ?_
  refine wp_of (f_X10_tired.eq_1 ..) ?_
  refine wp_bd ?_
  refine wp_of (f_X10_isIn.eq_1 ..) ?_
  refine wp_if (fun c1 => ?_) (fun c1 => ?_)
  · skip
    refine wp_of (f_X10_isIn_14.eq_1 ..) ?_
    refine wp_of (f_X10_isIn_15.eq_1 ..) ?_
    refine wp_gd qf_14 ?_
    refine wp_ret_bd ?_
    refine wp_bd ?_
    refine wp_of (f_X10_demand.eq_1 ..) ?_
    refine wp_ifp qf_15 ?_
    refine wp_rs_bd ?_
    refine wp_rs_bdc ?_
    refine wp_ifp qf_16 ?_
    refine wp_ret_bd ?_
    refine wp_gd qf_0 ?_
    refine wp_lt (xsk qf_1 hy1) ?_
    refine wp_gd ql_K_149 ?_
    refine wp_bd ?_
    refine wp_of (f_X13_tired.eq_1 ..) ?_
    refine wp_bd ?_
    refine wp_of (f_X13_isBetween.eq_1 ..) ?_
    refine wp_ifp c1 ?_
    refine wp_of (f_X13_isBetween_14.eq_1 ..) ?_
    refine wp_of (f_X13_isBetween_15.eq_1 ..) ?_
    refine wp_gd qf_14 ?_
    refine wp_ret_bd ?_
    refine wp_ifp qf_15 ?_
    refine wp_of (f_X13_tired_15.eq_1 ..) ?_
    refine wp_gd ql_K_149 ?_
    refine wp_bd ?_
    refine wp_of (f_X13_isWrong.eq_1 ..) ?_
    refine wp_gd ql_K_149 ?_
    refine wp_zI ?_
    refine wp_ifn qf_17 ?_
    refine wp_of (f_X13_isWrong_14.eq_1 ..) ?_
    refine wp_gd qf_18 ?_
    refine wp_ret_bd ?_
    refine wp_ifn qf_19 ?_
    refine wp_of (f_X13_tired_31.eq_1 ..) ?_
    refine wp_ret_bd ?_
    refine wp_gd ql_K_149 ?_
    refine wp_bd ?_
    refine wp_of (f_X13_thrown.eq_1 ..) ?_
    refine wp_gd ql_K_149 ?_
    refine wp_lt gI_s ?_
    refine wp_ret_bd ?_
    refine wp_ifp qf_20 ?_
    refine wp_ifn qf_19 ?_
    refine wp_of (f_L_law_2709.eq_1 ..) ?_
    refine wp_of (f_L_law_3632.eq_1 ..) ?_
    refine wp_lt qf_21 ?_
    exact hrc _
  · skip
    refine wp_if (fun c2 => ?_) (fun c2 => ?_)
    · skip
      refine wp_of (f_X10_isIn_14.eq_1 ..) ?_
      refine wp_of (f_X10_isIn_15.eq_1 ..) ?_
      refine wp_gd qf_14 ?_
      refine wp_ret_bd ?_
      refine wp_bd ?_
      refine wp_of (f_X10_demand.eq_1 ..) ?_
      refine wp_ifp qf_15 ?_
      refine wp_rs_bd ?_
      refine wp_rs_bdc ?_
      refine wp_ifp qf_16 ?_
      refine wp_ret_bd ?_
      refine wp_gd qf_0 ?_
      refine wp_lt (xsk qf_1 hy1) ?_
      refine wp_gd ql_K_149 ?_
      refine wp_bd ?_
      refine wp_of (f_X13_tired.eq_1 ..) ?_
      refine wp_bd ?_
      refine wp_of (f_X13_isBetween.eq_1 ..) ?_
      refine wp_ifn c1 ?_
      refine wp_ifp c2 ?_
      refine wp_of (f_X13_isBetween_14.eq_1 ..) ?_
      refine wp_of (f_X13_isBetween_15.eq_1 ..) ?_
      refine wp_gd qf_14 ?_
      refine wp_ret_bd ?_
      refine wp_ifp qf_15 ?_
      refine wp_of (f_X13_tired_15.eq_1 ..) ?_
      refine wp_gd ql_K_149 ?_
      refine wp_bd ?_
      refine wp_of (f_X13_isWrong.eq_1 ..) ?_
      refine wp_gd ql_K_149 ?_
      refine wp_zI ?_
      refine wp_ifn qf_17 ?_
      refine wp_of (f_X13_isWrong_14.eq_1 ..) ?_
      refine wp_gd qf_18 ?_
      refine wp_ret_bd ?_
      refine wp_ifn qf_19 ?_
      refine wp_of (f_X13_tired_31.eq_1 ..) ?_
      refine wp_ret_bd ?_
      refine wp_gd ql_K_149 ?_
      refine wp_bd ?_
      refine wp_of (f_X13_thrown.eq_1 ..) ?_
      refine wp_gd ql_K_149 ?_
      refine wp_lt gI_s ?_
      refine wp_ret_bd ?_
      refine wp_ifp qf_20 ?_
      refine wp_ifn qf_19 ?_
      refine wp_of (f_L_law_2709.eq_1 ..) ?_
      refine wp_of (f_L_law_3632.eq_1 ..) ?_
      refine wp_lt qf_21 ?_
      exact hrc _
    · skip
      refine wp_of (f_X10_isIn_15.eq_1 ..) ?_
      refine wp_gd qf_18 ?_
      refine wp_ret_bd ?_
      refine wp_bd ?_
      refine wp_of (f_X10_demand.eq_1 ..) ?_
      refine wp_ifn qf_19 ?_
      refine wp_ret_bd ?_
      refine wp_gd ql_K_1 ?_
      refine wp_lt ql_R_1_0 ?_
      refine wp_gd ql_K_2 ?_
      refine wp_lt ql_R_2_2 ?_
      refine wp_gd ql_K_49 ?_
      refine wp_bd ?_
      refine wp_of (f_X4_wearOf.eq_1 ..) ?_
      refine wp_ifn c1 ?_
      refine wp_gd ql_K_49 ?_
      refine wp_lt ql_R_49_1 ?_
      refine wp_gd ql_K_51 ?_
      refine wp_lt (gZo ql_Z_51 qf_214) ?_
      refine wp_ifn (show ¬ ((6 : Int32) ≤ y1) from by have e0 := qf_90; have e1 := qf_241; have e2 := qf_243; simp only [Int32.lt_iff_toInt_lt, Int32.le_iff_toInt_le, ← Int32.toInt_inj] at c1 c2 ⊢; omega) ?_
      refine wp_lt ql_R_49_1 ?_
      refine wp_gd ql_K_51 ?_
      rcases (show y1 = (0 : Int32) ∨ y1 = (1 : Int32) ∨ y1 = (2 : Int32) ∨ y1 = (3 : Int32) ∨ y1 = (4 : Int32) ∨ y1 = (5 : Int32) from by have e0 := qf_90; have e1 := qf_95; have e2 := qf_96; have e3 := qf_93; have e4 := qf_94; have e5 := qf_241; simp only [Int32.lt_iff_toInt_lt, Int32.le_iff_toInt_le] at c1 c2; simp only [← Int32.toInt_inj]; omega) with rfl | rfl | rfl | rfl | rfl | rfl
      · skip
        refine wp_gd (gZi ql_Z_51 qf_216) ?_
        refine wp_lt (gIk qf_32 ql_I_51_0) ?_
        refine wp_of (f_X4_wearOf_23.eq_1 ..) ?_
        refine wp_ret_bd ?_
        refine wp_ret_bdc ?_
        refine wp_lt qf_70 ?_
        refine wp_gd ql_K_173 ?_
        refine wp_gd (gZi ql_Z_173 qf_71) ?_
        refine wp_zLk qf_32 ?_
        refine wp_ret_bd ?_
        refine wp_gd qf_0 ?_
        refine wp_lt (xsk qf_1 hy1) ?_
        refine wp_gd ql_K_149 ?_
        refine wp_bd ?_
        refine wp_of (f_X13_tired.eq_1 ..) ?_
        refine wp_bd ?_
        refine wp_of (f_X13_isBetween.eq_1 ..) ?_
        refine wp_ifn qf_28 ?_
        refine wp_ifn qf_53 ?_
        refine wp_of (f_X13_isBetween_15.eq_1 ..) ?_
        refine wp_gd qf_18 ?_
        refine wp_ret_bd ?_
        refine wp_ifn qf_19 ?_
        refine wp_of (f_X13_tired_15.eq_1 ..) ?_
        refine wp_gd ql_K_149 ?_
        refine wp_bd ?_
        refine wp_of (f_X13_isWrong.eq_1 ..) ?_
        refine wp_gd ql_K_149 ?_
        refine wp_zI ?_
        refine wp_ifp qf_73 ?_
        refine wp_of (f_X13_isWrong_14.eq_1 ..) ?_
        refine wp_gd qf_14 ?_
        refine wp_ret_bd ?_
        refine wp_ifp qf_15 ?_
        refine wp_gd ql_K_149 ?_
        refine wp_lt ql_R_149_4 ?_
        refine wp_gd ql_K_169 ?_
        refine wp_gd (gZi ql_Z_169 qf_216) ?_
        refine wp_lt (gIk qf_32 (Eq.trans (gI_a rfl) ql_I_169_0)) ?_
        refine wp_of (f_X13_tired_31.eq_1 ..) ?_
        refine wp_ret_bd ?_
        refine wp_gd ql_K_149 ?_
        refine wp_bd ?_
        refine wp_of (f_X13_thrown.eq_1 ..) ?_
        refine wp_gd ql_K_149 ?_
        refine wp_lt gI_s ?_
        refine wp_ret_bd ?_
        refine wp_ifp qf_15 ?_
        refine wp_ifp qf_15 ?_
        refine wp_gd ql_K_173 ?_
        refine wp_gd (gZi ql_Z_173 qf_71) ?_
        refine wp_lt (gLk qf_32 gL_s) ?_
        refine wp_lt qf_70 ?_
        refine wp_lt qf_81 ?_
        refine wp_ifp qf_15 ?_
        refine wp_of (f_L_law_2709.eq_1 ..) ?_
        refine wp_of (f_L_law_3632.eq_1 ..) ?_
        refine wp_lt qf_21 ?_
        exact hrc _
      · skip
        refine wp_gd (gZi ql_Z_51 qf_219) ?_
        refine wp_lt (gIk qf_36 ql_I_51_1) ?_
        refine wp_of (f_X4_wearOf_23.eq_1 ..) ?_
        refine wp_ret_bd ?_
        refine wp_ret_bdc ?_
        refine wp_lt qf_70 ?_
        refine wp_gd ql_K_173 ?_
        refine wp_gd (gZi ql_Z_173 qf_71) ?_
        refine wp_zLk qf_32 ?_
        refine wp_ret_bd ?_
        refine wp_gd qf_0 ?_
        refine wp_lt (xsk qf_1 hy1) ?_
        refine wp_gd ql_K_149 ?_
        refine wp_bd ?_
        refine wp_of (f_X13_tired.eq_1 ..) ?_
        refine wp_bd ?_
        refine wp_of (f_X13_isBetween.eq_1 ..) ?_
        refine wp_ifn qf_33 ?_
        refine wp_ifn qf_254 ?_
        refine wp_of (f_X13_isBetween_15.eq_1 ..) ?_
        refine wp_gd qf_18 ?_
        refine wp_ret_bd ?_
        refine wp_ifn qf_19 ?_
        refine wp_of (f_X13_tired_15.eq_1 ..) ?_
        refine wp_gd ql_K_149 ?_
        refine wp_bd ?_
        refine wp_of (f_X13_isWrong.eq_1 ..) ?_
        refine wp_gd ql_K_149 ?_
        refine wp_zI ?_
        refine wp_ifp qf_73 ?_
        refine wp_of (f_X13_isWrong_14.eq_1 ..) ?_
        refine wp_gd qf_14 ?_
        refine wp_ret_bd ?_
        refine wp_ifp qf_15 ?_
        refine wp_gd ql_K_149 ?_
        refine wp_lt ql_R_149_4 ?_
        refine wp_gd ql_K_169 ?_
        refine wp_gd (gZi ql_Z_169 qf_219) ?_
        refine wp_lt (gIk qf_36 (Eq.trans (gI_a rfl) ql_I_169_1)) ?_
        refine wp_of (f_X13_tired_31.eq_1 ..) ?_
        refine wp_ret_bd ?_
        refine wp_gd ql_K_149 ?_
        refine wp_bd ?_
        refine wp_of (f_X13_thrown.eq_1 ..) ?_
        refine wp_gd ql_K_149 ?_
        refine wp_lt gI_s ?_
        refine wp_ret_bd ?_
        refine wp_ifp qf_15 ?_
        refine wp_ifp qf_15 ?_
        refine wp_gd ql_K_173 ?_
        refine wp_gd (gZi ql_Z_173 qf_71) ?_
        refine wp_lt (gLk qf_32 gL_s) ?_
        refine wp_lt qf_70 ?_
        refine wp_lt qf_81 ?_
        refine wp_ifp qf_15 ?_
        refine wp_of (f_L_law_2709.eq_1 ..) ?_
        refine wp_of (f_L_law_3632.eq_1 ..) ?_
        refine wp_lt qf_21 ?_
        exact hrc _
      · skip
        refine wp_gd (gZi ql_Z_51 qf_222) ?_
        refine wp_lt (gIk qf_41 ql_I_51_2) ?_
        refine wp_of (f_X4_wearOf_23.eq_1 ..) ?_
        refine wp_ret_bd ?_
        refine wp_ret_bdc ?_
        refine wp_lt qf_70 ?_
        refine wp_gd ql_K_173 ?_
        refine wp_gd (gZi ql_Z_173 qf_71) ?_
        refine wp_zLk qf_32 ?_
        refine wp_ret_bd ?_
        refine wp_gd qf_0 ?_
        refine wp_lt (xsk qf_1 hy1) ?_
        refine wp_gd ql_K_149 ?_
        refine wp_bd ?_
        refine wp_of (f_X13_tired.eq_1 ..) ?_
        refine wp_bd ?_
        refine wp_of (f_X13_isBetween.eq_1 ..) ?_
        refine wp_ifn qf_38 ?_
        refine wp_ifn qf_261 ?_
        refine wp_of (f_X13_isBetween_15.eq_1 ..) ?_
        refine wp_gd qf_18 ?_
        refine wp_ret_bd ?_
        refine wp_ifn qf_19 ?_
        refine wp_of (f_X13_tired_15.eq_1 ..) ?_
        refine wp_gd ql_K_149 ?_
        refine wp_bd ?_
        refine wp_of (f_X13_isWrong.eq_1 ..) ?_
        refine wp_gd ql_K_149 ?_
        refine wp_zI ?_
        refine wp_ifp qf_73 ?_
        refine wp_of (f_X13_isWrong_14.eq_1 ..) ?_
        refine wp_gd qf_14 ?_
        refine wp_ret_bd ?_
        refine wp_ifp qf_15 ?_
        refine wp_gd ql_K_149 ?_
        refine wp_lt ql_R_149_4 ?_
        refine wp_gd ql_K_169 ?_
        refine wp_gd (gZi ql_Z_169 qf_222) ?_
        refine wp_lt (gIk qf_41 (Eq.trans (gI_a rfl) ql_I_169_2)) ?_
        refine wp_of (f_X13_tired_31.eq_1 ..) ?_
        refine wp_ret_bd ?_
        refine wp_gd ql_K_149 ?_
        refine wp_bd ?_
        refine wp_of (f_X13_thrown.eq_1 ..) ?_
        refine wp_gd ql_K_149 ?_
        refine wp_lt gI_s ?_
        refine wp_ret_bd ?_
        refine wp_ifp qf_15 ?_
        refine wp_ifp qf_15 ?_
        refine wp_gd ql_K_173 ?_
        refine wp_gd (gZi ql_Z_173 qf_71) ?_
        refine wp_lt (gLk qf_32 gL_s) ?_
        refine wp_lt qf_70 ?_
        refine wp_lt qf_81 ?_
        refine wp_ifp qf_15 ?_
        refine wp_of (f_L_law_2709.eq_1 ..) ?_
        refine wp_of (f_L_law_3632.eq_1 ..) ?_
        refine wp_lt qf_21 ?_
        exact hrc _
      · skip
        refine wp_gd (gZi ql_Z_51 qf_225) ?_
        refine wp_lt (gIk qf_46 ql_I_51_3) ?_
        refine wp_of (f_X4_wearOf_23.eq_1 ..) ?_
        refine wp_ret_bd ?_
        refine wp_ret_bdc ?_
        refine wp_lt qf_70 ?_
        refine wp_gd ql_K_173 ?_
        refine wp_gd (gZi ql_Z_173 qf_71) ?_
        refine wp_zLk qf_32 ?_
        refine wp_ret_bd ?_
        refine wp_gd qf_0 ?_
        refine wp_lt (xsk qf_1 hy1) ?_
        refine wp_gd ql_K_149 ?_
        refine wp_bd ?_
        refine wp_of (f_X13_tired.eq_1 ..) ?_
        refine wp_bd ?_
        refine wp_of (f_X13_isBetween.eq_1 ..) ?_
        refine wp_ifn qf_43 ?_
        refine wp_ifn qf_268 ?_
        refine wp_of (f_X13_isBetween_15.eq_1 ..) ?_
        refine wp_gd qf_18 ?_
        refine wp_ret_bd ?_
        refine wp_ifn qf_19 ?_
        refine wp_of (f_X13_tired_15.eq_1 ..) ?_
        refine wp_gd ql_K_149 ?_
        refine wp_bd ?_
        refine wp_of (f_X13_isWrong.eq_1 ..) ?_
        refine wp_gd ql_K_149 ?_
        refine wp_zI ?_
        refine wp_ifp qf_73 ?_
        refine wp_of (f_X13_isWrong_14.eq_1 ..) ?_
        refine wp_gd qf_14 ?_
        refine wp_ret_bd ?_
        refine wp_ifp qf_15 ?_
        refine wp_gd ql_K_149 ?_
        refine wp_lt ql_R_149_4 ?_
        refine wp_gd ql_K_169 ?_
        refine wp_gd (gZi ql_Z_169 qf_225) ?_
        refine wp_lt (gIk qf_46 (Eq.trans (gI_a rfl) ql_I_169_3)) ?_
        refine wp_of (f_X13_tired_31.eq_1 ..) ?_
        refine wp_ret_bd ?_
        refine wp_gd ql_K_149 ?_
        refine wp_bd ?_
        refine wp_of (f_X13_thrown.eq_1 ..) ?_
        refine wp_gd ql_K_149 ?_
        refine wp_lt gI_s ?_
        refine wp_ret_bd ?_
        refine wp_ifp qf_15 ?_
        refine wp_ifp qf_15 ?_
        refine wp_gd ql_K_173 ?_
        refine wp_gd (gZi ql_Z_173 qf_71) ?_
        refine wp_lt (gLk qf_32 gL_s) ?_
        refine wp_lt qf_70 ?_
        refine wp_lt qf_81 ?_
        refine wp_ifp qf_15 ?_
        refine wp_of (f_L_law_2709.eq_1 ..) ?_
        refine wp_of (f_L_law_3632.eq_1 ..) ?_
        refine wp_lt qf_21 ?_
        exact hrc _
      · skip
        refine wp_gd (gZi ql_Z_51 qf_229) ?_
        refine wp_lt (gIk qf_51 ql_I_51_4) ?_
        refine wp_of (f_X4_wearOf_23.eq_1 ..) ?_
        refine wp_ret_bd ?_
        refine wp_ret_bdc ?_
        refine wp_lt qf_70 ?_
        refine wp_gd ql_K_173 ?_
        refine wp_gd (gZi ql_Z_173 qf_71) ?_
        refine wp_zLk qf_32 ?_
        refine wp_ret_bd ?_
        refine wp_gd qf_0 ?_
        refine wp_lt (xsk qf_1 hy1) ?_
        refine wp_gd ql_K_149 ?_
        refine wp_bd ?_
        refine wp_of (f_X13_tired.eq_1 ..) ?_
        refine wp_bd ?_
        refine wp_of (f_X13_isBetween.eq_1 ..) ?_
        refine wp_ifn qf_48 ?_
        refine wp_ifn qf_275 ?_
        refine wp_of (f_X13_isBetween_15.eq_1 ..) ?_
        refine wp_gd qf_18 ?_
        refine wp_ret_bd ?_
        refine wp_ifn qf_19 ?_
        refine wp_of (f_X13_tired_15.eq_1 ..) ?_
        refine wp_gd ql_K_149 ?_
        refine wp_bd ?_
        refine wp_of (f_X13_isWrong.eq_1 ..) ?_
        refine wp_gd ql_K_149 ?_
        refine wp_zI ?_
        refine wp_ifp qf_73 ?_
        refine wp_of (f_X13_isWrong_14.eq_1 ..) ?_
        refine wp_gd qf_14 ?_
        refine wp_ret_bd ?_
        refine wp_ifp qf_15 ?_
        refine wp_gd ql_K_149 ?_
        refine wp_lt ql_R_149_4 ?_
        refine wp_gd ql_K_169 ?_
        refine wp_gd (gZi ql_Z_169 qf_229) ?_
        refine wp_lt (gIk qf_51 (Eq.trans (gI_a rfl) ql_I_169_4)) ?_
        refine wp_of (f_X13_tired_31.eq_1 ..) ?_
        refine wp_ret_bd ?_
        refine wp_gd ql_K_149 ?_
        refine wp_bd ?_
        refine wp_of (f_X13_thrown.eq_1 ..) ?_
        refine wp_gd ql_K_149 ?_
        refine wp_lt gI_s ?_
        refine wp_ret_bd ?_
        refine wp_ifp qf_15 ?_
        refine wp_ifp qf_15 ?_
        refine wp_gd ql_K_173 ?_
        refine wp_gd (gZi ql_Z_173 qf_71) ?_
        refine wp_lt (gLk qf_32 gL_s) ?_
        refine wp_lt qf_70 ?_
        refine wp_lt qf_81 ?_
        refine wp_ifp qf_15 ?_
        refine wp_of (f_L_law_2709.eq_1 ..) ?_
        refine wp_of (f_L_law_3632.eq_1 ..) ?_
        refine wp_lt qf_21 ?_
        exact hrc _
      · skip
        refine wp_gd (gZi ql_Z_51 qf_233) ?_
        refine wp_lt (gIk qf_56 ql_I_51_5) ?_
        refine wp_of (f_X4_wearOf_23.eq_1 ..) ?_
        refine wp_ret_bd ?_
        refine wp_ret_bdc ?_
        refine wp_lt qf_70 ?_
        refine wp_gd ql_K_173 ?_
        refine wp_gd (gZi ql_Z_173 qf_71) ?_
        refine wp_zLk qf_32 ?_
        refine wp_ret_bd ?_
        refine wp_gd qf_0 ?_
        refine wp_lt (xsk qf_1 hy1) ?_
        refine wp_gd ql_K_149 ?_
        refine wp_bd ?_
        refine wp_of (f_X13_tired.eq_1 ..) ?_
        refine wp_bd ?_
        refine wp_of (f_X13_isBetween.eq_1 ..) ?_
        refine wp_ifn qf_53 ?_
        refine wp_ifn qf_283 ?_
        refine wp_of (f_X13_isBetween_15.eq_1 ..) ?_
        refine wp_gd qf_18 ?_
        refine wp_ret_bd ?_
        refine wp_ifn qf_19 ?_
        refine wp_of (f_X13_tired_15.eq_1 ..) ?_
        refine wp_gd ql_K_149 ?_
        refine wp_bd ?_
        refine wp_of (f_X13_isWrong.eq_1 ..) ?_
        refine wp_gd ql_K_149 ?_
        refine wp_zI ?_
        refine wp_ifp qf_73 ?_
        refine wp_of (f_X13_isWrong_14.eq_1 ..) ?_
        refine wp_gd qf_14 ?_
        refine wp_ret_bd ?_
        refine wp_ifp qf_15 ?_
        refine wp_gd ql_K_149 ?_
        refine wp_lt ql_R_149_4 ?_
        refine wp_gd ql_K_169 ?_
        refine wp_gd (gZi ql_Z_169 qf_233) ?_
        refine wp_lt (gIk qf_56 (Eq.trans (gI_a rfl) ql_I_169_5)) ?_
        refine wp_of (f_X13_tired_31.eq_1 ..) ?_
        refine wp_ret_bd ?_
        refine wp_gd ql_K_149 ?_
        refine wp_bd ?_
        refine wp_of (f_X13_thrown.eq_1 ..) ?_
        refine wp_gd ql_K_149 ?_
        refine wp_lt gI_s ?_
        refine wp_ret_bd ?_
        refine wp_ifp qf_15 ?_
        refine wp_ifp qf_15 ?_
        refine wp_gd ql_K_173 ?_
        refine wp_gd (gZi ql_Z_173 qf_71) ?_
        refine wp_lt (gLk qf_32 gL_s) ?_
        refine wp_lt qf_70 ?_
        refine wp_lt qf_81 ?_
        refine wp_ifp qf_15 ?_
        refine wp_of (f_L_law_2709.eq_1 ..) ?_
        refine wp_of (f_L_law_3632.eq_1 ..) ?_
        refine wp_lt qf_21 ?_
        exact hrc _
set_option maxRecDepth 100000 in
set_option maxHeartbeats 4000000 in
theorem cs_38 {xs : Nat → Int32} {rc : mS → Nat → Nat → Nat → Nat → Int32 → Option (Rs Int32)} {Q : Rs Int32 → Prop} (hrc : ∀ S, WP Q (rc S 1 149 173 174 8)) : WP Q (f_L_law_2712 8 xs rc (M3I, M3L, M3R, M3D, M3K, M3Z, 174) 1 149 173 174 0) := by
  obtain ⟨y1, hy1⟩ : ∃ y, xs 1 = y := ⟨_, rfl⟩
  refine wp_of (f_L_law_2712.eq_1 ..) ?_
  refine wp_gd qf_0 ?_
  refine wp_lt (xsk qf_1 hy1) ?_
  refine wp_bd ?_
  refine wp_of (f_L_seconds.eq_1 ..) ?_
  refine wp_gd ql_K_1 ?_
  refine wp_bdc ?_
  refine wp_of (f_X10_seconds.eq_1 ..) ?_
  refine wp_gd ql_K_1 ?_
  refine wp_bd ?_
  refine wp_of (f_X10_discOf.eq_1 ..) ?_
  refine wp_gd ql_K_1 ?_
  refine wp_lt ql_R_1_0 ?_
  refine wp_gd ql_K_2 ?_
  refine wp_bd ?_
  refine wp_of (f_X8_discAt.eq_1 ..) ?_
  refine wp_if (fun c1 => ?_) (fun c1 => ?_)
  · skip
    refine wp_of (f_X8_discAt_30.eq_1 ..) ?_
    refine wp_of (f_X8_discAt_31.eq_1 ..) ?_
    refine wp_ret_bd ?_
    refine wp_ifp qf_87 ?_
    refine wp_rs_bd ?_
    refine wp_rs_bdc ?_
    refine wp_ifp qf_88 ?_
    refine wp_ret_bd ?_
    refine wp_gd qf_0 ?_
    refine wp_lt (xsk qf_1 hy1) ?_
    refine wp_gd ql_K_149 ?_
    refine wp_bd ?_
    refine wp_of (f_X13_seconds.eq_1 ..) ?_
    refine wp_gd ql_K_149 ?_
    refine wp_bd ?_
    refine wp_of (f_X13_isDisc.eq_1 ..) ?_
    refine wp_gd ql_K_149 ?_
    refine wp_lt ql_R_149_1 ?_
    refine wp_gd ql_K_150 ?_
    refine wp_bd ?_
    refine wp_of (f_Jx4a65c_size_8abf5.eq_1 ..) ?_
    refine wp_gd ql_K_150 ?_
    refine wp_lt ql_I_150_2 ?_
    refine wp_ret_bd ?_
    refine wp_lt qf_89 ?_
    refine wp_bd ?_
    refine wp_of (f_X13_isBetween.eq_1 ..) ?_
    refine wp_ifp c1 ?_
    refine wp_of (f_X13_isBetween_14.eq_1 ..) ?_
    refine wp_of (f_X13_isBetween_15.eq_1 ..) ?_
    refine wp_gd qf_14 ?_
    refine wp_ret_bd ?_
    refine wp_gd qf_14 ?_
    refine wp_ret_bd ?_
    refine wp_ifp qf_15 ?_
    refine wp_of (f_X13_seconds_14.eq_1 ..) ?_
    refine wp_gd ql_K_149 ?_
    refine wp_bd ?_
    refine wp_of (f_X13_isWrong.eq_1 ..) ?_
    refine wp_gd ql_K_149 ?_
    refine wp_zI ?_
    refine wp_ifn qf_17 ?_
    refine wp_of (f_X13_isWrong_14.eq_1 ..) ?_
    refine wp_gd qf_18 ?_
    refine wp_ret_bd ?_
    refine wp_ifn qf_19 ?_
    refine wp_of (f_X13_seconds_45.eq_1 ..) ?_
    refine wp_ret_bd ?_
    refine wp_gd ql_K_149 ?_
    refine wp_bd ?_
    refine wp_of (f_X13_thrown.eq_1 ..) ?_
    refine wp_gd ql_K_149 ?_
    refine wp_lt gI_s ?_
    refine wp_ret_bd ?_
    refine wp_ifp qf_20 ?_
    refine wp_ifn qf_19 ?_
    refine wp_of (f_L_law_2765.eq_1 ..) ?_
    refine wp_of (f_L_law_3632.eq_1 ..) ?_
    refine wp_lt qf_21 ?_
    exact hrc _
  · skip
    refine wp_gd ql_K_2 ?_
    refine wp_lt ql_I_2_4 ?_
    refine wp_ifp (show ((0 : Int32) ≤ y1) from by have e0 := qf_90; simp only [Int32.lt_iff_toInt_lt, Int32.le_iff_toInt_le, ← Int32.toInt_inj] at c1 ⊢; omega) ?_
    refine wp_of (f_X8_discAt_30.eq_1 ..) ?_
    refine wp_of (f_X8_discAt_31.eq_1 ..) ?_
    refine wp_ret_bd ?_
    refine wp_ifp qf_87 ?_
    refine wp_rs_bd ?_
    refine wp_rs_bdc ?_
    refine wp_ifp qf_88 ?_
    refine wp_ret_bd ?_
    refine wp_gd qf_0 ?_
    refine wp_lt (xsk qf_1 hy1) ?_
    refine wp_gd ql_K_149 ?_
    refine wp_bd ?_
    refine wp_of (f_X13_seconds.eq_1 ..) ?_
    refine wp_gd ql_K_149 ?_
    refine wp_bd ?_
    refine wp_of (f_X13_isDisc.eq_1 ..) ?_
    refine wp_gd ql_K_149 ?_
    refine wp_lt ql_R_149_1 ?_
    refine wp_gd ql_K_150 ?_
    refine wp_bd ?_
    refine wp_of (f_Jx4a65c_size_8abf5.eq_1 ..) ?_
    refine wp_gd ql_K_150 ?_
    refine wp_lt ql_I_150_2 ?_
    refine wp_ret_bd ?_
    refine wp_lt qf_89 ?_
    refine wp_bd ?_
    refine wp_of (f_X13_isBetween.eq_1 ..) ?_
    refine wp_ifn c1 ?_
    refine wp_ifp (show ((-1 : Int32) < y1) from by have e0 := qf_91; have e1 := qf_90; simp only [Int32.lt_iff_toInt_lt, Int32.le_iff_toInt_le, ← Int32.toInt_inj] at c1 ⊢; omega) ?_
    refine wp_of (f_X13_isBetween_14.eq_1 ..) ?_
    refine wp_of (f_X13_isBetween_15.eq_1 ..) ?_
    refine wp_gd qf_14 ?_
    refine wp_ret_bd ?_
    refine wp_gd qf_14 ?_
    refine wp_ret_bd ?_
    refine wp_ifp qf_15 ?_
    refine wp_of (f_X13_seconds_14.eq_1 ..) ?_
    refine wp_gd ql_K_149 ?_
    refine wp_bd ?_
    refine wp_of (f_X13_isWrong.eq_1 ..) ?_
    refine wp_gd ql_K_149 ?_
    refine wp_zI ?_
    refine wp_ifn qf_17 ?_
    refine wp_of (f_X13_isWrong_14.eq_1 ..) ?_
    refine wp_gd qf_18 ?_
    refine wp_ret_bd ?_
    refine wp_ifn qf_19 ?_
    refine wp_of (f_X13_seconds_45.eq_1 ..) ?_
    refine wp_ret_bd ?_
    refine wp_gd ql_K_149 ?_
    refine wp_bd ?_
    refine wp_of (f_X13_thrown.eq_1 ..) ?_
    refine wp_gd ql_K_149 ?_
    refine wp_lt gI_s ?_
    refine wp_ret_bd ?_
    refine wp_ifp qf_20 ?_
    refine wp_ifn qf_19 ?_
    refine wp_of (f_L_law_2765.eq_1 ..) ?_
    refine wp_of (f_L_law_3632.eq_1 ..) ?_
    refine wp_lt qf_21 ?_
    exact hrc _
set_option maxRecDepth 100000 in
set_option maxHeartbeats 4000000 in
theorem cs_39 {xs : Nat → Int32} {rc : mS → Nat → Nat → Nat → Nat → Int32 → Option (Rs Int32)} {Q : Rs Int32 → Prop} (hrc : ∀ S, WP Q (rc S 1 149 173 174 8)) : WP Q (f_L_law_2768 8 xs rc (M3I, M3L, M3R, M3D, M3K, M3Z, 174) 1 149 173 174 0) := by
  obtain ⟨y1, hy1⟩ : ∃ y, xs 1 = y := ⟨_, rfl⟩
  obtain ⟨y2, hy2⟩ : ∃ y, xs 2 = y := ⟨_, rfl⟩
  refine wp_of (f_L_law_2768.eq_1 ..) ?_
  refine wp_gd qf_0 ?_
  refine wp_lt (xsk qf_1 hy1) ?_
  refine wp_gd qf_2 ?_
  refine wp_lt (xsk qf_3 hy2) ?_
  refine wp_bd ?_
  refine wp_of (f_L_setLimit.eq_1 ..) ?_
  refine wp_gd ql_K_1 ?_
  refine wp_bdc ?_
  refine wp_of (f_X10_setLimit.eq_1 ..) ?_
  refine wp_bd ?_
  refine wp_of (f_X10_isIn.eq_1 ..) ?_
  refine wp_if (fun c1 => ?_) (fun c1 => ?_)
  · skip
    refine wp_of (f_X10_isIn_14.eq_1 ..) ?_
    refine wp_of (f_X10_isIn_15.eq_1 ..) ?_
    refine wp_gd qf_14 ?_
    refine wp_ret_bd ?_
    refine wp_ifp qf_15 ?_
    refine wp_of (f_X10_setLimit_24.eq_1 ..) ?_
    refine wp_of (f_X10_setLimit_25.eq_1 ..) ?_
    refine wp_bd ?_
    refine wp_of (f_X10_demand.eq_1 ..) ?_
    refine wp_ifp qf_15 ?_
    refine wp_rs_bd ?_
    refine wp_rs_bdc ?_
    refine wp_ifp qf_16 ?_
    refine wp_ret_bd ?_
    refine wp_gd qf_0 ?_
    refine wp_lt (xsk qf_1 hy1) ?_
    refine wp_gd qf_2 ?_
    refine wp_lt (xsk qf_3 hy2) ?_
    refine wp_gd ql_K_149 ?_
    refine wp_bd ?_
    refine wp_of (f_X13_setLimit.eq_1 ..) ?_
    refine wp_bd ?_
    refine wp_of (f_X13_isBetween.eq_1 ..) ?_
    refine wp_ifp c1 ?_
    refine wp_of (f_X13_isBetween_14.eq_1 ..) ?_
    refine wp_of (f_X13_isBetween_15.eq_1 ..) ?_
    refine wp_gd qf_14 ?_
    refine wp_ret_bd ?_
    refine wp_ifp qf_15 ?_
    refine wp_of (f_X13_setLimit_25.eq_1 ..) ?_
    refine wp_of (f_X13_setLimit_26.eq_1 ..) ?_
    refine wp_gd ql_K_149 ?_
    refine wp_bd ?_
    refine wp_of (f_X13_isWrong.eq_1 ..) ?_
    refine wp_gd ql_K_149 ?_
    refine wp_zI ?_
    refine wp_ifn qf_17 ?_
    refine wp_of (f_X13_isWrong_14.eq_1 ..) ?_
    refine wp_gd qf_18 ?_
    refine wp_ret_bd ?_
    refine wp_ifn qf_19 ?_
    refine wp_ret_bd ?_
    refine wp_gd ql_K_149 ?_
    refine wp_bd ?_
    refine wp_of (f_X13_thrown.eq_1 ..) ?_
    refine wp_gd ql_K_149 ?_
    refine wp_lt gI_s ?_
    refine wp_ret_bd ?_
    refine wp_ifp qf_20 ?_
    refine wp_ifn qf_19 ?_
    refine wp_of (f_L_law_2833.eq_1 ..) ?_
    refine wp_of (f_L_law_3632.eq_1 ..) ?_
    refine wp_lt qf_21 ?_
    exact hrc _
  · skip
    refine wp_if (fun c2 => ?_) (fun c2 => ?_)
    · skip
      refine wp_of (f_X10_isIn_14.eq_1 ..) ?_
      refine wp_of (f_X10_isIn_15.eq_1 ..) ?_
      refine wp_gd qf_14 ?_
      refine wp_ret_bd ?_
      refine wp_ifp qf_15 ?_
      refine wp_of (f_X10_setLimit_24.eq_1 ..) ?_
      refine wp_of (f_X10_setLimit_25.eq_1 ..) ?_
      refine wp_bd ?_
      refine wp_of (f_X10_demand.eq_1 ..) ?_
      refine wp_ifp qf_15 ?_
      refine wp_rs_bd ?_
      refine wp_rs_bdc ?_
      refine wp_ifp qf_16 ?_
      refine wp_ret_bd ?_
      refine wp_gd qf_0 ?_
      refine wp_lt (xsk qf_1 hy1) ?_
      refine wp_gd qf_2 ?_
      refine wp_lt (xsk qf_3 hy2) ?_
      refine wp_gd ql_K_149 ?_
      refine wp_bd ?_
      refine wp_of (f_X13_setLimit.eq_1 ..) ?_
      refine wp_bd ?_
      refine wp_of (f_X13_isBetween.eq_1 ..) ?_
      refine wp_ifn c1 ?_
      refine wp_ifp c2 ?_
      refine wp_of (f_X13_isBetween_14.eq_1 ..) ?_
      refine wp_of (f_X13_isBetween_15.eq_1 ..) ?_
      refine wp_gd qf_14 ?_
      refine wp_ret_bd ?_
      refine wp_ifp qf_15 ?_
      refine wp_of (f_X13_setLimit_25.eq_1 ..) ?_
      refine wp_of (f_X13_setLimit_26.eq_1 ..) ?_
      refine wp_gd ql_K_149 ?_
      refine wp_bd ?_
      refine wp_of (f_X13_isWrong.eq_1 ..) ?_
      refine wp_gd ql_K_149 ?_
      refine wp_zI ?_
      refine wp_ifn qf_17 ?_
      refine wp_of (f_X13_isWrong_14.eq_1 ..) ?_
      refine wp_gd qf_18 ?_
      refine wp_ret_bd ?_
      refine wp_ifn qf_19 ?_
      refine wp_ret_bd ?_
      refine wp_gd ql_K_149 ?_
      refine wp_bd ?_
      refine wp_of (f_X13_thrown.eq_1 ..) ?_
      refine wp_gd ql_K_149 ?_
      refine wp_lt gI_s ?_
      refine wp_ret_bd ?_
      refine wp_ifp qf_20 ?_
      refine wp_ifn qf_19 ?_
      refine wp_of (f_L_law_2833.eq_1 ..) ?_
      refine wp_of (f_L_law_3632.eq_1 ..) ?_
      refine wp_lt qf_21 ?_
      exact hrc _
    · skip
      refine wp_of (f_X10_isIn_15.eq_1 ..) ?_
      refine wp_gd qf_18 ?_
      refine wp_ret_bd ?_
      refine wp_ifn qf_19 ?_
      refine wp_bd ?_
      refine wp_of (f_X10_isIn.eq_1 ..) ?_
      refine wp_if (fun c3 => ?_) (fun c3 => ?_)
      · skip
        refine wp_of (f_X10_isIn_14.eq_1 ..) ?_
        refine wp_of (f_X10_isIn_15.eq_1 ..) ?_
        refine wp_gd qf_14 ?_
        refine wp_ret_bd ?_
        refine wp_ifp qf_15 ?_
        refine wp_of (f_X10_setLimit_24.eq_1 ..) ?_
        refine wp_of (f_X10_setLimit_25.eq_1 ..) ?_
        refine wp_bd ?_
        refine wp_of (f_X10_demand.eq_1 ..) ?_
        refine wp_ifp qf_15 ?_
        refine wp_rs_bd ?_
        refine wp_rs_bdc ?_
        refine wp_ifp qf_16 ?_
        refine wp_ret_bd ?_
        refine wp_gd qf_0 ?_
        refine wp_lt (xsk qf_1 hy1) ?_
        refine wp_gd qf_2 ?_
        refine wp_lt (xsk qf_3 hy2) ?_
        refine wp_gd ql_K_149 ?_
        refine wp_bd ?_
        refine wp_of (f_X13_setLimit.eq_1 ..) ?_
        refine wp_bd ?_
        refine wp_of (f_X13_isBetween.eq_1 ..) ?_
        refine wp_ifn c1 ?_
        refine wp_ifn c2 ?_
        refine wp_of (f_X13_isBetween_15.eq_1 ..) ?_
        refine wp_gd qf_18 ?_
        refine wp_ret_bd ?_
        refine wp_ifn qf_19 ?_
        refine wp_bd ?_
        refine wp_of (f_X13_isBetween.eq_1 ..) ?_
        refine wp_ifp c3 ?_
        refine wp_of (f_X13_isBetween_14.eq_1 ..) ?_
        refine wp_of (f_X13_isBetween_15.eq_1 ..) ?_
        refine wp_gd qf_14 ?_
        refine wp_ret_bd ?_
        refine wp_ifp qf_15 ?_
        refine wp_of (f_X13_setLimit_25.eq_1 ..) ?_
        refine wp_of (f_X13_setLimit_26.eq_1 ..) ?_
        refine wp_gd ql_K_149 ?_
        refine wp_bd ?_
        refine wp_of (f_X13_isWrong.eq_1 ..) ?_
        refine wp_gd ql_K_149 ?_
        refine wp_zI ?_
        refine wp_ifn qf_17 ?_
        refine wp_of (f_X13_isWrong_14.eq_1 ..) ?_
        refine wp_gd qf_18 ?_
        refine wp_ret_bd ?_
        refine wp_ifn qf_19 ?_
        refine wp_ret_bd ?_
        refine wp_gd ql_K_149 ?_
        refine wp_bd ?_
        refine wp_of (f_X13_thrown.eq_1 ..) ?_
        refine wp_gd ql_K_149 ?_
        refine wp_lt gI_s ?_
        refine wp_ret_bd ?_
        refine wp_ifp qf_20 ?_
        refine wp_ifn qf_19 ?_
        refine wp_of (f_L_law_2833.eq_1 ..) ?_
        refine wp_of (f_L_law_3632.eq_1 ..) ?_
        refine wp_lt qf_21 ?_
        exact hrc _
      · skip
        refine wp_if (fun c4 => ?_) (fun c4 => ?_)
        · skip
          refine wp_of (f_X10_isIn_14.eq_1 ..) ?_
          refine wp_of (f_X10_isIn_15.eq_1 ..) ?_
          refine wp_gd qf_14 ?_
          refine wp_ret_bd ?_
          refine wp_ifp qf_15 ?_
          refine wp_of (f_X10_setLimit_24.eq_1 ..) ?_
          refine wp_of (f_X10_setLimit_25.eq_1 ..) ?_
          refine wp_bd ?_
          refine wp_of (f_X10_demand.eq_1 ..) ?_
          refine wp_ifp qf_15 ?_
          refine wp_rs_bd ?_
          refine wp_rs_bdc ?_
          refine wp_ifp qf_16 ?_
          refine wp_ret_bd ?_
          refine wp_gd qf_0 ?_
          refine wp_lt (xsk qf_1 hy1) ?_
          refine wp_gd qf_2 ?_
          refine wp_lt (xsk qf_3 hy2) ?_
          refine wp_gd ql_K_149 ?_
          refine wp_bd ?_
          refine wp_of (f_X13_setLimit.eq_1 ..) ?_
          refine wp_bd ?_
          refine wp_of (f_X13_isBetween.eq_1 ..) ?_
          refine wp_ifn c1 ?_
          refine wp_ifn c2 ?_
          refine wp_of (f_X13_isBetween_15.eq_1 ..) ?_
          refine wp_gd qf_18 ?_
          refine wp_ret_bd ?_
          refine wp_ifn qf_19 ?_
          refine wp_bd ?_
          refine wp_of (f_X13_isBetween.eq_1 ..) ?_
          refine wp_ifn c3 ?_
          refine wp_ifp c4 ?_
          refine wp_of (f_X13_isBetween_14.eq_1 ..) ?_
          refine wp_of (f_X13_isBetween_15.eq_1 ..) ?_
          refine wp_gd qf_14 ?_
          refine wp_ret_bd ?_
          refine wp_ifp qf_15 ?_
          refine wp_of (f_X13_setLimit_25.eq_1 ..) ?_
          refine wp_of (f_X13_setLimit_26.eq_1 ..) ?_
          refine wp_gd ql_K_149 ?_
          refine wp_bd ?_
          refine wp_of (f_X13_isWrong.eq_1 ..) ?_
          refine wp_gd ql_K_149 ?_
          refine wp_zI ?_
          refine wp_ifn qf_17 ?_
          refine wp_of (f_X13_isWrong_14.eq_1 ..) ?_
          refine wp_gd qf_18 ?_
          refine wp_ret_bd ?_
          refine wp_ifn qf_19 ?_
          refine wp_ret_bd ?_
          refine wp_gd ql_K_149 ?_
          refine wp_bd ?_
          refine wp_of (f_X13_thrown.eq_1 ..) ?_
          refine wp_gd ql_K_149 ?_
          refine wp_lt gI_s ?_
          refine wp_ret_bd ?_
          refine wp_ifp qf_20 ?_
          refine wp_ifn qf_19 ?_
          refine wp_of (f_L_law_2833.eq_1 ..) ?_
          refine wp_of (f_L_law_3632.eq_1 ..) ?_
          refine wp_lt qf_21 ?_
          exact hrc _
        · skip
          refine wp_of (f_X10_isIn_15.eq_1 ..) ?_
          refine wp_gd qf_18 ?_
          refine wp_ret_bd ?_
          refine wp_ifn qf_19 ?_
          refine wp_of (f_X10_setLimit_25.eq_1 ..) ?_
          refine wp_bd ?_
          refine wp_of (f_X10_demand.eq_1 ..) ?_
          refine wp_ifn qf_19 ?_
          refine wp_ret_bd ?_
          refine wp_gd ql_K_1 ?_
          refine wp_lt ql_R_1_2 ?_
          refine wp_gd ql_K_106 ?_
          refine wp_bd ?_
          refine wp_of (f_X6_note.eq_1 ..) ?_
          refine wp_gd ql_K_106 ?_
          refine wp_bd ?_
          refine wp_of (f_X6_open.eq_1 ..) ?_
          refine wp_gd ql_K_106 ?_
          refine wp_lt ql_I_106_2 ?_
          refine wp_lt qf_25 ?_
          refine wp_zI ?_
          refine wp_lt (Eq.trans (gI_b rfl) ql_I_106_2) ?_
          refine wp_ifn qf_26 ?_
          refine wp_lt (Eq.trans (gI_b rfl) ql_I_106_2) ?_
          refine wp_lt qf_27 ?_
          refine wp_zI ?_
          refine wp_of (f_X6_open_31.eq_1 ..) ?_
          refine wp_gd ql_K_106 ?_
          refine wp_bd ?_
          refine wp_of (f_X6_put.eq_1 ..) ?_
          refine wp_gd ql_K_106 ?_
          refine wp_lt (Eq.trans (gI_b rfl) gI_s) ?_
          refine wp_ifn qf_28 ?_
          refine wp_lt (Eq.trans (gI_b rfl) gI_s) ?_
          refine wp_lt ql_R_106_0 ?_
          refine wp_gd ql_K_107 ?_
          refine wp_lt (gZo ql_Z_107 qf_29) ?_
          refine wp_ifn qf_30 ?_
          refine wp_lt ql_R_106_0 ?_
          refine wp_lt (Eq.trans (gI_b rfl) gI_s) ?_
          refine wp_gd ql_K_107 ?_
          refine wp_gd (gZi ql_Z_107 qf_31) ?_
          refine wp_zIk qf_32 ?_
          refine wp_lt (Eq.trans (gI_a rfl) (Eq.trans (gI_b rfl) gI_s)) ?_
          refine wp_lt qf_27 ?_
          refine wp_zI ?_
          refine wp_of (f_X6_put_39.eq_1 ..) ?_
          refine wp_ret_bd ?_
          refine wp_ret_bd ?_
          refine wp_gd ql_K_106 ?_
          refine wp_bd ?_
          refine wp_of (f_X6_put.eq_1 ..) ?_
          refine wp_gd ql_K_106 ?_
          refine wp_lt gI_s ?_
          refine wp_ifn qf_33 ?_
          refine wp_lt gI_s ?_
          refine wp_lt ql_R_106_0 ?_
          refine wp_gd ql_K_107 ?_
          refine wp_lt (gZo ql_Z_107 qf_29) ?_
          refine wp_ifn qf_34 ?_
          refine wp_lt ql_R_106_0 ?_
          refine wp_lt gI_s ?_
          refine wp_gd ql_K_107 ?_
          refine wp_gd (gZi ql_Z_107 qf_35) ?_
          refine wp_zIk qf_36 ?_
          refine wp_lt (Eq.trans (gI_a rfl) gI_s) ?_
          refine wp_lt qf_37 ?_
          refine wp_zI ?_
          refine wp_of (f_X6_put_39.eq_1 ..) ?_
          refine wp_ret_bd ?_
          refine wp_gd ql_K_106 ?_
          refine wp_bd ?_
          refine wp_of (f_X6_put.eq_1 ..) ?_
          refine wp_gd ql_K_106 ?_
          refine wp_lt gI_s ?_
          refine wp_ifn qf_38 ?_
          refine wp_lt gI_s ?_
          refine wp_lt ql_R_106_0 ?_
          refine wp_gd ql_K_107 ?_
          refine wp_lt (gZo ql_Z_107 qf_29) ?_
          refine wp_ifn qf_39 ?_
          refine wp_lt ql_R_106_0 ?_
          refine wp_lt gI_s ?_
          refine wp_gd ql_K_107 ?_
          refine wp_gd (gZi ql_Z_107 qf_40) ?_
          refine wp_zIk qf_41 ?_
          refine wp_lt (Eq.trans (gI_a rfl) gI_s) ?_
          refine wp_lt qf_42 ?_
          refine wp_zI ?_
          refine wp_of (f_X6_put_39.eq_1 ..) ?_
          refine wp_ret_bd ?_
          refine wp_gd ql_K_106 ?_
          refine wp_bd ?_
          refine wp_of (f_X6_put.eq_1 ..) ?_
          refine wp_gd ql_K_106 ?_
          refine wp_lt gI_s ?_
          refine wp_ifn qf_43 ?_
          refine wp_lt gI_s ?_
          refine wp_lt ql_R_106_0 ?_
          refine wp_gd ql_K_107 ?_
          refine wp_lt (gZo ql_Z_107 qf_29) ?_
          refine wp_ifn qf_44 ?_
          refine wp_lt ql_R_106_0 ?_
          refine wp_lt gI_s ?_
          refine wp_gd ql_K_107 ?_
          refine wp_gd (gZi ql_Z_107 qf_45) ?_
          refine wp_zIk qf_46 ?_
          refine wp_lt (Eq.trans (gI_a rfl) gI_s) ?_
          refine wp_lt qf_47 ?_
          refine wp_zI ?_
          refine wp_of (f_X6_put_39.eq_1 ..) ?_
          refine wp_ret_bd ?_
          refine wp_ret_bd ?_
          refine wp_gd ql_K_1 ?_
          refine wp_lt ql_R_1_0 ?_
          refine wp_gd ql_K_2 ?_
          refine wp_lt ql_R_2_3 ?_
          refine wp_gd ql_K_52 ?_
          refine wp_bd ?_
          refine wp_of (f_X5_change.eq_1 ..) ?_
          refine wp_ifn c1 ?_
          refine wp_gd ql_K_52 ?_
          refine wp_lt ql_R_52_0 ?_
          refine wp_gd ql_K_53 ?_
          refine wp_lt (gZo ql_Z_53 qf_92) ?_
          refine wp_ifp (show (y1 < (4 : Int32)) from by have e0 := qf_90; have e1 := qf_93; have e2 := qf_94; simp only [Int32.lt_iff_toInt_lt, Int32.le_iff_toInt_le, ← Int32.toInt_inj] at c1 c2 ⊢; omega) ?_
          refine wp_lt ql_R_52_0 ?_
          refine wp_gd ql_K_53 ?_
          rcases (show y1 = (0 : Int32) ∨ y1 = (1 : Int32) ∨ y1 = (2 : Int32) ∨ y1 = (3 : Int32) from by have e0 := qf_90; have e1 := qf_95; have e2 := qf_96; have e3 := qf_93; simp only [Int32.lt_iff_toInt_lt, Int32.le_iff_toInt_le] at c1 c2; simp only [← Int32.toInt_inj]; omega) with rfl | rfl | rfl | rfl
          · skip
            refine wp_gd (gZi ql_Z_53 qf_97) ?_
            refine wp_lt (gIk qf_32 (Eq.trans (gI_a rfl) (Eq.trans (gI_a rfl) (Eq.trans (gI_a rfl) (Eq.trans (gI_a rfl) (Eq.trans (gI_a rfl) (Eq.trans (gI_a rfl) (Eq.trans (gI_a rfl) (Eq.trans (gI_a rfl) (Eq.trans (gI_a rfl) (Eq.trans (gI_a rfl) ql_I_53_0))))))))))) ?_
            refine wp_lt ql_R_52_0 ?_
            refine wp_gd ql_K_53 ?_
            refine wp_gd (gZi ql_Z_53 qf_97) ?_
            refine wp_zIk qf_32 ?_
            refine wp_ret_bd ?_
            refine wp_ret_bdc ?_
            refine wp_lt qf_291 ?_
            refine wp_gd ql_K_173 ?_
            refine wp_gd (gZi ql_Z_173 qf_71) ?_
            refine wp_zLk qf_32 ?_
            refine wp_ret_bd ?_
            refine wp_gd qf_0 ?_
            refine wp_lt (xsk qf_1 hy1) ?_
            refine wp_gd qf_2 ?_
            refine wp_lt (xsk qf_3 hy2) ?_
            refine wp_gd ql_K_149 ?_
            refine wp_bd ?_
            refine wp_of (f_X13_setLimit.eq_1 ..) ?_
            refine wp_bd ?_
            refine wp_of (f_X13_isBetween.eq_1 ..) ?_
            refine wp_ifn qf_28 ?_
            refine wp_ifn qf_43 ?_
            refine wp_of (f_X13_isBetween_15.eq_1 ..) ?_
            refine wp_gd qf_18 ?_
            refine wp_ret_bd ?_
            refine wp_ifn qf_19 ?_
            refine wp_bd ?_
            refine wp_of (f_X13_isBetween.eq_1 ..) ?_
            refine wp_ifn c3 ?_
            refine wp_ifn c4 ?_
            refine wp_of (f_X13_isBetween_15.eq_1 ..) ?_
            refine wp_gd qf_18 ?_
            refine wp_ret_bd ?_
            refine wp_ifn qf_19 ?_
            refine wp_of (f_X13_setLimit_26.eq_1 ..) ?_
            refine wp_gd ql_K_149 ?_
            refine wp_bd ?_
            refine wp_of (f_X13_isWrong.eq_1 ..) ?_
            refine wp_gd ql_K_149 ?_
            refine wp_zI ?_
            refine wp_ifp qf_73 ?_
            refine wp_of (f_X13_isWrong_14.eq_1 ..) ?_
            refine wp_gd qf_14 ?_
            refine wp_ret_bd ?_
            refine wp_ifp qf_15 ?_
            refine wp_gd ql_K_149 ?_
            refine wp_lt ql_R_149_5 ?_
            refine wp_gd ql_K_170 ?_
            refine wp_gd (gZi ql_Z_170 qf_97) ?_
            refine wp_lt (gIk qf_32 (Eq.trans (gI_a rfl) (Eq.trans (gI_a rfl) (Eq.trans (gI_a rfl) (Eq.trans (gI_a rfl) (Eq.trans (gI_a rfl) (Eq.trans (gI_a rfl) (Eq.trans (gI_a rfl) (Eq.trans (gI_a rfl) (Eq.trans (gI_a rfl) (Eq.trans (gI_a rfl) (Eq.trans (gI_a rfl) (Eq.trans (gI_a rfl) ql_I_170_0))))))))))))) ?_
            refine wp_lt ql_R_149_5 ?_
            refine wp_gd ql_K_170 ?_
            refine wp_gd (gZi ql_Z_170 qf_97) ?_
            refine wp_zIk qf_32 ?_
            refine wp_bd ?_
            refine wp_of (f_X13_logs.eq_1 ..) ?_
            refine wp_gd ql_K_149 ?_
            refine wp_lt (Eq.trans (gI_a rfl) (Eq.trans (gI_b rfl) (Eq.trans (gI_a rfl) (Eq.trans (gI_a rfl) (Eq.trans (gI_a rfl) (Eq.trans (gI_a rfl) (Eq.trans (gI_a rfl) (Eq.trans (gI_a rfl) (Eq.trans (gI_a rfl) (Eq.trans (gI_a rfl) (Eq.trans (gI_a rfl) (Eq.trans (gI_a rfl) (Eq.trans (gI_a rfl) ql_I_149_16))))))))))))) ?_
            refine wp_lt qf_27 ?_
            refine wp_zI ?_
            refine wp_ret_bd ?_
            refine wp_ret_bd ?_
            refine wp_gd ql_K_149 ?_
            refine wp_bd ?_
            refine wp_of (f_X13_thrown.eq_1 ..) ?_
            refine wp_gd ql_K_149 ?_
            refine wp_lt (Eq.trans (gI_b rfl) (Eq.trans (gI_a rfl) gI_s)) ?_
            refine wp_ret_bd ?_
            refine wp_ifp qf_15 ?_
            refine wp_ifp qf_15 ?_
            refine wp_gd ql_K_173 ?_
            refine wp_gd (gZi ql_Z_173 qf_71) ?_
            refine wp_lt (gLk qf_32 gL_s) ?_
            refine wp_lt qf_291 ?_
            refine wp_lt qf_292 ?_
            refine wp_ifp qf_15 ?_
            refine wp_of (f_L_law_2833.eq_1 ..) ?_
            refine wp_of (f_L_law_3632.eq_1 ..) ?_
            refine wp_lt qf_21 ?_
            exact hrc _
          · skip
            refine wp_gd (gZi ql_Z_53 qf_99) ?_
            refine wp_lt (gIk qf_36 (Eq.trans (gI_a rfl) (Eq.trans (gI_a rfl) (Eq.trans (gI_a rfl) (Eq.trans (gI_a rfl) (Eq.trans (gI_a rfl) (Eq.trans (gI_a rfl) (Eq.trans (gI_a rfl) (Eq.trans (gI_a rfl) (Eq.trans (gI_a rfl) (Eq.trans (gI_a rfl) ql_I_53_1))))))))))) ?_
            refine wp_lt ql_R_52_0 ?_
            refine wp_gd ql_K_53 ?_
            refine wp_gd (gZi ql_Z_53 qf_99) ?_
            refine wp_zIk qf_36 ?_
            refine wp_ret_bd ?_
            refine wp_ret_bdc ?_
            refine wp_lt qf_291 ?_
            refine wp_gd ql_K_173 ?_
            refine wp_gd (gZi ql_Z_173 qf_71) ?_
            refine wp_zLk qf_32 ?_
            refine wp_ret_bd ?_
            refine wp_gd qf_0 ?_
            refine wp_lt (xsk qf_1 hy1) ?_
            refine wp_gd qf_2 ?_
            refine wp_lt (xsk qf_3 hy2) ?_
            refine wp_gd ql_K_149 ?_
            refine wp_bd ?_
            refine wp_of (f_X13_setLimit.eq_1 ..) ?_
            refine wp_bd ?_
            refine wp_of (f_X13_isBetween.eq_1 ..) ?_
            refine wp_ifn qf_33 ?_
            refine wp_ifn qf_101 ?_
            refine wp_of (f_X13_isBetween_15.eq_1 ..) ?_
            refine wp_gd qf_18 ?_
            refine wp_ret_bd ?_
            refine wp_ifn qf_19 ?_
            refine wp_bd ?_
            refine wp_of (f_X13_isBetween.eq_1 ..) ?_
            refine wp_ifn c3 ?_
            refine wp_ifn c4 ?_
            refine wp_of (f_X13_isBetween_15.eq_1 ..) ?_
            refine wp_gd qf_18 ?_
            refine wp_ret_bd ?_
            refine wp_ifn qf_19 ?_
            refine wp_of (f_X13_setLimit_26.eq_1 ..) ?_
            refine wp_gd ql_K_149 ?_
            refine wp_bd ?_
            refine wp_of (f_X13_isWrong.eq_1 ..) ?_
            refine wp_gd ql_K_149 ?_
            refine wp_zI ?_
            refine wp_ifp qf_73 ?_
            refine wp_of (f_X13_isWrong_14.eq_1 ..) ?_
            refine wp_gd qf_14 ?_
            refine wp_ret_bd ?_
            refine wp_ifp qf_15 ?_
            refine wp_gd ql_K_149 ?_
            refine wp_lt ql_R_149_5 ?_
            refine wp_gd ql_K_170 ?_
            refine wp_gd (gZi ql_Z_170 qf_99) ?_
            refine wp_lt (gIk qf_36 (Eq.trans (gI_a rfl) (Eq.trans (gI_a rfl) (Eq.trans (gI_a rfl) (Eq.trans (gI_a rfl) (Eq.trans (gI_a rfl) (Eq.trans (gI_a rfl) (Eq.trans (gI_a rfl) (Eq.trans (gI_a rfl) (Eq.trans (gI_a rfl) (Eq.trans (gI_a rfl) (Eq.trans (gI_a rfl) (Eq.trans (gI_a rfl) ql_I_170_1))))))))))))) ?_
            refine wp_lt ql_R_149_5 ?_
            refine wp_gd ql_K_170 ?_
            refine wp_gd (gZi ql_Z_170 qf_99) ?_
            refine wp_zIk qf_36 ?_
            refine wp_bd ?_
            refine wp_of (f_X13_logs.eq_1 ..) ?_
            refine wp_gd ql_K_149 ?_
            refine wp_lt (Eq.trans (gI_a rfl) (Eq.trans (gI_b rfl) (Eq.trans (gI_a rfl) (Eq.trans (gI_a rfl) (Eq.trans (gI_a rfl) (Eq.trans (gI_a rfl) (Eq.trans (gI_a rfl) (Eq.trans (gI_a rfl) (Eq.trans (gI_a rfl) (Eq.trans (gI_a rfl) (Eq.trans (gI_a rfl) (Eq.trans (gI_a rfl) (Eq.trans (gI_a rfl) ql_I_149_16))))))))))))) ?_
            refine wp_lt qf_27 ?_
            refine wp_zI ?_
            refine wp_ret_bd ?_
            refine wp_ret_bd ?_
            refine wp_gd ql_K_149 ?_
            refine wp_bd ?_
            refine wp_of (f_X13_thrown.eq_1 ..) ?_
            refine wp_gd ql_K_149 ?_
            refine wp_lt (Eq.trans (gI_b rfl) (Eq.trans (gI_a rfl) gI_s)) ?_
            refine wp_ret_bd ?_
            refine wp_ifp qf_15 ?_
            refine wp_ifp qf_15 ?_
            refine wp_gd ql_K_173 ?_
            refine wp_gd (gZi ql_Z_173 qf_71) ?_
            refine wp_lt (gLk qf_32 gL_s) ?_
            refine wp_lt qf_291 ?_
            refine wp_lt qf_292 ?_
            refine wp_ifp qf_15 ?_
            refine wp_of (f_L_law_2833.eq_1 ..) ?_
            refine wp_of (f_L_law_3632.eq_1 ..) ?_
            refine wp_lt qf_21 ?_
            exact hrc _
          · skip
            refine wp_gd (gZi ql_Z_53 qf_102) ?_
            refine wp_lt (gIk qf_41 (Eq.trans (gI_a rfl) (Eq.trans (gI_a rfl) (Eq.trans (gI_a rfl) (Eq.trans (gI_a rfl) (Eq.trans (gI_a rfl) (Eq.trans (gI_a rfl) (Eq.trans (gI_a rfl) (Eq.trans (gI_a rfl) (Eq.trans (gI_a rfl) (Eq.trans (gI_a rfl) ql_I_53_2))))))))))) ?_
            refine wp_lt ql_R_52_0 ?_
            refine wp_gd ql_K_53 ?_
            refine wp_gd (gZi ql_Z_53 qf_102) ?_
            refine wp_zIk qf_41 ?_
            refine wp_ret_bd ?_
            refine wp_ret_bdc ?_
            refine wp_lt qf_291 ?_
            refine wp_gd ql_K_173 ?_
            refine wp_gd (gZi ql_Z_173 qf_71) ?_
            refine wp_zLk qf_32 ?_
            refine wp_ret_bd ?_
            refine wp_gd qf_0 ?_
            refine wp_lt (xsk qf_1 hy1) ?_
            refine wp_gd qf_2 ?_
            refine wp_lt (xsk qf_3 hy2) ?_
            refine wp_gd ql_K_149 ?_
            refine wp_bd ?_
            refine wp_of (f_X13_setLimit.eq_1 ..) ?_
            refine wp_bd ?_
            refine wp_of (f_X13_isBetween.eq_1 ..) ?_
            refine wp_ifn qf_38 ?_
            refine wp_ifn qf_104 ?_
            refine wp_of (f_X13_isBetween_15.eq_1 ..) ?_
            refine wp_gd qf_18 ?_
            refine wp_ret_bd ?_
            refine wp_ifn qf_19 ?_
            refine wp_bd ?_
            refine wp_of (f_X13_isBetween.eq_1 ..) ?_
            refine wp_ifn c3 ?_
            refine wp_ifn c4 ?_
            refine wp_of (f_X13_isBetween_15.eq_1 ..) ?_
            refine wp_gd qf_18 ?_
            refine wp_ret_bd ?_
            refine wp_ifn qf_19 ?_
            refine wp_of (f_X13_setLimit_26.eq_1 ..) ?_
            refine wp_gd ql_K_149 ?_
            refine wp_bd ?_
            refine wp_of (f_X13_isWrong.eq_1 ..) ?_
            refine wp_gd ql_K_149 ?_
            refine wp_zI ?_
            refine wp_ifp qf_73 ?_
            refine wp_of (f_X13_isWrong_14.eq_1 ..) ?_
            refine wp_gd qf_14 ?_
            refine wp_ret_bd ?_
            refine wp_ifp qf_15 ?_
            refine wp_gd ql_K_149 ?_
            refine wp_lt ql_R_149_5 ?_
            refine wp_gd ql_K_170 ?_
            refine wp_gd (gZi ql_Z_170 qf_102) ?_
            refine wp_lt (gIk qf_41 (Eq.trans (gI_a rfl) (Eq.trans (gI_a rfl) (Eq.trans (gI_a rfl) (Eq.trans (gI_a rfl) (Eq.trans (gI_a rfl) (Eq.trans (gI_a rfl) (Eq.trans (gI_a rfl) (Eq.trans (gI_a rfl) (Eq.trans (gI_a rfl) (Eq.trans (gI_a rfl) (Eq.trans (gI_a rfl) (Eq.trans (gI_a rfl) ql_I_170_2))))))))))))) ?_
            refine wp_lt ql_R_149_5 ?_
            refine wp_gd ql_K_170 ?_
            refine wp_gd (gZi ql_Z_170 qf_102) ?_
            refine wp_zIk qf_41 ?_
            refine wp_bd ?_
            refine wp_of (f_X13_logs.eq_1 ..) ?_
            refine wp_gd ql_K_149 ?_
            refine wp_lt (Eq.trans (gI_a rfl) (Eq.trans (gI_b rfl) (Eq.trans (gI_a rfl) (Eq.trans (gI_a rfl) (Eq.trans (gI_a rfl) (Eq.trans (gI_a rfl) (Eq.trans (gI_a rfl) (Eq.trans (gI_a rfl) (Eq.trans (gI_a rfl) (Eq.trans (gI_a rfl) (Eq.trans (gI_a rfl) (Eq.trans (gI_a rfl) (Eq.trans (gI_a rfl) ql_I_149_16))))))))))))) ?_
            refine wp_lt qf_27 ?_
            refine wp_zI ?_
            refine wp_ret_bd ?_
            refine wp_ret_bd ?_
            refine wp_gd ql_K_149 ?_
            refine wp_bd ?_
            refine wp_of (f_X13_thrown.eq_1 ..) ?_
            refine wp_gd ql_K_149 ?_
            refine wp_lt (Eq.trans (gI_b rfl) (Eq.trans (gI_a rfl) gI_s)) ?_
            refine wp_ret_bd ?_
            refine wp_ifp qf_15 ?_
            refine wp_ifp qf_15 ?_
            refine wp_gd ql_K_173 ?_
            refine wp_gd (gZi ql_Z_173 qf_71) ?_
            refine wp_lt (gLk qf_32 gL_s) ?_
            refine wp_lt qf_291 ?_
            refine wp_lt qf_292 ?_
            refine wp_ifp qf_15 ?_
            refine wp_of (f_L_law_2833.eq_1 ..) ?_
            refine wp_of (f_L_law_3632.eq_1 ..) ?_
            refine wp_lt qf_21 ?_
            exact hrc _
          · skip
            refine wp_gd (gZi ql_Z_53 qf_105) ?_
            refine wp_lt (gIk qf_46 (Eq.trans (gI_a rfl) (Eq.trans (gI_a rfl) (Eq.trans (gI_a rfl) (Eq.trans (gI_a rfl) (Eq.trans (gI_a rfl) (Eq.trans (gI_a rfl) (Eq.trans (gI_a rfl) (Eq.trans (gI_a rfl) (Eq.trans (gI_a rfl) (Eq.trans (gI_a rfl) ql_I_53_3))))))))))) ?_
            refine wp_lt ql_R_52_0 ?_
            refine wp_gd ql_K_53 ?_
            refine wp_gd (gZi ql_Z_53 qf_105) ?_
            refine wp_zIk qf_46 ?_
            refine wp_ret_bd ?_
            refine wp_ret_bdc ?_
            refine wp_lt qf_291 ?_
            refine wp_gd ql_K_173 ?_
            refine wp_gd (gZi ql_Z_173 qf_71) ?_
            refine wp_zLk qf_32 ?_
            refine wp_ret_bd ?_
            refine wp_gd qf_0 ?_
            refine wp_lt (xsk qf_1 hy1) ?_
            refine wp_gd qf_2 ?_
            refine wp_lt (xsk qf_3 hy2) ?_
            refine wp_gd ql_K_149 ?_
            refine wp_bd ?_
            refine wp_of (f_X13_setLimit.eq_1 ..) ?_
            refine wp_bd ?_
            refine wp_of (f_X13_isBetween.eq_1 ..) ?_
            refine wp_ifn qf_43 ?_
            refine wp_ifn qf_107 ?_
            refine wp_of (f_X13_isBetween_15.eq_1 ..) ?_
            refine wp_gd qf_18 ?_
            refine wp_ret_bd ?_
            refine wp_ifn qf_19 ?_
            refine wp_bd ?_
            refine wp_of (f_X13_isBetween.eq_1 ..) ?_
            refine wp_ifn c3 ?_
            refine wp_ifn c4 ?_
            refine wp_of (f_X13_isBetween_15.eq_1 ..) ?_
            refine wp_gd qf_18 ?_
            refine wp_ret_bd ?_
            refine wp_ifn qf_19 ?_
            refine wp_of (f_X13_setLimit_26.eq_1 ..) ?_
            refine wp_gd ql_K_149 ?_
            refine wp_bd ?_
            refine wp_of (f_X13_isWrong.eq_1 ..) ?_
            refine wp_gd ql_K_149 ?_
            refine wp_zI ?_
            refine wp_ifp qf_73 ?_
            refine wp_of (f_X13_isWrong_14.eq_1 ..) ?_
            refine wp_gd qf_14 ?_
            refine wp_ret_bd ?_
            refine wp_ifp qf_15 ?_
            refine wp_gd ql_K_149 ?_
            refine wp_lt ql_R_149_5 ?_
            refine wp_gd ql_K_170 ?_
            refine wp_gd (gZi ql_Z_170 qf_105) ?_
            refine wp_lt (gIk qf_46 (Eq.trans (gI_a rfl) (Eq.trans (gI_a rfl) (Eq.trans (gI_a rfl) (Eq.trans (gI_a rfl) (Eq.trans (gI_a rfl) (Eq.trans (gI_a rfl) (Eq.trans (gI_a rfl) (Eq.trans (gI_a rfl) (Eq.trans (gI_a rfl) (Eq.trans (gI_a rfl) (Eq.trans (gI_a rfl) (Eq.trans (gI_a rfl) ql_I_170_3))))))))))))) ?_
            refine wp_lt ql_R_149_5 ?_
            refine wp_gd ql_K_170 ?_
            refine wp_gd (gZi ql_Z_170 qf_105) ?_
            refine wp_zIk qf_46 ?_
            refine wp_bd ?_
            refine wp_of (f_X13_logs.eq_1 ..) ?_
            refine wp_gd ql_K_149 ?_
            refine wp_lt (Eq.trans (gI_a rfl) (Eq.trans (gI_b rfl) (Eq.trans (gI_a rfl) (Eq.trans (gI_a rfl) (Eq.trans (gI_a rfl) (Eq.trans (gI_a rfl) (Eq.trans (gI_a rfl) (Eq.trans (gI_a rfl) (Eq.trans (gI_a rfl) (Eq.trans (gI_a rfl) (Eq.trans (gI_a rfl) (Eq.trans (gI_a rfl) (Eq.trans (gI_a rfl) ql_I_149_16))))))))))))) ?_
            refine wp_lt qf_27 ?_
            refine wp_zI ?_
            refine wp_ret_bd ?_
            refine wp_ret_bd ?_
            refine wp_gd ql_K_149 ?_
            refine wp_bd ?_
            refine wp_of (f_X13_thrown.eq_1 ..) ?_
            refine wp_gd ql_K_149 ?_
            refine wp_lt (Eq.trans (gI_b rfl) (Eq.trans (gI_a rfl) gI_s)) ?_
            refine wp_ret_bd ?_
            refine wp_ifp qf_15 ?_
            refine wp_ifp qf_15 ?_
            refine wp_gd ql_K_173 ?_
            refine wp_gd (gZi ql_Z_173 qf_71) ?_
            refine wp_lt (gLk qf_32 gL_s) ?_
            refine wp_lt qf_291 ?_
            refine wp_lt qf_292 ?_
            refine wp_ifp qf_15 ?_
            refine wp_of (f_L_law_2833.eq_1 ..) ?_
            refine wp_of (f_L_law_3632.eq_1 ..) ?_
            refine wp_lt qf_21 ?_
            exact hrc _
set_option maxRecDepth 100000 in
set_option maxHeartbeats 4000000 in
theorem cs_40 {xs : Nat → Int32} {rc : mS → Nat → Nat → Nat → Nat → Int32 → Option (Rs Int32)} {Q : Rs Int32 → Prop} (hrc : ∀ S, WP Q (rc S 1 149 173 174 8)) : WP Q (f_L_law_2836 8 xs rc (M3I, M3L, M3R, M3D, M3K, M3Z, 174) 1 149 173 174 0) := by
  refine wp_of (f_L_law_2836.eq_1 ..) ?_
  refine wp_gd ql_K_1 ?_
  refine wp_bd ?_
  refine wp_of (f_X10_breaches.eq_1 ..) ?_
  refine wp_gd ql_K_1 ?_
  refine wp_lt ql_R_1_0 ?_
  refine wp_gd ql_K_2 ?_
  refine wp_lt ql_R_2_3 ?_
  refine wp_gd ql_K_52 ?_
  refine wp_lt ql_I_52_1 ?_
  refine wp_ret_bd ?_
  refine wp_gd ql_K_149 ?_
  refine wp_bd ?_
  refine wp_of (f_X13_breaches.eq_1 ..) ?_
  refine wp_gd ql_K_149 ?_
  refine wp_lt ql_I_149_14 ?_
  refine wp_bd ?_
  refine wp_of (f_X13_plain.eq_1 ..) ?_
  refine wp_gd ql_K_149 ?_
  refine wp_zI ?_
  refine wp_ret_bd ?_
  refine wp_ret_bd ?_
  refine wp_ifp qf_15 ?_
  refine wp_of (f_L_law_3632.eq_1 ..) ?_
  refine wp_lt qf_21 ?_
  exact hrc _
set_option maxRecDepth 100000 in
set_option maxHeartbeats 4000000 in
theorem cs_41 {xs : Nat → Int32} {rc : mS → Nat → Nat → Nat → Nat → Int32 → Option (Rs Int32)} {Q : Rs Int32 → Prop} (hrc : ∀ S, WP Q (rc S 1 149 173 174 8)) : WP Q (f_L_law_2849 8 xs rc (M3I, M3L, M3R, M3D, M3K, M3Z, 174) 1 149 173 174 0) := by
  obtain ⟨y1, hy1⟩ : ∃ y, xs 1 = y := ⟨_, rfl⟩
  obtain ⟨y2, hy2⟩ : ∃ y, xs 2 = y := ⟨_, rfl⟩
  refine wp_of (f_L_law_2849.eq_1 ..) ?_
  refine wp_gd qf_0 ?_
  refine wp_lt (xsk qf_1 hy1) ?_
  refine wp_gd qf_2 ?_
  refine wp_lt (xsk qf_3 hy2) ?_
  refine wp_bd ?_
  refine wp_of (f_L_strobe.eq_1 ..) ?_
  refine wp_gd ql_K_1 ?_
  refine wp_bdc ?_
  refine wp_of (f_X10_strobe.eq_1 ..) ?_
  refine wp_bd ?_
  refine wp_of (f_X10_isIn.eq_1 ..) ?_
  refine wp_if (fun c1 => ?_) (fun c1 => ?_)
  · skip
    refine wp_of (f_X10_isIn_14.eq_1 ..) ?_
    refine wp_of (f_X10_isIn_15.eq_1 ..) ?_
    refine wp_gd qf_14 ?_
    refine wp_ret_bd ?_
    refine wp_ifp qf_15 ?_
    refine wp_of (f_X10_strobe_24.eq_1 ..) ?_
    refine wp_of (f_X10_strobe_25.eq_1 ..) ?_
    refine wp_bd ?_
    refine wp_of (f_X10_demand.eq_1 ..) ?_
    refine wp_ifp qf_15 ?_
    refine wp_rs_bd ?_
    refine wp_rs_bdc ?_
    refine wp_ifp qf_16 ?_
    refine wp_ret_bd ?_
    refine wp_gd qf_0 ?_
    refine wp_lt (xsk qf_1 hy1) ?_
    refine wp_gd qf_2 ?_
    refine wp_lt (xsk qf_3 hy2) ?_
    refine wp_gd ql_K_149 ?_
    refine wp_bd ?_
    refine wp_of (f_X13_strobe.eq_1 ..) ?_
    refine wp_bd ?_
    refine wp_of (f_X13_isBetween.eq_1 ..) ?_
    refine wp_ifp c1 ?_
    refine wp_of (f_X13_isBetween_14.eq_1 ..) ?_
    refine wp_of (f_X13_isBetween_15.eq_1 ..) ?_
    refine wp_gd qf_14 ?_
    refine wp_ret_bd ?_
    refine wp_ifp qf_15 ?_
    refine wp_of (f_X13_strobe_25.eq_1 ..) ?_
    refine wp_of (f_X13_strobe_26.eq_1 ..) ?_
    refine wp_gd ql_K_149 ?_
    refine wp_bd ?_
    refine wp_of (f_X13_isWrong.eq_1 ..) ?_
    refine wp_gd ql_K_149 ?_
    refine wp_zI ?_
    refine wp_ifn qf_17 ?_
    refine wp_of (f_X13_isWrong_14.eq_1 ..) ?_
    refine wp_gd qf_18 ?_
    refine wp_ret_bd ?_
    refine wp_ifn qf_19 ?_
    refine wp_ret_bd ?_
    refine wp_gd ql_K_149 ?_
    refine wp_bd ?_
    refine wp_of (f_X13_thrown.eq_1 ..) ?_
    refine wp_gd ql_K_149 ?_
    refine wp_lt gI_s ?_
    refine wp_ret_bd ?_
    refine wp_ifp qf_20 ?_
    refine wp_ifn qf_19 ?_
    refine wp_of (f_L_law_2914.eq_1 ..) ?_
    refine wp_of (f_L_law_3632.eq_1 ..) ?_
    refine wp_lt qf_21 ?_
    exact hrc _
  · skip
    refine wp_if (fun c2 => ?_) (fun c2 => ?_)
    · skip
      refine wp_of (f_X10_isIn_14.eq_1 ..) ?_
      refine wp_of (f_X10_isIn_15.eq_1 ..) ?_
      refine wp_gd qf_14 ?_
      refine wp_ret_bd ?_
      refine wp_ifp qf_15 ?_
      refine wp_of (f_X10_strobe_24.eq_1 ..) ?_
      refine wp_of (f_X10_strobe_25.eq_1 ..) ?_
      refine wp_bd ?_
      refine wp_of (f_X10_demand.eq_1 ..) ?_
      refine wp_ifp qf_15 ?_
      refine wp_rs_bd ?_
      refine wp_rs_bdc ?_
      refine wp_ifp qf_16 ?_
      refine wp_ret_bd ?_
      refine wp_gd qf_0 ?_
      refine wp_lt (xsk qf_1 hy1) ?_
      refine wp_gd qf_2 ?_
      refine wp_lt (xsk qf_3 hy2) ?_
      refine wp_gd ql_K_149 ?_
      refine wp_bd ?_
      refine wp_of (f_X13_strobe.eq_1 ..) ?_
      refine wp_bd ?_
      refine wp_of (f_X13_isBetween.eq_1 ..) ?_
      refine wp_ifn c1 ?_
      refine wp_ifp c2 ?_
      refine wp_of (f_X13_isBetween_14.eq_1 ..) ?_
      refine wp_of (f_X13_isBetween_15.eq_1 ..) ?_
      refine wp_gd qf_14 ?_
      refine wp_ret_bd ?_
      refine wp_ifp qf_15 ?_
      refine wp_of (f_X13_strobe_25.eq_1 ..) ?_
      refine wp_of (f_X13_strobe_26.eq_1 ..) ?_
      refine wp_gd ql_K_149 ?_
      refine wp_bd ?_
      refine wp_of (f_X13_isWrong.eq_1 ..) ?_
      refine wp_gd ql_K_149 ?_
      refine wp_zI ?_
      refine wp_ifn qf_17 ?_
      refine wp_of (f_X13_isWrong_14.eq_1 ..) ?_
      refine wp_gd qf_18 ?_
      refine wp_ret_bd ?_
      refine wp_ifn qf_19 ?_
      refine wp_ret_bd ?_
      refine wp_gd ql_K_149 ?_
      refine wp_bd ?_
      refine wp_of (f_X13_thrown.eq_1 ..) ?_
      refine wp_gd ql_K_149 ?_
      refine wp_lt gI_s ?_
      refine wp_ret_bd ?_
      refine wp_ifp qf_20 ?_
      refine wp_ifn qf_19 ?_
      refine wp_of (f_L_law_2914.eq_1 ..) ?_
      refine wp_of (f_L_law_3632.eq_1 ..) ?_
      refine wp_lt qf_21 ?_
      exact hrc _
    · skip
      refine wp_of (f_X10_isIn_15.eq_1 ..) ?_
      refine wp_gd qf_18 ?_
      refine wp_ret_bd ?_
      refine wp_ifn qf_19 ?_
      refine wp_bd ?_
      refine wp_of (f_X10_isIn.eq_1 ..) ?_
      refine wp_if (fun c3 => ?_) (fun c3 => ?_)
      · skip
        refine wp_of (f_X10_isIn_14.eq_1 ..) ?_
        refine wp_of (f_X10_isIn_15.eq_1 ..) ?_
        refine wp_gd qf_14 ?_
        refine wp_ret_bd ?_
        refine wp_ifp qf_15 ?_
        refine wp_of (f_X10_strobe_24.eq_1 ..) ?_
        refine wp_of (f_X10_strobe_25.eq_1 ..) ?_
        refine wp_bd ?_
        refine wp_of (f_X10_demand.eq_1 ..) ?_
        refine wp_ifp qf_15 ?_
        refine wp_rs_bd ?_
        refine wp_rs_bdc ?_
        refine wp_ifp qf_16 ?_
        refine wp_ret_bd ?_
        refine wp_gd qf_0 ?_
        refine wp_lt (xsk qf_1 hy1) ?_
        refine wp_gd qf_2 ?_
        refine wp_lt (xsk qf_3 hy2) ?_
        refine wp_gd ql_K_149 ?_
        refine wp_bd ?_
        refine wp_of (f_X13_strobe.eq_1 ..) ?_
        refine wp_bd ?_
        refine wp_of (f_X13_isBetween.eq_1 ..) ?_
        refine wp_ifn c1 ?_
        refine wp_ifn c2 ?_
        refine wp_of (f_X13_isBetween_15.eq_1 ..) ?_
        refine wp_gd qf_18 ?_
        refine wp_ret_bd ?_
        refine wp_ifn qf_19 ?_
        refine wp_bd ?_
        refine wp_of (f_X13_isBetween.eq_1 ..) ?_
        refine wp_ifp c3 ?_
        refine wp_of (f_X13_isBetween_14.eq_1 ..) ?_
        refine wp_of (f_X13_isBetween_15.eq_1 ..) ?_
        refine wp_gd qf_14 ?_
        refine wp_ret_bd ?_
        refine wp_ifp qf_15 ?_
        refine wp_of (f_X13_strobe_25.eq_1 ..) ?_
        refine wp_of (f_X13_strobe_26.eq_1 ..) ?_
        refine wp_gd ql_K_149 ?_
        refine wp_bd ?_
        refine wp_of (f_X13_isWrong.eq_1 ..) ?_
        refine wp_gd ql_K_149 ?_
        refine wp_zI ?_
        refine wp_ifn qf_17 ?_
        refine wp_of (f_X13_isWrong_14.eq_1 ..) ?_
        refine wp_gd qf_18 ?_
        refine wp_ret_bd ?_
        refine wp_ifn qf_19 ?_
        refine wp_ret_bd ?_
        refine wp_gd ql_K_149 ?_
        refine wp_bd ?_
        refine wp_of (f_X13_thrown.eq_1 ..) ?_
        refine wp_gd ql_K_149 ?_
        refine wp_lt gI_s ?_
        refine wp_ret_bd ?_
        refine wp_ifp qf_20 ?_
        refine wp_ifn qf_19 ?_
        refine wp_of (f_L_law_2914.eq_1 ..) ?_
        refine wp_of (f_L_law_3632.eq_1 ..) ?_
        refine wp_lt qf_21 ?_
        exact hrc _
      · skip
        refine wp_if (fun c4 => ?_) (fun c4 => ?_)
        · skip
          refine wp_of (f_X10_isIn_14.eq_1 ..) ?_
          refine wp_of (f_X10_isIn_15.eq_1 ..) ?_
          refine wp_gd qf_14 ?_
          refine wp_ret_bd ?_
          refine wp_ifp qf_15 ?_
          refine wp_of (f_X10_strobe_24.eq_1 ..) ?_
          refine wp_of (f_X10_strobe_25.eq_1 ..) ?_
          refine wp_bd ?_
          refine wp_of (f_X10_demand.eq_1 ..) ?_
          refine wp_ifp qf_15 ?_
          refine wp_rs_bd ?_
          refine wp_rs_bdc ?_
          refine wp_ifp qf_16 ?_
          refine wp_ret_bd ?_
          refine wp_gd qf_0 ?_
          refine wp_lt (xsk qf_1 hy1) ?_
          refine wp_gd qf_2 ?_
          refine wp_lt (xsk qf_3 hy2) ?_
          refine wp_gd ql_K_149 ?_
          refine wp_bd ?_
          refine wp_of (f_X13_strobe.eq_1 ..) ?_
          refine wp_bd ?_
          refine wp_of (f_X13_isBetween.eq_1 ..) ?_
          refine wp_ifn c1 ?_
          refine wp_ifn c2 ?_
          refine wp_of (f_X13_isBetween_15.eq_1 ..) ?_
          refine wp_gd qf_18 ?_
          refine wp_ret_bd ?_
          refine wp_ifn qf_19 ?_
          refine wp_bd ?_
          refine wp_of (f_X13_isBetween.eq_1 ..) ?_
          refine wp_ifn c3 ?_
          refine wp_ifp c4 ?_
          refine wp_of (f_X13_isBetween_14.eq_1 ..) ?_
          refine wp_of (f_X13_isBetween_15.eq_1 ..) ?_
          refine wp_gd qf_14 ?_
          refine wp_ret_bd ?_
          refine wp_ifp qf_15 ?_
          refine wp_of (f_X13_strobe_25.eq_1 ..) ?_
          refine wp_of (f_X13_strobe_26.eq_1 ..) ?_
          refine wp_gd ql_K_149 ?_
          refine wp_bd ?_
          refine wp_of (f_X13_isWrong.eq_1 ..) ?_
          refine wp_gd ql_K_149 ?_
          refine wp_zI ?_
          refine wp_ifn qf_17 ?_
          refine wp_of (f_X13_isWrong_14.eq_1 ..) ?_
          refine wp_gd qf_18 ?_
          refine wp_ret_bd ?_
          refine wp_ifn qf_19 ?_
          refine wp_ret_bd ?_
          refine wp_gd ql_K_149 ?_
          refine wp_bd ?_
          refine wp_of (f_X13_thrown.eq_1 ..) ?_
          refine wp_gd ql_K_149 ?_
          refine wp_lt gI_s ?_
          refine wp_ret_bd ?_
          refine wp_ifp qf_20 ?_
          refine wp_ifn qf_19 ?_
          refine wp_of (f_L_law_2914.eq_1 ..) ?_
          refine wp_of (f_L_law_3632.eq_1 ..) ?_
          refine wp_lt qf_21 ?_
          exact hrc _
        · skip
          refine wp_of (f_X10_isIn_15.eq_1 ..) ?_
          refine wp_gd qf_18 ?_
          refine wp_ret_bd ?_
          refine wp_ifn qf_19 ?_
          refine wp_of (f_X10_strobe_25.eq_1 ..) ?_
          refine wp_bd ?_
          refine wp_of (f_X10_demand.eq_1 ..) ?_
          refine wp_ifn qf_19 ?_
          refine wp_ret_bd ?_
          refine wp_gd ql_K_1 ?_
          refine wp_lt ql_R_1_2 ?_
          refine wp_gd ql_K_106 ?_
          refine wp_bd ?_
          refine wp_of (f_X6_note.eq_1 ..) ?_
          refine wp_gd ql_K_106 ?_
          refine wp_bd ?_
          refine wp_of (f_X6_open.eq_1 ..) ?_
          refine wp_gd ql_K_106 ?_
          refine wp_lt ql_I_106_2 ?_
          refine wp_lt qf_25 ?_
          refine wp_zI ?_
          refine wp_lt (Eq.trans (gI_b rfl) ql_I_106_2) ?_
          refine wp_ifn qf_26 ?_
          refine wp_lt (Eq.trans (gI_b rfl) ql_I_106_2) ?_
          refine wp_lt qf_27 ?_
          refine wp_zI ?_
          refine wp_of (f_X6_open_31.eq_1 ..) ?_
          refine wp_gd ql_K_106 ?_
          refine wp_bd ?_
          refine wp_of (f_X6_put.eq_1 ..) ?_
          refine wp_gd ql_K_106 ?_
          refine wp_lt (Eq.trans (gI_b rfl) gI_s) ?_
          refine wp_ifn qf_28 ?_
          refine wp_lt (Eq.trans (gI_b rfl) gI_s) ?_
          refine wp_lt ql_R_106_0 ?_
          refine wp_gd ql_K_107 ?_
          refine wp_lt (gZo ql_Z_107 qf_29) ?_
          refine wp_ifn qf_30 ?_
          refine wp_lt ql_R_106_0 ?_
          refine wp_lt (Eq.trans (gI_b rfl) gI_s) ?_
          refine wp_gd ql_K_107 ?_
          refine wp_gd (gZi ql_Z_107 qf_31) ?_
          refine wp_zIk qf_32 ?_
          refine wp_lt (Eq.trans (gI_a rfl) (Eq.trans (gI_b rfl) gI_s)) ?_
          refine wp_lt qf_27 ?_
          refine wp_zI ?_
          refine wp_of (f_X6_put_39.eq_1 ..) ?_
          refine wp_ret_bd ?_
          refine wp_ret_bd ?_
          refine wp_gd ql_K_106 ?_
          refine wp_bd ?_
          refine wp_of (f_X6_put.eq_1 ..) ?_
          refine wp_gd ql_K_106 ?_
          refine wp_lt gI_s ?_
          refine wp_ifn qf_33 ?_
          refine wp_lt gI_s ?_
          refine wp_lt ql_R_106_0 ?_
          refine wp_gd ql_K_107 ?_
          refine wp_lt (gZo ql_Z_107 qf_29) ?_
          refine wp_ifn qf_34 ?_
          refine wp_lt ql_R_106_0 ?_
          refine wp_lt gI_s ?_
          refine wp_gd ql_K_107 ?_
          refine wp_gd (gZi ql_Z_107 qf_35) ?_
          refine wp_zIk qf_36 ?_
          refine wp_lt (Eq.trans (gI_a rfl) gI_s) ?_
          refine wp_lt qf_37 ?_
          refine wp_zI ?_
          refine wp_of (f_X6_put_39.eq_1 ..) ?_
          refine wp_ret_bd ?_
          refine wp_gd ql_K_106 ?_
          refine wp_bd ?_
          refine wp_of (f_X6_put.eq_1 ..) ?_
          refine wp_gd ql_K_106 ?_
          refine wp_lt gI_s ?_
          refine wp_ifn qf_38 ?_
          refine wp_lt gI_s ?_
          refine wp_lt ql_R_106_0 ?_
          refine wp_gd ql_K_107 ?_
          refine wp_lt (gZo ql_Z_107 qf_29) ?_
          refine wp_ifn qf_39 ?_
          refine wp_lt ql_R_106_0 ?_
          refine wp_lt gI_s ?_
          refine wp_gd ql_K_107 ?_
          refine wp_gd (gZi ql_Z_107 qf_40) ?_
          refine wp_zIk qf_41 ?_
          refine wp_lt (Eq.trans (gI_a rfl) gI_s) ?_
          refine wp_lt qf_42 ?_
          refine wp_zI ?_
          refine wp_of (f_X6_put_39.eq_1 ..) ?_
          refine wp_ret_bd ?_
          refine wp_gd ql_K_106 ?_
          refine wp_bd ?_
          refine wp_of (f_X6_put.eq_1 ..) ?_
          refine wp_gd ql_K_106 ?_
          refine wp_lt gI_s ?_
          refine wp_ifn qf_43 ?_
          refine wp_lt gI_s ?_
          refine wp_lt ql_R_106_0 ?_
          refine wp_gd ql_K_107 ?_
          refine wp_lt (gZo ql_Z_107 qf_29) ?_
          refine wp_ifn qf_44 ?_
          refine wp_lt ql_R_106_0 ?_
          refine wp_lt gI_s ?_
          refine wp_gd ql_K_107 ?_
          refine wp_gd (gZi ql_Z_107 qf_45) ?_
          refine wp_zIk qf_46 ?_
          refine wp_lt (Eq.trans (gI_a rfl) gI_s) ?_
          refine wp_lt qf_47 ?_
          refine wp_zI ?_
          refine wp_of (f_X6_put_39.eq_1 ..) ?_
          refine wp_ret_bd ?_
          refine wp_ret_bd ?_
          refine wp_gd ql_K_1 ?_
          refine wp_lt ql_R_1_0 ?_
          refine wp_gd ql_K_2 ?_
          refine wp_bd ?_
          refine wp_of (f_X8_setLights.eq_1 ..) ?_
          refine wp_gd ql_K_2 ?_
          refine wp_zI ?_
          refine wp_ltite (fun c5 => ?_) (fun c5 => ?_)
          · skip
            refine wp_ret_bd ?_
            refine wp_ret_bdc ?_
            refine wp_lt qf_293 ?_
            refine wp_gd ql_K_173 ?_
            refine wp_gd (gZi ql_Z_173 qf_71) ?_
            refine wp_zLk qf_32 ?_
            refine wp_ret_bd ?_
            refine wp_gd qf_0 ?_
            refine wp_lt (xsk qf_1 hy1) ?_
            refine wp_gd qf_2 ?_
            refine wp_lt (xsk qf_3 hy2) ?_
            refine wp_gd ql_K_149 ?_
            refine wp_bd ?_
            refine wp_of (f_X13_strobe.eq_1 ..) ?_
            refine wp_bd ?_
            refine wp_of (f_X13_isBetween.eq_1 ..) ?_
            refine wp_ifn c1 ?_
            refine wp_ifn c2 ?_
            refine wp_of (f_X13_isBetween_15.eq_1 ..) ?_
            refine wp_gd qf_18 ?_
            refine wp_ret_bd ?_
            refine wp_ifn qf_19 ?_
            refine wp_bd ?_
            refine wp_of (f_X13_isBetween.eq_1 ..) ?_
            refine wp_ifn c3 ?_
            refine wp_ifn c4 ?_
            refine wp_of (f_X13_isBetween_15.eq_1 ..) ?_
            refine wp_gd qf_18 ?_
            refine wp_ret_bd ?_
            refine wp_ifn qf_19 ?_
            refine wp_of (f_X13_strobe_26.eq_1 ..) ?_
            refine wp_gd ql_K_149 ?_
            refine wp_bd ?_
            refine wp_of (f_X13_isWrong.eq_1 ..) ?_
            refine wp_gd ql_K_149 ?_
            refine wp_zI ?_
            refine wp_ifp qf_73 ?_
            refine wp_of (f_X13_isWrong_14.eq_1 ..) ?_
            refine wp_gd qf_14 ?_
            refine wp_ret_bd ?_
            refine wp_ifp qf_15 ?_
            refine wp_gd ql_K_149 ?_
            refine wp_zI ?_
            refine wp_bd ?_
            refine wp_of (f_X13_logs.eq_1 ..) ?_
            refine wp_gd ql_K_149 ?_
            refine wp_lt (Eq.trans (gI_b rfl) (Eq.trans (gI_b rfl) (Eq.trans (gI_a rfl) (Eq.trans (gI_a rfl) (Eq.trans (gI_a rfl) (Eq.trans (gI_a rfl) (Eq.trans (gI_a rfl) (Eq.trans (gI_a rfl) (Eq.trans (gI_a rfl) (Eq.trans (gI_a rfl) (Eq.trans (gI_a rfl) (Eq.trans (gI_a rfl) (Eq.trans (gI_a rfl) ql_I_149_16))))))))))))) ?_
            refine wp_lt qf_27 ?_
            refine wp_zI ?_
            refine wp_ret_bd ?_
            refine wp_lt (if_neg (show ¬ (y1 < (10 : Int32)) from by have e0 := qf_95; have e1 := qf_294; have e2 := qf_295; simp only [Int32.lt_iff_toInt_lt, Int32.le_iff_toInt_le, ← Int32.toInt_inj] at c1 c2 c5 ⊢; omega)) ?_
            refine wp_ret_bd ?_
            refine wp_gd ql_K_149 ?_
            refine wp_bd ?_
            refine wp_of (f_X13_thrown.eq_1 ..) ?_
            refine wp_gd ql_K_149 ?_
            refine wp_lt (Eq.trans (gI_b rfl) (Eq.trans (gI_b rfl) gI_s)) ?_
            refine wp_ret_bd ?_
            refine wp_ifp qf_15 ?_
            refine wp_ifp qf_15 ?_
            refine wp_gd ql_K_173 ?_
            refine wp_gd (gZi ql_Z_173 qf_71) ?_
            refine wp_lt (gLk qf_32 gL_s) ?_
            refine wp_lt qf_293 ?_
            refine wp_lt qf_296 ?_
            refine wp_ifp qf_15 ?_
            refine wp_of (f_L_law_2914.eq_1 ..) ?_
            refine wp_of (f_L_law_3632.eq_1 ..) ?_
            refine wp_lt qf_21 ?_
            exact hrc _
          · skip
            refine wp_ret_bd ?_
            refine wp_ret_bdc ?_
            refine wp_ltr ?_
            refine wp_gd ql_K_173 ?_
            refine wp_gd (gZi ql_Z_173 qf_71) ?_
            refine wp_zLk qf_32 ?_
            refine wp_ret_bd ?_
            refine wp_gd qf_0 ?_
            refine wp_lt (xsk qf_1 hy1) ?_
            refine wp_gd qf_2 ?_
            refine wp_lt (xsk qf_3 hy2) ?_
            refine wp_gd ql_K_149 ?_
            refine wp_bd ?_
            refine wp_of (f_X13_strobe.eq_1 ..) ?_
            refine wp_bd ?_
            refine wp_of (f_X13_isBetween.eq_1 ..) ?_
            refine wp_ifn c1 ?_
            refine wp_ifn c2 ?_
            refine wp_of (f_X13_isBetween_15.eq_1 ..) ?_
            refine wp_gd qf_18 ?_
            refine wp_ret_bd ?_
            refine wp_ifn qf_19 ?_
            refine wp_bd ?_
            refine wp_of (f_X13_isBetween.eq_1 ..) ?_
            refine wp_ifn c3 ?_
            refine wp_ifn c4 ?_
            refine wp_of (f_X13_isBetween_15.eq_1 ..) ?_
            refine wp_gd qf_18 ?_
            refine wp_ret_bd ?_
            refine wp_ifn qf_19 ?_
            refine wp_of (f_X13_strobe_26.eq_1 ..) ?_
            refine wp_gd ql_K_149 ?_
            refine wp_bd ?_
            refine wp_of (f_X13_isWrong.eq_1 ..) ?_
            refine wp_gd ql_K_149 ?_
            refine wp_zI ?_
            refine wp_ifp qf_73 ?_
            refine wp_of (f_X13_isWrong_14.eq_1 ..) ?_
            refine wp_gd qf_14 ?_
            refine wp_ret_bd ?_
            refine wp_ifp qf_15 ?_
            refine wp_gd ql_K_149 ?_
            refine wp_zI ?_
            refine wp_bd ?_
            refine wp_of (f_X13_logs.eq_1 ..) ?_
            refine wp_gd ql_K_149 ?_
            refine wp_lt (Eq.trans (gI_b rfl) (Eq.trans (gI_b rfl) (Eq.trans (gI_a rfl) (Eq.trans (gI_a rfl) (Eq.trans (gI_a rfl) (Eq.trans (gI_a rfl) (Eq.trans (gI_a rfl) (Eq.trans (gI_a rfl) (Eq.trans (gI_a rfl) (Eq.trans (gI_a rfl) (Eq.trans (gI_a rfl) (Eq.trans (gI_a rfl) (Eq.trans (gI_a rfl) ql_I_149_16))))))))))))) ?_
            refine wp_lt qf_27 ?_
            refine wp_zI ?_
            refine wp_ret_bd ?_
            refine wp_ltite (fun c6 => ?_) (fun c6 => ?_)
            · skip
              refine wp_ret_bd ?_
              refine wp_gd ql_K_149 ?_
              refine wp_bd ?_
              refine wp_of (f_X13_thrown.eq_1 ..) ?_
              refine wp_gd ql_K_149 ?_
              refine wp_lt (Eq.trans (gI_b rfl) (Eq.trans (gI_b rfl) gI_s)) ?_
              refine wp_ret_bd ?_
              refine wp_ifp qf_15 ?_
              refine wp_ifp qf_15 ?_
              refine wp_gd ql_K_173 ?_
              refine wp_gd (gZi ql_Z_173 qf_71) ?_
              refine wp_lt (gLk qf_32 gL_s) ?_
              refine wp_ltr ?_
              refine wp_ltr ?_
              refine wp_ifp lg_self ?_
              refine wp_of (f_L_law_2914.eq_1 ..) ?_
              refine wp_of (f_L_law_3632.eq_1 ..) ?_
              refine wp_lt qf_21 ?_
              exact hrc _
            · skip
              refine wp_ret_bd ?_
              refine wp_gd ql_K_149 ?_
              refine wp_bd ?_
              refine wp_of (f_X13_thrown.eq_1 ..) ?_
              refine wp_gd ql_K_149 ?_
              refine wp_lt (Eq.trans (gI_b rfl) (Eq.trans (gI_b rfl) gI_s)) ?_
              refine wp_ret_bd ?_
              refine wp_ifp qf_15 ?_
              refine wp_ifp qf_15 ?_
              refine wp_gd ql_K_173 ?_
              refine wp_gd (gZi ql_Z_173 qf_71) ?_
              refine wp_lt (gLk qf_32 gL_s) ?_
              refine wp_lt qf_293 ?_
              refine wp_ltr ?_
              rcases (show y1 = (10 : Int32) from by have e0 := qf_95; have e1 := qf_294; have e2 := qf_295; simp only [Int32.lt_iff_toInt_lt, Int32.le_iff_toInt_le] at c1 c2 c5 c6; simp only [← Int32.toInt_inj]; omega) with rfl
              · skip
                refine wp_ifp qf_297 ?_
                refine wp_of (f_L_law_2914.eq_1 ..) ?_
                refine wp_of (f_L_law_3632.eq_1 ..) ?_
                refine wp_lt qf_21 ?_
                exact hrc _
end CASES10
