section CASES7
set_option maxRecDepth 100000 in
set_option maxHeartbeats 4000000 in
theorem cs_23 {xs : Nat → Int32} {rc : mS → Nat → Nat → Nat → Nat → Int32 → Option (Rs Int32)} {Q : Rs Int32 → Prop} (hrc : ∀ S, WP Q (rc S 1 149 173 174 8)) : WP Q (f_L_law_1913 8 xs rc (M3I, M3L, M3R, M3D, M3K, M3Z, 174) 1 149 173 174 0) := by
  obtain ⟨y1, hy1⟩ : ∃ y, xs 1 = y := ⟨_, rfl⟩
  refine wp_of (f_L_law_1913.eq_1 ..) ?_
  refine wp_gd qf_0 ?_
  refine wp_lt (xsk qf_1 hy1) ?_
  refine wp_bd ?_
  refine wp_of (f_L_setCross.eq_1 ..) ?_
  refine wp_gd ql_K_1 ?_
  refine wp_bdc ?_
  refine wp_of (f_X10_setCross.eq_1 ..) ?_
  refine wp_bd ?_
  refine wp_of (f_X10_isIn.eq_1 ..) ?_
  refine wp_if (fun c1 => ?_) (fun c1 => ?_)
  · skip
    refine wp_of (f_X10_isIn_14.eq_1 ..) ?_
    refine wp_of (f_X10_isIn_15.eq_1 ..) ?_
    refine wp_gd qf_14 ?_
    refine wp_ret_bd ?_
    refine wp_bd ?_
    refine wp_of (f_X10_demand.eq_1 ..) ?_
    refine wp_ifp qf_15 ?_
    refine wp_rs_bd ?_
    refine wp_rs_bdc ?_
    refine wp_ifp qf_16 ?_
    refine wp_ret_bd ?_
    refine wp_gd qf_0 ?_
    refine wp_lt (xsk qf_1 hy1) ?_
    refine wp_gd ql_K_149 ?_
    refine wp_bd ?_
    refine wp_of (f_X13_setCross.eq_1 ..) ?_
    refine wp_bd ?_
    refine wp_of (f_X13_isBetween.eq_1 ..) ?_
    refine wp_ifp c1 ?_
    refine wp_of (f_X13_isBetween_14.eq_1 ..) ?_
    refine wp_of (f_X13_isBetween_15.eq_1 ..) ?_
    refine wp_gd qf_14 ?_
    refine wp_ret_bd ?_
    refine wp_ifp qf_15 ?_
    refine wp_of (f_X13_setCross_17.eq_1 ..) ?_
    refine wp_gd ql_K_149 ?_
    refine wp_bd ?_
    refine wp_of (f_X13_isWrong.eq_1 ..) ?_
    refine wp_gd ql_K_149 ?_
    refine wp_zI ?_
    refine wp_ifn qf_17 ?_
    refine wp_of (f_X13_isWrong_14.eq_1 ..) ?_
    refine wp_gd qf_18 ?_
    refine wp_ret_bd ?_
    refine wp_ifn qf_19 ?_
    refine wp_ret_bd ?_
    refine wp_gd ql_K_149 ?_
    refine wp_bd ?_
    refine wp_of (f_X13_thrown.eq_1 ..) ?_
    refine wp_gd ql_K_149 ?_
    refine wp_lt gI_s ?_
    refine wp_ret_bd ?_
    refine wp_ifp qf_20 ?_
    refine wp_ifn qf_19 ?_
    refine wp_of (f_L_law_1966.eq_1 ..) ?_
    refine wp_of (f_L_law_3632.eq_1 ..) ?_
    refine wp_lt qf_21 ?_
    exact hrc _
  · skip
    refine wp_if (fun c2 => ?_) (fun c2 => ?_)
    · skip
      refine wp_of (f_X10_isIn_14.eq_1 ..) ?_
      refine wp_of (f_X10_isIn_15.eq_1 ..) ?_
      refine wp_gd qf_14 ?_
      refine wp_ret_bd ?_
      refine wp_bd ?_
      refine wp_of (f_X10_demand.eq_1 ..) ?_
      refine wp_ifp qf_15 ?_
      refine wp_rs_bd ?_
      refine wp_rs_bdc ?_
      refine wp_ifp qf_16 ?_
      refine wp_ret_bd ?_
      refine wp_gd qf_0 ?_
      refine wp_lt (xsk qf_1 hy1) ?_
      refine wp_gd ql_K_149 ?_
      refine wp_bd ?_
      refine wp_of (f_X13_setCross.eq_1 ..) ?_
      refine wp_bd ?_
      refine wp_of (f_X13_isBetween.eq_1 ..) ?_
      refine wp_ifn c1 ?_
      refine wp_ifp c2 ?_
      refine wp_of (f_X13_isBetween_14.eq_1 ..) ?_
      refine wp_of (f_X13_isBetween_15.eq_1 ..) ?_
      refine wp_gd qf_14 ?_
      refine wp_ret_bd ?_
      refine wp_ifp qf_15 ?_
      refine wp_of (f_X13_setCross_17.eq_1 ..) ?_
      refine wp_gd ql_K_149 ?_
      refine wp_bd ?_
      refine wp_of (f_X13_isWrong.eq_1 ..) ?_
      refine wp_gd ql_K_149 ?_
      refine wp_zI ?_
      refine wp_ifn qf_17 ?_
      refine wp_of (f_X13_isWrong_14.eq_1 ..) ?_
      refine wp_gd qf_18 ?_
      refine wp_ret_bd ?_
      refine wp_ifn qf_19 ?_
      refine wp_ret_bd ?_
      refine wp_gd ql_K_149 ?_
      refine wp_bd ?_
      refine wp_of (f_X13_thrown.eq_1 ..) ?_
      refine wp_gd ql_K_149 ?_
      refine wp_lt gI_s ?_
      refine wp_ret_bd ?_
      refine wp_ifp qf_20 ?_
      refine wp_ifn qf_19 ?_
      refine wp_of (f_L_law_1966.eq_1 ..) ?_
      refine wp_of (f_L_law_3632.eq_1 ..) ?_
      refine wp_lt qf_21 ?_
      exact hrc _
    · skip
      refine wp_of (f_X10_isIn_15.eq_1 ..) ?_
      refine wp_gd qf_18 ?_
      refine wp_ret_bd ?_
      refine wp_bd ?_
      refine wp_of (f_X10_demand.eq_1 ..) ?_
      refine wp_ifn qf_19 ?_
      refine wp_ret_bd ?_
      refine wp_gd ql_K_1 ?_
      refine wp_lt ql_R_1_2 ?_
      refine wp_gd ql_K_106 ?_
      refine wp_bd ?_
      refine wp_of (f_X6_note.eq_1 ..) ?_
      refine wp_gd ql_K_106 ?_
      refine wp_bd ?_
      refine wp_of (f_X6_open.eq_1 ..) ?_
      refine wp_gd ql_K_106 ?_
      refine wp_lt ql_I_106_2 ?_
      refine wp_lt qf_25 ?_
      refine wp_zI ?_
      refine wp_lt (Eq.trans (gI_b rfl) ql_I_106_2) ?_
      refine wp_ifn qf_26 ?_
      refine wp_lt (Eq.trans (gI_b rfl) ql_I_106_2) ?_
      refine wp_lt qf_27 ?_
      refine wp_zI ?_
      refine wp_of (f_X6_open_31.eq_1 ..) ?_
      refine wp_gd ql_K_106 ?_
      refine wp_bd ?_
      refine wp_of (f_X6_put.eq_1 ..) ?_
      refine wp_gd ql_K_106 ?_
      refine wp_lt (Eq.trans (gI_b rfl) gI_s) ?_
      refine wp_ifn qf_28 ?_
      refine wp_lt (Eq.trans (gI_b rfl) gI_s) ?_
      refine wp_lt ql_R_106_0 ?_
      refine wp_gd ql_K_107 ?_
      refine wp_lt (gZo ql_Z_107 qf_29) ?_
      refine wp_ifn qf_30 ?_
      refine wp_lt ql_R_106_0 ?_
      refine wp_lt (Eq.trans (gI_b rfl) gI_s) ?_
      refine wp_gd ql_K_107 ?_
      refine wp_gd (gZi ql_Z_107 qf_31) ?_
      refine wp_zIk qf_32 ?_
      refine wp_lt (Eq.trans (gI_a rfl) (Eq.trans (gI_b rfl) gI_s)) ?_
      refine wp_lt qf_27 ?_
      refine wp_zI ?_
      refine wp_of (f_X6_put_39.eq_1 ..) ?_
      refine wp_ret_bd ?_
      refine wp_ret_bd ?_
      refine wp_gd ql_K_106 ?_
      refine wp_bd ?_
      refine wp_of (f_X6_put.eq_1 ..) ?_
      refine wp_gd ql_K_106 ?_
      refine wp_lt gI_s ?_
      refine wp_ifn qf_33 ?_
      refine wp_lt gI_s ?_
      refine wp_lt ql_R_106_0 ?_
      refine wp_gd ql_K_107 ?_
      refine wp_lt (gZo ql_Z_107 qf_29) ?_
      refine wp_ifn qf_34 ?_
      refine wp_lt ql_R_106_0 ?_
      refine wp_lt gI_s ?_
      refine wp_gd ql_K_107 ?_
      refine wp_gd (gZi ql_Z_107 qf_35) ?_
      refine wp_zIk qf_36 ?_
      refine wp_lt (Eq.trans (gI_a rfl) gI_s) ?_
      refine wp_lt qf_37 ?_
      refine wp_zI ?_
      refine wp_of (f_X6_put_39.eq_1 ..) ?_
      refine wp_ret_bd ?_
      refine wp_gd ql_K_106 ?_
      refine wp_bd ?_
      refine wp_of (f_X6_put.eq_1 ..) ?_
      refine wp_gd ql_K_106 ?_
      refine wp_lt gI_s ?_
      refine wp_ifn qf_38 ?_
      refine wp_lt gI_s ?_
      refine wp_lt ql_R_106_0 ?_
      refine wp_gd ql_K_107 ?_
      refine wp_lt (gZo ql_Z_107 qf_29) ?_
      refine wp_ifn qf_39 ?_
      refine wp_lt ql_R_106_0 ?_
      refine wp_lt gI_s ?_
      refine wp_gd ql_K_107 ?_
      refine wp_gd (gZi ql_Z_107 qf_40) ?_
      refine wp_zIk qf_41 ?_
      refine wp_lt (Eq.trans (gI_a rfl) gI_s) ?_
      refine wp_lt qf_42 ?_
      refine wp_zI ?_
      refine wp_of (f_X6_put_39.eq_1 ..) ?_
      refine wp_ret_bd ?_
      refine wp_gd ql_K_106 ?_
      refine wp_bd ?_
      refine wp_of (f_X6_put.eq_1 ..) ?_
      refine wp_gd ql_K_106 ?_
      refine wp_lt gI_s ?_
      refine wp_ifn qf_43 ?_
      refine wp_lt gI_s ?_
      refine wp_lt ql_R_106_0 ?_
      refine wp_gd ql_K_107 ?_
      refine wp_lt (gZo ql_Z_107 qf_29) ?_
      refine wp_ifn qf_44 ?_
      refine wp_lt ql_R_106_0 ?_
      refine wp_lt gI_s ?_
      refine wp_gd ql_K_107 ?_
      refine wp_gd (gZi ql_Z_107 qf_45) ?_
      refine wp_zIk qf_46 ?_
      refine wp_lt (Eq.trans (gI_a rfl) gI_s) ?_
      refine wp_lt qf_47 ?_
      refine wp_zI ?_
      refine wp_of (f_X6_put_39.eq_1 ..) ?_
      refine wp_ret_bd ?_
      refine wp_ret_bd ?_
      refine wp_gd ql_K_1 ?_
      refine wp_lt ql_R_1_0 ?_
      refine wp_gd ql_K_2 ?_
      refine wp_bd ?_
      refine wp_of (f_X8_slideCross.eq_1 ..) ?_
      refine wp_gd ql_K_2 ?_
      refine wp_lt (Eq.trans (gI_a rfl) (Eq.trans (gI_a rfl) (Eq.trans (gI_a rfl) (Eq.trans (gI_a rfl) (Eq.trans (gI_a rfl) (Eq.trans (gI_a rfl) (Eq.trans (gI_a rfl) (Eq.trans (gI_a rfl) (Eq.trans (gI_a rfl) (Eq.trans (gI_a rfl) ql_I_2_5)))))))))) ?_
      refine wp_zI ?_
      refine wp_ret_bd ?_
      refine wp_ret_bdc ?_
      refine wp_lt qf_70 ?_
      refine wp_gd ql_K_173 ?_
      refine wp_gd (gZi ql_Z_173 qf_71) ?_
      refine wp_zLk qf_32 ?_
      refine wp_ret_bd ?_
      refine wp_gd qf_0 ?_
      refine wp_lt (xsk qf_1 hy1) ?_
      refine wp_gd ql_K_149 ?_
      refine wp_bd ?_
      refine wp_of (f_X13_setCross.eq_1 ..) ?_
      refine wp_bd ?_
      refine wp_of (f_X13_isBetween.eq_1 ..) ?_
      refine wp_ifn c1 ?_
      refine wp_ifn c2 ?_
      refine wp_of (f_X13_isBetween_15.eq_1 ..) ?_
      refine wp_gd qf_18 ?_
      refine wp_ret_bd ?_
      refine wp_ifn qf_19 ?_
      refine wp_of (f_X13_setCross_17.eq_1 ..) ?_
      refine wp_gd ql_K_149 ?_
      refine wp_bd ?_
      refine wp_of (f_X13_isWrong.eq_1 ..) ?_
      refine wp_gd ql_K_149 ?_
      refine wp_zI ?_
      refine wp_ifp qf_73 ?_
      refine wp_of (f_X13_isWrong_14.eq_1 ..) ?_
      refine wp_gd qf_14 ?_
      refine wp_ret_bd ?_
      refine wp_ifp qf_15 ?_
      refine wp_gd ql_K_149 ?_
      refine wp_lt (Eq.trans (gI_b rfl) (Eq.trans (gI_a rfl) (Eq.trans (gI_a rfl) (Eq.trans (gI_a rfl) (Eq.trans (gI_a rfl) (Eq.trans (gI_a rfl) (Eq.trans (gI_a rfl) (Eq.trans (gI_a rfl) (Eq.trans (gI_a rfl) (Eq.trans (gI_a rfl) (Eq.trans (gI_a rfl) (Eq.trans (gI_a rfl) ql_I_149_8)))))))))))) ?_
      refine wp_zI ?_
      refine wp_bd ?_
      refine wp_of (f_X13_logs.eq_1 ..) ?_
      refine wp_gd ql_K_149 ?_
      refine wp_lt (Eq.trans (gI_b rfl) (Eq.trans (gI_b rfl) (Eq.trans (gI_a rfl) (Eq.trans (gI_a rfl) (Eq.trans (gI_a rfl) (Eq.trans (gI_a rfl) (Eq.trans (gI_a rfl) (Eq.trans (gI_a rfl) (Eq.trans (gI_a rfl) (Eq.trans (gI_a rfl) (Eq.trans (gI_a rfl) (Eq.trans (gI_a rfl) (Eq.trans (gI_a rfl) ql_I_149_16))))))))))))) ?_
      refine wp_lt qf_27 ?_
      refine wp_zI ?_
      refine wp_ret_bd ?_
      refine wp_ret_bd ?_
      refine wp_gd ql_K_149 ?_
      refine wp_bd ?_
      refine wp_of (f_X13_thrown.eq_1 ..) ?_
      refine wp_gd ql_K_149 ?_
      refine wp_lt (Eq.trans (gI_b rfl) (Eq.trans (gI_b rfl) gI_s)) ?_
      refine wp_ret_bd ?_
      refine wp_ifp qf_15 ?_
      refine wp_ifp qf_15 ?_
      refine wp_gd ql_K_173 ?_
      refine wp_gd (gZi ql_Z_173 qf_71) ?_
      refine wp_lt (gLk qf_32 gL_s) ?_
      refine wp_lt qf_70 ?_
      refine wp_lt qf_81 ?_
      refine wp_ifp qf_15 ?_
      refine wp_of (f_L_law_1966.eq_1 ..) ?_
      refine wp_of (f_L_law_3632.eq_1 ..) ?_
      refine wp_lt qf_21 ?_
      exact hrc _
set_option maxRecDepth 100000 in
set_option maxHeartbeats 4000000 in
theorem cs_24 {xs : Nat → Int32} {rc : mS → Nat → Nat → Nat → Nat → Int32 → Option (Rs Int32)} {Q : Rs Int32 → Prop} (hrc : ∀ S, WP Q (rc S 1 149 173 174 8)) : WP Q (f_L_law_1969 8 xs rc (M3I, M3L, M3R, M3D, M3K, M3Z, 174) 1 149 173 174 0) := by
  obtain ⟨y1, hy1⟩ : ∃ y, xs 1 = y := ⟨_, rfl⟩
  refine wp_of (f_L_law_1969.eq_1 ..) ?_
  refine wp_gd qf_0 ?_
  refine wp_lt (xsk qf_1 hy1) ?_
  refine wp_bd ?_
  refine wp_of (f_L_level.eq_1 ..) ?_
  refine wp_gd ql_K_1 ?_
  refine wp_bdc ?_
  refine wp_of (f_X10_level.eq_1 ..) ?_
  refine wp_gd ql_K_1 ?_
  refine wp_bd ?_
  refine wp_of (f_X10_deckOf.eq_1 ..) ?_
  refine wp_gd ql_K_1 ?_
  refine wp_lt ql_R_1_0 ?_
  refine wp_gd ql_K_2 ?_
  refine wp_bd ?_
  refine wp_of (f_X8_deckAt.eq_1 ..) ?_
  refine wp_if (fun c1 => ?_) (fun c1 => ?_)
  · skip
    refine wp_of (f_X8_deckAt_22.eq_1 ..) ?_
    refine wp_of (f_X8_deckAt_23.eq_1 ..) ?_
    refine wp_ret_bd ?_
    refine wp_ifp qf_87 ?_
    refine wp_rs_bd ?_
    refine wp_rs_bdc ?_
    refine wp_ifp qf_88 ?_
    refine wp_ret_bd ?_
    refine wp_gd qf_0 ?_
    refine wp_lt (xsk qf_1 hy1) ?_
    refine wp_gd ql_K_149 ?_
    refine wp_bd ?_
    refine wp_of (f_X13_level.eq_1 ..) ?_
    refine wp_bd ?_
    refine wp_of (f_X13_isDeck.eq_1 ..) ?_
    refine wp_bd ?_
    refine wp_of (f_X13_isBetween.eq_1 ..) ?_
    refine wp_ifp c1 ?_
    refine wp_of (f_X13_isBetween_14.eq_1 ..) ?_
    refine wp_of (f_X13_isBetween_15.eq_1 ..) ?_
    refine wp_gd qf_14 ?_
    refine wp_ret_bd ?_
    refine wp_gd qf_14 ?_
    refine wp_ret_bd ?_
    refine wp_ifp qf_15 ?_
    refine wp_of (f_X13_level_13.eq_1 ..) ?_
    refine wp_gd ql_K_149 ?_
    refine wp_bd ?_
    refine wp_of (f_X13_isWrong.eq_1 ..) ?_
    refine wp_gd ql_K_149 ?_
    refine wp_zI ?_
    refine wp_ifn qf_17 ?_
    refine wp_of (f_X13_isWrong_14.eq_1 ..) ?_
    refine wp_gd qf_18 ?_
    refine wp_ret_bd ?_
    refine wp_ifn qf_19 ?_
    refine wp_of (f_X13_level_33.eq_1 ..) ?_
    refine wp_ret_bd ?_
    refine wp_gd ql_K_149 ?_
    refine wp_bd ?_
    refine wp_of (f_X13_thrown.eq_1 ..) ?_
    refine wp_gd ql_K_149 ?_
    refine wp_lt gI_s ?_
    refine wp_ret_bd ?_
    refine wp_ifp qf_20 ?_
    refine wp_ifn qf_19 ?_
    refine wp_of (f_L_law_2022.eq_1 ..) ?_
    refine wp_of (f_L_law_3632.eq_1 ..) ?_
    refine wp_lt qf_21 ?_
    exact hrc _
  · skip
    refine wp_gd ql_K_2 ?_
    refine wp_lt ql_R_2_1 ?_
    refine wp_gd ql_K_16 ?_
    refine wp_lt (gZo ql_Z_16 qf_92) ?_
    refine wp_if (fun c2 => ?_) (fun c2 => ?_)
    · skip
      refine wp_of (f_X8_deckAt_22.eq_1 ..) ?_
      refine wp_of (f_X8_deckAt_23.eq_1 ..) ?_
      refine wp_ret_bd ?_
      refine wp_ifp qf_87 ?_
      refine wp_rs_bd ?_
      refine wp_rs_bdc ?_
      refine wp_ifp qf_88 ?_
      refine wp_ret_bd ?_
      refine wp_gd qf_0 ?_
      refine wp_lt (xsk qf_1 hy1) ?_
      refine wp_gd ql_K_149 ?_
      refine wp_bd ?_
      refine wp_of (f_X13_level.eq_1 ..) ?_
      refine wp_bd ?_
      refine wp_of (f_X13_isDeck.eq_1 ..) ?_
      refine wp_bd ?_
      refine wp_of (f_X13_isBetween.eq_1 ..) ?_
      refine wp_ifn c1 ?_
      refine wp_ifp (show ((3 : Int32) < y1) from by have e0 := qf_90; have e1 := qf_93; have e2 := qf_94; simp only [Int32.lt_iff_toInt_lt, Int32.le_iff_toInt_le, ← Int32.toInt_inj] at c1 c2 ⊢; omega) ?_
      refine wp_of (f_X13_isBetween_14.eq_1 ..) ?_
      refine wp_of (f_X13_isBetween_15.eq_1 ..) ?_
      refine wp_gd qf_14 ?_
      refine wp_ret_bd ?_
      refine wp_gd qf_14 ?_
      refine wp_ret_bd ?_
      refine wp_ifp qf_15 ?_
      refine wp_of (f_X13_level_13.eq_1 ..) ?_
      refine wp_gd ql_K_149 ?_
      refine wp_bd ?_
      refine wp_of (f_X13_isWrong.eq_1 ..) ?_
      refine wp_gd ql_K_149 ?_
      refine wp_zI ?_
      refine wp_ifn qf_17 ?_
      refine wp_of (f_X13_isWrong_14.eq_1 ..) ?_
      refine wp_gd qf_18 ?_
      refine wp_ret_bd ?_
      refine wp_ifn qf_19 ?_
      refine wp_of (f_X13_level_33.eq_1 ..) ?_
      refine wp_ret_bd ?_
      refine wp_gd ql_K_149 ?_
      refine wp_bd ?_
      refine wp_of (f_X13_thrown.eq_1 ..) ?_
      refine wp_gd ql_K_149 ?_
      refine wp_lt gI_s ?_
      refine wp_ret_bd ?_
      refine wp_ifp qf_20 ?_
      refine wp_ifn qf_19 ?_
      refine wp_of (f_L_law_2022.eq_1 ..) ?_
      refine wp_of (f_L_law_3632.eq_1 ..) ?_
      refine wp_lt qf_21 ?_
      exact hrc _
    · skip
      refine wp_lt ql_R_2_1 ?_
      refine wp_gd ql_K_16 ?_
      rcases (show y1 = (0 : Int32) ∨ y1 = (1 : Int32) ∨ y1 = (2 : Int32) ∨ y1 = (3 : Int32) from by have e0 := qf_90; have e1 := qf_95; have e2 := qf_96; have e3 := qf_93; have e4 := qf_94; simp only [Int32.lt_iff_toInt_lt, Int32.le_iff_toInt_le] at c1 c2; simp only [← Int32.toInt_inj]; omega) with rfl | rfl | rfl | rfl
      · skip
        refine wp_gd (gZi ql_Z_16 qf_97) ?_
        refine wp_lt (gRk qf_32 ql_R_16_0) ?_
        refine wp_of (f_X8_deckAt_23.eq_1 ..) ?_
        refine wp_ret_bd ?_
        refine wp_ifn qf_98 ?_
        refine wp_ret_bd ?_
        refine wp_gd ql_K_1 ?_
        refine wp_lt ql_R_1_0 ?_
        refine wp_gd ql_K_2 ?_
        refine wp_lt ql_I_2_5 ?_
        refine wp_gd ql_K_17 ?_
        refine wp_bd ?_
        refine wp_of (f_X1_levelAt.eq_1 ..) ?_
        refine wp_gd ql_K_17 ?_
        refine wp_lt ql_I_17_5 ?_
        refine wp_ifp qf_15 ?_
        refine wp_of (f_X1_levelAt_19.eq_1 ..) ?_
        refine wp_ret_bd ?_
        refine wp_ret_bdc ?_
        refine wp_lt qf_70 ?_
        refine wp_gd ql_K_173 ?_
        refine wp_gd (gZi ql_Z_173 qf_71) ?_
        refine wp_zLk qf_32 ?_
        refine wp_ret_bd ?_
        refine wp_gd qf_0 ?_
        refine wp_lt (xsk qf_1 hy1) ?_
        refine wp_gd ql_K_149 ?_
        refine wp_bd ?_
        refine wp_of (f_X13_level.eq_1 ..) ?_
        refine wp_bd ?_
        refine wp_of (f_X13_isDeck.eq_1 ..) ?_
        refine wp_bd ?_
        refine wp_of (f_X13_isBetween.eq_1 ..) ?_
        refine wp_ifn qf_28 ?_
        refine wp_ifn qf_43 ?_
        refine wp_of (f_X13_isBetween_15.eq_1 ..) ?_
        refine wp_gd qf_18 ?_
        refine wp_ret_bd ?_
        refine wp_gd qf_18 ?_
        refine wp_ret_bd ?_
        refine wp_ifn qf_19 ?_
        refine wp_of (f_X13_level_13.eq_1 ..) ?_
        refine wp_gd ql_K_149 ?_
        refine wp_bd ?_
        refine wp_of (f_X13_isWrong.eq_1 ..) ?_
        refine wp_gd ql_K_149 ?_
        refine wp_zI ?_
        refine wp_ifp qf_73 ?_
        refine wp_of (f_X13_isWrong_14.eq_1 ..) ?_
        refine wp_gd qf_14 ?_
        refine wp_ret_bd ?_
        refine wp_ifp qf_15 ?_
        refine wp_gd ql_K_149 ?_
        refine wp_lt ql_R_149_2 ?_
        refine wp_gd ql_K_151 ?_
        refine wp_gd (gZi ql_Z_151 qf_97) ?_
        refine wp_lt (gRk qf_32 ql_R_151_0) ?_
        refine wp_bd ?_
        refine wp_of (f_X13_levelOf.eq_1 ..) ?_
        refine wp_gd ql_K_152 ?_
        refine wp_lt (Eq.trans (gI_a rfl) ql_I_152_15) ?_
        refine wp_ifn qf_179 ?_
        refine wp_lt (Eq.trans (gI_a rfl) ql_I_152_15) ?_
        refine wp_ifn qf_163 ?_
        refine wp_of (f_X13_levelOf_49.eq_1 ..) ?_
        refine wp_gd ql_K_152 ?_
        refine wp_lt (Eq.trans (gI_a rfl) ql_I_152_13) ?_
        refine wp_ifp qf_15 ?_
        refine wp_of (f_X13_levelOf_70.eq_1 ..) ?_
        refine wp_ret_bd ?_
        refine wp_of (f_X13_level_33.eq_1 ..) ?_
        refine wp_ret_bd ?_
        refine wp_gd ql_K_149 ?_
        refine wp_bd ?_
        refine wp_of (f_X13_thrown.eq_1 ..) ?_
        refine wp_gd ql_K_149 ?_
        refine wp_lt gI_s ?_
        refine wp_ret_bd ?_
        refine wp_ifp qf_15 ?_
        refine wp_ifp qf_15 ?_
        refine wp_gd ql_K_173 ?_
        refine wp_gd (gZi ql_Z_173 qf_71) ?_
        refine wp_lt (gLk qf_32 gL_s) ?_
        refine wp_lt qf_70 ?_
        refine wp_lt qf_81 ?_
        refine wp_ifp qf_15 ?_
        refine wp_of (f_L_law_2022.eq_1 ..) ?_
        refine wp_of (f_L_law_3632.eq_1 ..) ?_
        refine wp_lt qf_21 ?_
        exact hrc _
      · skip
        refine wp_gd (gZi ql_Z_16 qf_99) ?_
        refine wp_lt (gRk qf_36 ql_R_16_1) ?_
        refine wp_of (f_X8_deckAt_23.eq_1 ..) ?_
        refine wp_ret_bd ?_
        refine wp_ifn qf_100 ?_
        refine wp_ret_bd ?_
        refine wp_gd ql_K_1 ?_
        refine wp_lt ql_R_1_0 ?_
        refine wp_gd ql_K_2 ?_
        refine wp_lt ql_I_2_5 ?_
        refine wp_gd ql_K_25 ?_
        refine wp_bd ?_
        refine wp_of (f_X1_levelAt.eq_1 ..) ?_
        refine wp_gd ql_K_25 ?_
        refine wp_lt ql_I_25_5 ?_
        refine wp_ifp qf_15 ?_
        refine wp_of (f_X1_levelAt_19.eq_1 ..) ?_
        refine wp_ret_bd ?_
        refine wp_ret_bdc ?_
        refine wp_lt qf_70 ?_
        refine wp_gd ql_K_173 ?_
        refine wp_gd (gZi ql_Z_173 qf_71) ?_
        refine wp_zLk qf_32 ?_
        refine wp_ret_bd ?_
        refine wp_gd qf_0 ?_
        refine wp_lt (xsk qf_1 hy1) ?_
        refine wp_gd ql_K_149 ?_
        refine wp_bd ?_
        refine wp_of (f_X13_level.eq_1 ..) ?_
        refine wp_bd ?_
        refine wp_of (f_X13_isDeck.eq_1 ..) ?_
        refine wp_bd ?_
        refine wp_of (f_X13_isBetween.eq_1 ..) ?_
        refine wp_ifn qf_33 ?_
        refine wp_ifn qf_101 ?_
        refine wp_of (f_X13_isBetween_15.eq_1 ..) ?_
        refine wp_gd qf_18 ?_
        refine wp_ret_bd ?_
        refine wp_gd qf_18 ?_
        refine wp_ret_bd ?_
        refine wp_ifn qf_19 ?_
        refine wp_of (f_X13_level_13.eq_1 ..) ?_
        refine wp_gd ql_K_149 ?_
        refine wp_bd ?_
        refine wp_of (f_X13_isWrong.eq_1 ..) ?_
        refine wp_gd ql_K_149 ?_
        refine wp_zI ?_
        refine wp_ifp qf_73 ?_
        refine wp_of (f_X13_isWrong_14.eq_1 ..) ?_
        refine wp_gd qf_14 ?_
        refine wp_ret_bd ?_
        refine wp_ifp qf_15 ?_
        refine wp_gd ql_K_149 ?_
        refine wp_lt ql_R_149_2 ?_
        refine wp_gd ql_K_151 ?_
        refine wp_gd (gZi ql_Z_151 qf_99) ?_
        refine wp_lt (gRk qf_36 ql_R_151_1) ?_
        refine wp_bd ?_
        refine wp_of (f_X13_levelOf.eq_1 ..) ?_
        refine wp_gd ql_K_156 ?_
        refine wp_lt (Eq.trans (gI_a rfl) ql_I_156_15) ?_
        refine wp_ifn qf_179 ?_
        refine wp_lt (Eq.trans (gI_a rfl) ql_I_156_15) ?_
        refine wp_ifn qf_163 ?_
        refine wp_of (f_X13_levelOf_49.eq_1 ..) ?_
        refine wp_gd ql_K_156 ?_
        refine wp_lt (Eq.trans (gI_a rfl) ql_I_156_13) ?_
        refine wp_ifp qf_15 ?_
        refine wp_of (f_X13_levelOf_70.eq_1 ..) ?_
        refine wp_ret_bd ?_
        refine wp_of (f_X13_level_33.eq_1 ..) ?_
        refine wp_ret_bd ?_
        refine wp_gd ql_K_149 ?_
        refine wp_bd ?_
        refine wp_of (f_X13_thrown.eq_1 ..) ?_
        refine wp_gd ql_K_149 ?_
        refine wp_lt gI_s ?_
        refine wp_ret_bd ?_
        refine wp_ifp qf_15 ?_
        refine wp_ifp qf_15 ?_
        refine wp_gd ql_K_173 ?_
        refine wp_gd (gZi ql_Z_173 qf_71) ?_
        refine wp_lt (gLk qf_32 gL_s) ?_
        refine wp_lt qf_70 ?_
        refine wp_lt qf_81 ?_
        refine wp_ifp qf_15 ?_
        refine wp_of (f_L_law_2022.eq_1 ..) ?_
        refine wp_of (f_L_law_3632.eq_1 ..) ?_
        refine wp_lt qf_21 ?_
        exact hrc _
      · skip
        refine wp_gd (gZi ql_Z_16 qf_102) ?_
        refine wp_lt (gRk qf_41 ql_R_16_2) ?_
        refine wp_of (f_X8_deckAt_23.eq_1 ..) ?_
        refine wp_ret_bd ?_
        refine wp_ifn qf_103 ?_
        refine wp_ret_bd ?_
        refine wp_gd ql_K_1 ?_
        refine wp_lt ql_R_1_0 ?_
        refine wp_gd ql_K_2 ?_
        refine wp_lt ql_I_2_5 ?_
        refine wp_gd ql_K_33 ?_
        refine wp_bd ?_
        refine wp_of (f_X1_levelAt.eq_1 ..) ?_
        refine wp_gd ql_K_33 ?_
        refine wp_lt ql_I_33_5 ?_
        refine wp_ifp qf_15 ?_
        refine wp_of (f_X1_levelAt_19.eq_1 ..) ?_
        refine wp_ret_bd ?_
        refine wp_ret_bdc ?_
        refine wp_lt qf_70 ?_
        refine wp_gd ql_K_173 ?_
        refine wp_gd (gZi ql_Z_173 qf_71) ?_
        refine wp_zLk qf_32 ?_
        refine wp_ret_bd ?_
        refine wp_gd qf_0 ?_
        refine wp_lt (xsk qf_1 hy1) ?_
        refine wp_gd ql_K_149 ?_
        refine wp_bd ?_
        refine wp_of (f_X13_level.eq_1 ..) ?_
        refine wp_bd ?_
        refine wp_of (f_X13_isDeck.eq_1 ..) ?_
        refine wp_bd ?_
        refine wp_of (f_X13_isBetween.eq_1 ..) ?_
        refine wp_ifn qf_38 ?_
        refine wp_ifn qf_104 ?_
        refine wp_of (f_X13_isBetween_15.eq_1 ..) ?_
        refine wp_gd qf_18 ?_
        refine wp_ret_bd ?_
        refine wp_gd qf_18 ?_
        refine wp_ret_bd ?_
        refine wp_ifn qf_19 ?_
        refine wp_of (f_X13_level_13.eq_1 ..) ?_
        refine wp_gd ql_K_149 ?_
        refine wp_bd ?_
        refine wp_of (f_X13_isWrong.eq_1 ..) ?_
        refine wp_gd ql_K_149 ?_
        refine wp_zI ?_
        refine wp_ifp qf_73 ?_
        refine wp_of (f_X13_isWrong_14.eq_1 ..) ?_
        refine wp_gd qf_14 ?_
        refine wp_ret_bd ?_
        refine wp_ifp qf_15 ?_
        refine wp_gd ql_K_149 ?_
        refine wp_lt ql_R_149_2 ?_
        refine wp_gd ql_K_151 ?_
        refine wp_gd (gZi ql_Z_151 qf_102) ?_
        refine wp_lt (gRk qf_41 ql_R_151_2) ?_
        refine wp_bd ?_
        refine wp_of (f_X13_levelOf.eq_1 ..) ?_
        refine wp_gd ql_K_160 ?_
        refine wp_lt (Eq.trans (gI_a rfl) ql_I_160_15) ?_
        refine wp_ifn qf_179 ?_
        refine wp_lt (Eq.trans (gI_a rfl) ql_I_160_15) ?_
        refine wp_ifn qf_163 ?_
        refine wp_of (f_X13_levelOf_49.eq_1 ..) ?_
        refine wp_gd ql_K_160 ?_
        refine wp_lt (Eq.trans (gI_a rfl) ql_I_160_13) ?_
        refine wp_ifp qf_15 ?_
        refine wp_of (f_X13_levelOf_70.eq_1 ..) ?_
        refine wp_ret_bd ?_
        refine wp_of (f_X13_level_33.eq_1 ..) ?_
        refine wp_ret_bd ?_
        refine wp_gd ql_K_149 ?_
        refine wp_bd ?_
        refine wp_of (f_X13_thrown.eq_1 ..) ?_
        refine wp_gd ql_K_149 ?_
        refine wp_lt gI_s ?_
        refine wp_ret_bd ?_
        refine wp_ifp qf_15 ?_
        refine wp_ifp qf_15 ?_
        refine wp_gd ql_K_173 ?_
        refine wp_gd (gZi ql_Z_173 qf_71) ?_
        refine wp_lt (gLk qf_32 gL_s) ?_
        refine wp_lt qf_70 ?_
        refine wp_lt qf_81 ?_
        refine wp_ifp qf_15 ?_
        refine wp_of (f_L_law_2022.eq_1 ..) ?_
        refine wp_of (f_L_law_3632.eq_1 ..) ?_
        refine wp_lt qf_21 ?_
        exact hrc _
      · skip
        refine wp_gd (gZi ql_Z_16 qf_105) ?_
        refine wp_lt (gRk qf_46 ql_R_16_3) ?_
        refine wp_of (f_X8_deckAt_23.eq_1 ..) ?_
        refine wp_ret_bd ?_
        refine wp_ifn qf_106 ?_
        refine wp_ret_bd ?_
        refine wp_gd ql_K_1 ?_
        refine wp_lt ql_R_1_0 ?_
        refine wp_gd ql_K_2 ?_
        refine wp_lt ql_I_2_5 ?_
        refine wp_gd ql_K_41 ?_
        refine wp_bd ?_
        refine wp_of (f_X1_levelAt.eq_1 ..) ?_
        refine wp_gd ql_K_41 ?_
        refine wp_lt ql_I_41_5 ?_
        refine wp_ifp qf_15 ?_
        refine wp_of (f_X1_levelAt_19.eq_1 ..) ?_
        refine wp_ret_bd ?_
        refine wp_ret_bdc ?_
        refine wp_lt qf_70 ?_
        refine wp_gd ql_K_173 ?_
        refine wp_gd (gZi ql_Z_173 qf_71) ?_
        refine wp_zLk qf_32 ?_
        refine wp_ret_bd ?_
        refine wp_gd qf_0 ?_
        refine wp_lt (xsk qf_1 hy1) ?_
        refine wp_gd ql_K_149 ?_
        refine wp_bd ?_
        refine wp_of (f_X13_level.eq_1 ..) ?_
        refine wp_bd ?_
        refine wp_of (f_X13_isDeck.eq_1 ..) ?_
        refine wp_bd ?_
        refine wp_of (f_X13_isBetween.eq_1 ..) ?_
        refine wp_ifn qf_43 ?_
        refine wp_ifn qf_107 ?_
        refine wp_of (f_X13_isBetween_15.eq_1 ..) ?_
        refine wp_gd qf_18 ?_
        refine wp_ret_bd ?_
        refine wp_gd qf_18 ?_
        refine wp_ret_bd ?_
        refine wp_ifn qf_19 ?_
        refine wp_of (f_X13_level_13.eq_1 ..) ?_
        refine wp_gd ql_K_149 ?_
        refine wp_bd ?_
        refine wp_of (f_X13_isWrong.eq_1 ..) ?_
        refine wp_gd ql_K_149 ?_
        refine wp_zI ?_
        refine wp_ifp qf_73 ?_
        refine wp_of (f_X13_isWrong_14.eq_1 ..) ?_
        refine wp_gd qf_14 ?_
        refine wp_ret_bd ?_
        refine wp_ifp qf_15 ?_
        refine wp_gd ql_K_149 ?_
        refine wp_lt ql_R_149_2 ?_
        refine wp_gd ql_K_151 ?_
        refine wp_gd (gZi ql_Z_151 qf_105) ?_
        refine wp_lt (gRk qf_46 ql_R_151_3) ?_
        refine wp_bd ?_
        refine wp_of (f_X13_levelOf.eq_1 ..) ?_
        refine wp_gd ql_K_164 ?_
        refine wp_lt (Eq.trans (gI_a rfl) ql_I_164_15) ?_
        refine wp_ifn qf_179 ?_
        refine wp_lt (Eq.trans (gI_a rfl) ql_I_164_15) ?_
        refine wp_ifn qf_163 ?_
        refine wp_of (f_X13_levelOf_49.eq_1 ..) ?_
        refine wp_gd ql_K_164 ?_
        refine wp_lt (Eq.trans (gI_a rfl) ql_I_164_13) ?_
        refine wp_ifp qf_15 ?_
        refine wp_of (f_X13_levelOf_70.eq_1 ..) ?_
        refine wp_ret_bd ?_
        refine wp_of (f_X13_level_33.eq_1 ..) ?_
        refine wp_ret_bd ?_
        refine wp_gd ql_K_149 ?_
        refine wp_bd ?_
        refine wp_of (f_X13_thrown.eq_1 ..) ?_
        refine wp_gd ql_K_149 ?_
        refine wp_lt gI_s ?_
        refine wp_ret_bd ?_
        refine wp_ifp qf_15 ?_
        refine wp_ifp qf_15 ?_
        refine wp_gd ql_K_173 ?_
        refine wp_gd (gZi ql_Z_173 qf_71) ?_
        refine wp_lt (gLk qf_32 gL_s) ?_
        refine wp_lt qf_70 ?_
        refine wp_lt qf_81 ?_
        refine wp_ifp qf_15 ?_
        refine wp_of (f_L_law_2022.eq_1 ..) ?_
        refine wp_of (f_L_law_3632.eq_1 ..) ?_
        refine wp_lt qf_21 ?_
        exact hrc _
set_option maxRecDepth 100000 in
set_option maxHeartbeats 4000000 in
theorem cs_25 {xs : Nat → Int32} {rc : mS → Nat → Nat → Nat → Nat → Int32 → Option (Rs Int32)} {Q : Rs Int32 → Prop} (hrc : ∀ S, WP Q (rc S 1 149 173 174 8)) : WP Q (f_L_law_2025 8 xs rc (M3I, M3L, M3R, M3D, M3K, M3Z, 174) 1 149 173 174 0) := by
  obtain ⟨y1, hy1⟩ : ∃ y, xs 1 = y := ⟨_, rfl⟩
  obtain ⟨y2, hy2⟩ : ∃ y, xs 2 = y := ⟨_, rfl⟩
  obtain ⟨y3, hy3⟩ : ∃ y, xs 3 = y := ⟨_, rfl⟩
  refine wp_of (f_L_law_2025.eq_1 ..) ?_
  refine wp_gd qf_0 ?_
  refine wp_lt (xsk qf_1 hy1) ?_
  refine wp_gd qf_2 ?_
  refine wp_lt (xsk qf_3 hy2) ?_
  obtain ⟨wy2, hwy2⟩ : ∃ w, (((y2).toUInt32 % (65536 : UInt32))).toInt32 = w := ⟨_, rfl⟩
  have hwy2c := chq hwy2
  have hwy2a := hwy2c.1.2
  have hwy2b := hwy2c.2
  refine wp_lt hwy2 ?_
  refine wp_gd qf_4 ?_
  refine wp_lt (xsk qf_5 hy3) ?_
  refine wp_bd ?_
  refine wp_of (f_L_addEffect.eq_1 ..) ?_
  refine wp_gd ql_K_1 ?_
  refine wp_bdc ?_
  refine wp_of (f_X10_addEffect.eq_1 ..) ?_
  refine wp_gd ql_K_1 ?_
  refine wp_bd ?_
  refine wp_of (f_X10_deckOf.eq_1 ..) ?_
  refine wp_gd ql_K_1 ?_
  refine wp_lt ql_R_1_0 ?_
  refine wp_gd ql_K_2 ?_
  refine wp_bd ?_
  refine wp_of (f_X8_deckAt.eq_1 ..) ?_
  refine wp_if (fun c1 => ?_) (fun c1 => ?_)
  · skip
    refine wp_of (f_X8_deckAt_22.eq_1 ..) ?_
    refine wp_of (f_X8_deckAt_23.eq_1 ..) ?_
    refine wp_ret_bd ?_
    refine wp_ifp qf_87 ?_
    refine wp_rs_bd ?_
    refine wp_rs_bdc ?_
    refine wp_ifp qf_88 ?_
    refine wp_ret_bd ?_
    refine wp_gd qf_0 ?_
    refine wp_lt (xsk qf_1 hy1) ?_
    refine wp_gd qf_2 ?_
    refine wp_lt (xsk qf_3 hy2) ?_
    refine wp_lt hwy2 ?_
    refine wp_gd qf_4 ?_
    refine wp_lt (xsk qf_5 hy3) ?_
    refine wp_gd ql_K_149 ?_
    refine wp_bd ?_
    refine wp_of (f2_X13_addEffect.eq_1 ..) ?_
    refine wp_bd ?_
    refine wp_of (f_X13_isDeck.eq_1 ..) ?_
    refine wp_bd ?_
    refine wp_of (f_X13_isBetween.eq_1 ..) ?_
    refine wp_ifp c1 ?_
    refine wp_of (f_X13_isBetween_14.eq_1 ..) ?_
    refine wp_of (f_X13_isBetween_15.eq_1 ..) ?_
    refine wp_gd qf_14 ?_
    refine wp_ret_bd ?_
    refine wp_gd qf_14 ?_
    refine wp_ret_bd ?_
    refine wp_ifp qf_15 ?_
    refine wp_of (f2_X13_addEffect_58.eq_1 ..) ?_
    refine wp_gd ql_K_149 ?_
    refine wp_bd ?_
    refine wp_of (f_X13_isWrong.eq_1 ..) ?_
    refine wp_gd ql_K_149 ?_
    refine wp_zI ?_
    refine wp_ifn qf_17 ?_
    refine wp_of (f_X13_isWrong_14.eq_1 ..) ?_
    refine wp_gd qf_18 ?_
    refine wp_ret_bd ?_
    refine wp_ifn qf_19 ?_
    refine wp_ret_bd ?_
    refine wp_gd ql_K_149 ?_
    refine wp_bd ?_
    refine wp_of (f_X13_thrown.eq_1 ..) ?_
    refine wp_gd ql_K_149 ?_
    refine wp_lt gI_s ?_
    refine wp_ret_bd ?_
    refine wp_ifp qf_20 ?_
    refine wp_ifn qf_19 ?_
    refine wp_of (f_L_law_2104.eq_1 ..) ?_
    refine wp_of (f_L_law_3632.eq_1 ..) ?_
    refine wp_lt qf_21 ?_
    exact hrc _
  · skip
    refine wp_gd ql_K_2 ?_
    refine wp_lt ql_R_2_1 ?_
    refine wp_gd ql_K_16 ?_
    refine wp_lt (gZo ql_Z_16 qf_92) ?_
    refine wp_if (fun c2 => ?_) (fun c2 => ?_)
    · skip
      refine wp_of (f_X8_deckAt_22.eq_1 ..) ?_
      refine wp_of (f_X8_deckAt_23.eq_1 ..) ?_
      refine wp_ret_bd ?_
      refine wp_ifp qf_87 ?_
      refine wp_rs_bd ?_
      refine wp_rs_bdc ?_
      refine wp_ifp qf_88 ?_
      refine wp_ret_bd ?_
      refine wp_gd qf_0 ?_
      refine wp_lt (xsk qf_1 hy1) ?_
      refine wp_gd qf_2 ?_
      refine wp_lt (xsk qf_3 hy2) ?_
      refine wp_lt hwy2 ?_
      refine wp_gd qf_4 ?_
      refine wp_lt (xsk qf_5 hy3) ?_
      refine wp_gd ql_K_149 ?_
      refine wp_bd ?_
      refine wp_of (f2_X13_addEffect.eq_1 ..) ?_
      refine wp_bd ?_
      refine wp_of (f_X13_isDeck.eq_1 ..) ?_
      refine wp_bd ?_
      refine wp_of (f_X13_isBetween.eq_1 ..) ?_
      refine wp_ifn c1 ?_
      refine wp_ifp (show ((3 : Int32) < y1) from by have e0 := qf_90; have e1 := qf_93; have e2 := qf_94; simp only [Int32.lt_iff_toInt_lt, Int32.le_iff_toInt_le, ← Int32.toInt_inj] at c1 c2 ⊢; omega) ?_
      refine wp_of (f_X13_isBetween_14.eq_1 ..) ?_
      refine wp_of (f_X13_isBetween_15.eq_1 ..) ?_
      refine wp_gd qf_14 ?_
      refine wp_ret_bd ?_
      refine wp_gd qf_14 ?_
      refine wp_ret_bd ?_
      refine wp_ifp qf_15 ?_
      refine wp_of (f2_X13_addEffect_58.eq_1 ..) ?_
      refine wp_gd ql_K_149 ?_
      refine wp_bd ?_
      refine wp_of (f_X13_isWrong.eq_1 ..) ?_
      refine wp_gd ql_K_149 ?_
      refine wp_zI ?_
      refine wp_ifn qf_17 ?_
      refine wp_of (f_X13_isWrong_14.eq_1 ..) ?_
      refine wp_gd qf_18 ?_
      refine wp_ret_bd ?_
      refine wp_ifn qf_19 ?_
      refine wp_ret_bd ?_
      refine wp_gd ql_K_149 ?_
      refine wp_bd ?_
      refine wp_of (f_X13_thrown.eq_1 ..) ?_
      refine wp_gd ql_K_149 ?_
      refine wp_lt gI_s ?_
      refine wp_ret_bd ?_
      refine wp_ifp qf_20 ?_
      refine wp_ifn qf_19 ?_
      refine wp_of (f_L_law_2104.eq_1 ..) ?_
      refine wp_of (f_L_law_3632.eq_1 ..) ?_
      refine wp_lt qf_21 ?_
      exact hrc _
    · skip
      refine wp_lt ql_R_2_1 ?_
      refine wp_gd ql_K_16 ?_
      rcases (show y1 = (0 : Int32) ∨ y1 = (1 : Int32) ∨ y1 = (2 : Int32) ∨ y1 = (3 : Int32) from by have e0 := qf_90; have e1 := qf_95; have e2 := qf_96; have e3 := qf_93; have e4 := qf_94; simp only [Int32.lt_iff_toInt_lt, Int32.le_iff_toInt_le] at c1 c2; simp only [← Int32.toInt_inj]; omega) with rfl | rfl | rfl | rfl
      · skip
        refine wp_gd (gZi ql_Z_16 qf_97) ?_
        refine wp_lt (gRk qf_32 ql_R_16_0) ?_
        refine wp_of (f_X8_deckAt_23.eq_1 ..) ?_
        refine wp_ret_bd ?_
        refine wp_ifn qf_98 ?_
        refine wp_ret_bd ?_
        refine wp_if (fun c3 => ?_) (fun c3 => ?_)
        · skip
          subst c3
          refine wp_of (f_X10_addEffect_25.eq_1 ..) ?_
          refine wp_of (f_X10_addEffect_30.eq_1 ..) ?_
          refine wp_bd ?_
          refine wp_of (f_X10_demand.eq_1 ..) ?_
          refine wp_ifn qf_19 ?_
          refine wp_ret_bd ?_
          refine wp_bd ?_
          refine wp_of (f_X10_isIn.eq_1 ..) ?_
          refine wp_if (fun c4 => ?_) (fun c4 => ?_)
          · skip
            refine wp_of (f_X10_isIn_14.eq_1 ..) ?_
            refine wp_of (f_X10_isIn_15.eq_1 ..) ?_
            refine wp_gd qf_14 ?_
            refine wp_ret_bd ?_
            refine wp_bd ?_
            refine wp_of (f_X10_demand.eq_1 ..) ?_
            refine wp_ifp qf_15 ?_
            refine wp_rs_bd ?_
            refine wp_rs_bdc ?_
            refine wp_ifn qf_113 ?_
            refine wp_ifp qf_16 ?_
            refine wp_ret_bd ?_
            refine wp_gd qf_0 ?_
            refine wp_lt (xsk qf_1 hy1) ?_
            refine wp_gd qf_2 ?_
            refine wp_lt (xsk qf_3 hy2) ?_
            refine wp_lt hwy2 ?_
            refine wp_gd qf_4 ?_
            refine wp_lt (xsk qf_5 hy3) ?_
            refine wp_gd ql_K_149 ?_
            refine wp_bd ?_
            refine wp_of (f2_X13_addEffect.eq_1 ..) ?_
            refine wp_bd ?_
            refine wp_of (f_X13_isDeck.eq_1 ..) ?_
            refine wp_bd ?_
            refine wp_of (f_X13_isBetween.eq_1 ..) ?_
            refine wp_ifn qf_28 ?_
            refine wp_ifn qf_43 ?_
            refine wp_of (f_X13_isBetween_15.eq_1 ..) ?_
            refine wp_gd qf_18 ?_
            refine wp_ret_bd ?_
            refine wp_gd qf_18 ?_
            refine wp_ret_bd ?_
            refine wp_ifn qf_19 ?_
            refine wp_gd (Or.inr qf_180) ?_
            refine wp_bd ?_
            refine wp_of (f2_J0_indexOf_0f7a4.eq_1 ..) ?_
            refine wp_gd (Or.inr qf_180) ?_
            refine wp_bd ?_
            refine wp_of (f2_J0_indexOf_7cf53.eq_1 ..) ?_
            refine wp_gd (Or.inr qf_180) ?_
            refine wp_bd ?_
            refine wp_of (f2_J0_isLatin1_aae02.eq_1 ..) ?_
            refine wp_ifn qf_19 ?_
            refine wp_gd (Or.inr qf_180) ?_
            refine wp_lt (ifR qf_181 rfl) ?_
            refine wp_ifp qf_15 ?_
            refine wp_of (f2_J0_isLatin1_aae02_18.eq_1 ..) ?_
            refine wp_gd qf_18 ?_
            refine wp_ret_bd ?_
            refine wp_ifn qf_19 ?_
            refine wp_gd (Or.inr qf_180) ?_
            refine wp_lt (ifR qf_181 qf_182) ?_
            refine wp_gd (Or.inr qf_180) ?_
            refine wp_bd ?_
            refine wp_of (f2_J0_length_8abf5.eq_1 ..) ?_
            refine wp_gd (Or.inr qf_180) ?_
            refine wp_lt (ifR qf_181 qf_182) ?_
            refine wp_gd (Or.inr qf_183) ?_
            refine wp_lt (zbo (zbK qf_184 qf_185) qf_121) ?_
            refine wp_gd (Or.inr qf_180) ?_
            refine wp_bd ?_
            refine wp_of (f2_J0_coder_7d493.eq_1 ..) ?_
            refine wp_ifn qf_19 ?_
            refine wp_gd (Or.inr qf_180) ?_
            refine wp_lt (ifR qf_181 rfl) ?_
            refine wp_of (f2_J0_coder_7d493_14.eq_1 ..) ?_
            refine wp_gd qf_138 ?_
            refine wp_ret_bd ?_
            refine wp_lt qf_139 ?_
            refine wp_ret_bd ?_
            refine wp_bd ?_
            refine wp_of (f2_J1_indexOf_4cfef.eq_1 ..) ?_
            refine wp_bd ?_
            refine wp_of (f_J1_canEncode_9a6ad.eq_1 ..) ?_
            refine wp_ifn qf_186 ?_
            refine wp_ifn qf_187 ?_
            refine wp_of (f_J1_canEncode_9a6ad_16.eq_1 ..) ?_
            refine wp_gd qf_18 ?_
            refine wp_ret_bd ?_
            refine wp_ifn qf_19 ?_
            refine wp_lt qf_142 ?_
            refine wp_gd (Or.inr qf_183) ?_
            refine wp_lt (zbo (zbK qf_184 qf_185) qf_121) ?_
            refine wp_lt qf_143 ?_
            refine wp_ifp qf_144 ?_
            refine wp_bd ?_
            refine wp_of (f2_J1_indexOfChar_4cfef.eq_1 ..) ?_
            refine wp_lt qf_188 ?_
            refine wp_of (f2_J1_indexOfChar_4cfef_7.eq_2 ..) ?_
            refine wp_ifn qf_115 ?_
            refine wp_gd (Or.inr qf_183) ?_
            refine wp_gd (zbi (zbK qf_184 qf_185) qf_122) ?_
            refine wp_lt (ibk qf_32 (ibK qf_184 qf_189)) ?_
            refine wp_ifp qf_190 ?_
            refine wp_ret_bd ?_
            refine wp_ret_bd ?_
            refine wp_of (f2_J0_indexOf_7cf53_36.eq_1 ..) ?_
            refine wp_ret_bd ?_
            refine wp_ret_bd ?_
            refine wp_ifn qf_28 ?_
            refine wp_bd ?_
            refine wp_of (f_X13_isBetween.eq_1 ..) ?_
            refine wp_ifp c4 ?_
            refine wp_of (f_X13_isBetween_14.eq_1 ..) ?_
            refine wp_of (f_X13_isBetween_15.eq_1 ..) ?_
            refine wp_gd qf_14 ?_
            refine wp_ret_bd ?_
            refine wp_ifp qf_15 ?_
            refine wp_of (f2_X13_addEffect_31.eq_1 ..) ?_
            refine wp_of (f2_X13_addEffect_58.eq_1 ..) ?_
            refine wp_gd ql_K_149 ?_
            refine wp_bd ?_
            refine wp_of (f_X13_isWrong.eq_1 ..) ?_
            refine wp_gd ql_K_149 ?_
            refine wp_zI ?_
            refine wp_ifn qf_110 ?_
            refine wp_of (f_X13_isWrong_14.eq_1 ..) ?_
            refine wp_gd qf_18 ?_
            refine wp_ret_bd ?_
            refine wp_ifn qf_19 ?_
            refine wp_ret_bd ?_
            refine wp_gd ql_K_149 ?_
            refine wp_bd ?_
            refine wp_of (f_X13_thrown.eq_1 ..) ?_
            refine wp_gd ql_K_149 ?_
            refine wp_lt gI_s ?_
            refine wp_ret_bd ?_
            refine wp_ifp qf_111 ?_
            refine wp_ifn qf_112 ?_
            refine wp_of (f_L_law_2104.eq_1 ..) ?_
            refine wp_of (f_L_law_3632.eq_1 ..) ?_
            refine wp_lt qf_21 ?_
            exact hrc _
          · skip
            refine wp_if (fun c5 => ?_) (fun c5 => ?_)
            · skip
              refine wp_of (f_X10_isIn_14.eq_1 ..) ?_
              refine wp_of (f_X10_isIn_15.eq_1 ..) ?_
              refine wp_gd qf_14 ?_
              refine wp_ret_bd ?_
              refine wp_bd ?_
              refine wp_of (f_X10_demand.eq_1 ..) ?_
              refine wp_ifp qf_15 ?_
              refine wp_rs_bd ?_
              refine wp_rs_bdc ?_
              refine wp_ifn qf_113 ?_
              refine wp_ifp qf_16 ?_
              refine wp_ret_bd ?_
              refine wp_gd qf_0 ?_
              refine wp_lt (xsk qf_1 hy1) ?_
              refine wp_gd qf_2 ?_
              refine wp_lt (xsk qf_3 hy2) ?_
              refine wp_lt hwy2 ?_
              refine wp_gd qf_4 ?_
              refine wp_lt (xsk qf_5 hy3) ?_
              refine wp_gd ql_K_149 ?_
              refine wp_bd ?_
              refine wp_of (f2_X13_addEffect.eq_1 ..) ?_
              refine wp_bd ?_
              refine wp_of (f_X13_isDeck.eq_1 ..) ?_
              refine wp_bd ?_
              refine wp_of (f_X13_isBetween.eq_1 ..) ?_
              refine wp_ifn qf_28 ?_
              refine wp_ifn qf_43 ?_
              refine wp_of (f_X13_isBetween_15.eq_1 ..) ?_
              refine wp_gd qf_18 ?_
              refine wp_ret_bd ?_
              refine wp_gd qf_18 ?_
              refine wp_ret_bd ?_
              refine wp_ifn qf_19 ?_
              refine wp_gd (Or.inr qf_180) ?_
              refine wp_bd ?_
              refine wp_of (f2_J0_indexOf_0f7a4.eq_1 ..) ?_
              refine wp_gd (Or.inr qf_180) ?_
              refine wp_bd ?_
              refine wp_of (f2_J0_indexOf_7cf53.eq_1 ..) ?_
              refine wp_gd (Or.inr qf_180) ?_
              refine wp_bd ?_
              refine wp_of (f2_J0_isLatin1_aae02.eq_1 ..) ?_
              refine wp_ifn qf_19 ?_
              refine wp_gd (Or.inr qf_180) ?_
              refine wp_lt (ifR qf_181 rfl) ?_
              refine wp_ifp qf_15 ?_
              refine wp_of (f2_J0_isLatin1_aae02_18.eq_1 ..) ?_
              refine wp_gd qf_18 ?_
              refine wp_ret_bd ?_
              refine wp_ifn qf_19 ?_
              refine wp_gd (Or.inr qf_180) ?_
              refine wp_lt (ifR qf_181 qf_182) ?_
              refine wp_gd (Or.inr qf_180) ?_
              refine wp_bd ?_
              refine wp_of (f2_J0_length_8abf5.eq_1 ..) ?_
              refine wp_gd (Or.inr qf_180) ?_
              refine wp_lt (ifR qf_181 qf_182) ?_
              refine wp_gd (Or.inr qf_183) ?_
              refine wp_lt (zbo (zbK qf_184 qf_185) qf_121) ?_
              refine wp_gd (Or.inr qf_180) ?_
              refine wp_bd ?_
              refine wp_of (f2_J0_coder_7d493.eq_1 ..) ?_
              refine wp_ifn qf_19 ?_
              refine wp_gd (Or.inr qf_180) ?_
              refine wp_lt (ifR qf_181 rfl) ?_
              refine wp_of (f2_J0_coder_7d493_14.eq_1 ..) ?_
              refine wp_gd qf_138 ?_
              refine wp_ret_bd ?_
              refine wp_lt qf_139 ?_
              refine wp_ret_bd ?_
              refine wp_bd ?_
              refine wp_of (f2_J1_indexOf_4cfef.eq_1 ..) ?_
              refine wp_bd ?_
              refine wp_of (f_J1_canEncode_9a6ad.eq_1 ..) ?_
              refine wp_ifn qf_186 ?_
              refine wp_ifn qf_187 ?_
              refine wp_of (f_J1_canEncode_9a6ad_16.eq_1 ..) ?_
              refine wp_gd qf_18 ?_
              refine wp_ret_bd ?_
              refine wp_ifn qf_19 ?_
              refine wp_lt qf_142 ?_
              refine wp_gd (Or.inr qf_183) ?_
              refine wp_lt (zbo (zbK qf_184 qf_185) qf_121) ?_
              refine wp_lt qf_143 ?_
              refine wp_ifp qf_144 ?_
              refine wp_bd ?_
              refine wp_of (f2_J1_indexOfChar_4cfef.eq_1 ..) ?_
              refine wp_lt qf_188 ?_
              refine wp_of (f2_J1_indexOfChar_4cfef_7.eq_2 ..) ?_
              refine wp_ifn qf_115 ?_
              refine wp_gd (Or.inr qf_183) ?_
              refine wp_gd (zbi (zbK qf_184 qf_185) qf_122) ?_
              refine wp_lt (ibk qf_32 (ibK qf_184 qf_189)) ?_
              refine wp_ifp qf_190 ?_
              refine wp_ret_bd ?_
              refine wp_ret_bd ?_
              refine wp_of (f2_J0_indexOf_7cf53_36.eq_1 ..) ?_
              refine wp_ret_bd ?_
              refine wp_ret_bd ?_
              refine wp_ifn qf_28 ?_
              refine wp_bd ?_
              refine wp_of (f_X13_isBetween.eq_1 ..) ?_
              refine wp_ifn c4 ?_
              refine wp_ifp c5 ?_
              refine wp_of (f_X13_isBetween_14.eq_1 ..) ?_
              refine wp_of (f_X13_isBetween_15.eq_1 ..) ?_
              refine wp_gd qf_14 ?_
              refine wp_ret_bd ?_
              refine wp_ifp qf_15 ?_
              refine wp_of (f2_X13_addEffect_31.eq_1 ..) ?_
              refine wp_of (f2_X13_addEffect_58.eq_1 ..) ?_
              refine wp_gd ql_K_149 ?_
              refine wp_bd ?_
              refine wp_of (f_X13_isWrong.eq_1 ..) ?_
              refine wp_gd ql_K_149 ?_
              refine wp_zI ?_
              refine wp_ifn qf_110 ?_
              refine wp_of (f_X13_isWrong_14.eq_1 ..) ?_
              refine wp_gd qf_18 ?_
              refine wp_ret_bd ?_
              refine wp_ifn qf_19 ?_
              refine wp_ret_bd ?_
              refine wp_gd ql_K_149 ?_
              refine wp_bd ?_
              refine wp_of (f_X13_thrown.eq_1 ..) ?_
              refine wp_gd ql_K_149 ?_
              refine wp_lt gI_s ?_
              refine wp_ret_bd ?_
              refine wp_ifp qf_111 ?_
              refine wp_ifn qf_112 ?_
              refine wp_of (f_L_law_2104.eq_1 ..) ?_
              refine wp_of (f_L_law_3632.eq_1 ..) ?_
              refine wp_lt qf_21 ?_
              exact hrc _
            · skip
              refine wp_of (f_X10_isIn_15.eq_1 ..) ?_
              refine wp_gd qf_18 ?_
              refine wp_ret_bd ?_
              refine wp_bd ?_
              refine wp_of (f_X10_demand.eq_1 ..) ?_
              refine wp_ifn qf_19 ?_
              refine wp_ret_bd ?_
              refine wp_gd ql_K_17 ?_
              refine wp_lt ql_R_17_0 ?_
              refine wp_gd ql_K_18 ?_
              refine wp_lt ql_I_18_2 ?_
              refine wp_lt ql_R_17_0 ?_
              refine wp_gd ql_K_18 ?_
              refine wp_lt ql_R_18_1 ?_
              refine wp_gd ql_K_20 ?_
              refine wp_lt (gZo ql_Z_20 qf_121) ?_
              refine wp_ifp qf_144 ?_
              refine wp_gd ql_K_1 ?_
              refine wp_lt ql_R_1_2 ?_
              refine wp_gd ql_K_106 ?_
              refine wp_bd ?_
              refine wp_of (f_X6_note.eq_1 ..) ?_
              refine wp_gd ql_K_106 ?_
              refine wp_bd ?_
              refine wp_of (f_X6_open.eq_1 ..) ?_
              refine wp_gd ql_K_106 ?_
              refine wp_lt ql_I_106_2 ?_
              refine wp_lt qf_25 ?_
              refine wp_zI ?_
              refine wp_lt (Eq.trans (gI_b rfl) ql_I_106_2) ?_
              refine wp_ifn qf_26 ?_
              refine wp_lt (Eq.trans (gI_b rfl) ql_I_106_2) ?_
              refine wp_lt qf_27 ?_
              refine wp_zI ?_
              refine wp_of (f_X6_open_31.eq_1 ..) ?_
              refine wp_gd ql_K_106 ?_
              refine wp_bd ?_
              refine wp_of (f_X6_put.eq_1 ..) ?_
              refine wp_gd ql_K_106 ?_
              refine wp_lt (Eq.trans (gI_b rfl) gI_s) ?_
              refine wp_ifn qf_28 ?_
              refine wp_lt (Eq.trans (gI_b rfl) gI_s) ?_
              refine wp_lt ql_R_106_0 ?_
              refine wp_gd ql_K_107 ?_
              refine wp_lt (gZo ql_Z_107 qf_29) ?_
              refine wp_ifn qf_30 ?_
              refine wp_lt ql_R_106_0 ?_
              refine wp_lt (Eq.trans (gI_b rfl) gI_s) ?_
              refine wp_gd ql_K_107 ?_
              refine wp_gd (gZi ql_Z_107 qf_31) ?_
              refine wp_zIk qf_32 ?_
              refine wp_lt (Eq.trans (gI_a rfl) (Eq.trans (gI_b rfl) gI_s)) ?_
              refine wp_lt qf_27 ?_
              refine wp_zI ?_
              refine wp_of (f_X6_put_39.eq_1 ..) ?_
              refine wp_ret_bd ?_
              refine wp_ret_bd ?_
              refine wp_gd ql_K_106 ?_
              refine wp_bd ?_
              refine wp_of (f_X6_put.eq_1 ..) ?_
              refine wp_gd ql_K_106 ?_
              refine wp_lt gI_s ?_
              refine wp_ifn qf_33 ?_
              refine wp_lt gI_s ?_
              refine wp_lt ql_R_106_0 ?_
              refine wp_gd ql_K_107 ?_
              refine wp_lt (gZo ql_Z_107 qf_29) ?_
              refine wp_ifn qf_34 ?_
              refine wp_lt ql_R_106_0 ?_
              refine wp_lt gI_s ?_
              refine wp_gd ql_K_107 ?_
              refine wp_gd (gZi ql_Z_107 qf_35) ?_
              refine wp_zIk qf_36 ?_
              refine wp_lt (Eq.trans (gI_a rfl) gI_s) ?_
              refine wp_lt qf_37 ?_
              refine wp_zI ?_
              refine wp_of (f_X6_put_39.eq_1 ..) ?_
              refine wp_ret_bd ?_
              refine wp_gd ql_K_106 ?_
              refine wp_bd ?_
              refine wp_of (f_X6_put.eq_1 ..) ?_
              refine wp_gd ql_K_106 ?_
              refine wp_lt gI_s ?_
              refine wp_ifn qf_38 ?_
              refine wp_lt gI_s ?_
              refine wp_lt ql_R_106_0 ?_
              refine wp_gd ql_K_107 ?_
              refine wp_lt (gZo ql_Z_107 qf_29) ?_
              refine wp_ifn qf_39 ?_
              refine wp_lt ql_R_106_0 ?_
              refine wp_lt gI_s ?_
              refine wp_gd ql_K_107 ?_
              refine wp_gd (gZi ql_Z_107 qf_40) ?_
              refine wp_zIk qf_41 ?_
              refine wp_lt (Eq.trans (gI_a rfl) gI_s) ?_
              refine wp_lt qf_42 ?_
              refine wp_zI ?_
              refine wp_of (f_X6_put_39.eq_1 ..) ?_
              refine wp_ret_bd ?_
              refine wp_gd ql_K_106 ?_
              refine wp_bd ?_
              refine wp_of (f_X6_put.eq_1 ..) ?_
              refine wp_gd ql_K_106 ?_
              refine wp_lt gI_s ?_
              refine wp_ifn qf_43 ?_
              refine wp_lt gI_s ?_
              refine wp_lt ql_R_106_0 ?_
              refine wp_gd ql_K_107 ?_
              refine wp_lt (gZo ql_Z_107 qf_29) ?_
              refine wp_ifn qf_44 ?_
              refine wp_lt ql_R_106_0 ?_
              refine wp_lt gI_s ?_
              refine wp_gd ql_K_107 ?_
              refine wp_gd (gZi ql_Z_107 qf_45) ?_
              refine wp_zIk qf_46 ?_
              refine wp_lt (Eq.trans (gI_a rfl) gI_s) ?_
              refine wp_lt qf_47 ?_
              refine wp_zI ?_
              refine wp_of (f_X6_put_39.eq_1 ..) ?_
              refine wp_ret_bd ?_
              refine wp_ret_bd ?_
              refine wp_gd ql_K_17 ?_
              refine wp_lt ql_R_17_0 ?_
              refine wp_gd ql_K_18 ?_
              refine wp_bd ?_
              refine wp_of (f_X0_plugIn.eq_1 ..) ?_
              refine wp_gd ql_K_18 ?_
              refine wp_lt (Eq.trans (gI_a rfl) (Eq.trans (gI_a rfl) (Eq.trans (gI_a rfl) (Eq.trans (gI_a rfl) (Eq.trans (gI_a rfl) (Eq.trans (gI_a rfl) (Eq.trans (gI_a rfl) (Eq.trans (gI_a rfl) (Eq.trans (gI_a rfl) (Eq.trans (gI_a rfl) ql_I_18_2)))))))))) ?_
              refine wp_ifn qf_28 ?_
              refine wp_lt (Eq.trans (gI_a rfl) (Eq.trans (gI_a rfl) (Eq.trans (gI_a rfl) (Eq.trans (gI_a rfl) (Eq.trans (gI_a rfl) (Eq.trans (gI_a rfl) (Eq.trans (gI_a rfl) (Eq.trans (gI_a rfl) (Eq.trans (gI_a rfl) (Eq.trans (gI_a rfl) ql_I_18_2)))))))))) ?_
              refine wp_lt ql_R_18_1 ?_
              refine wp_gd ql_K_20 ?_
              refine wp_lt (gZo ql_Z_20 qf_121) ?_
              refine wp_ifn qf_115 ?_
              refine wp_lt ql_R_18_1 ?_
              refine wp_lt (Eq.trans (gI_a rfl) (Eq.trans (gI_a rfl) (Eq.trans (gI_a rfl) (Eq.trans (gI_a rfl) (Eq.trans (gI_a rfl) (Eq.trans (gI_a rfl) (Eq.trans (gI_a rfl) (Eq.trans (gI_a rfl) (Eq.trans (gI_a rfl) (Eq.trans (gI_a rfl) ql_I_18_2)))))))))) ?_
              refine wp_gd ql_K_20 ?_
              refine wp_gd (gZi ql_Z_20 qf_122) ?_
              refine wp_lt (gRk qf_32 ql_R_20_0) ?_
              refine wp_gd ql_K_21 ?_
              refine wp_bd ?_
              refine wp_of (f_X3_begin.eq_1 ..) ?_
              refine wp_gd ql_K_21 ?_
              refine wp_gd qf_191 ?_
              refine wp_zI ?_
              refine wp_zI ?_
              refine wp_zI ?_
              refine wp_ret_bd ?_
              refine wp_gd ql_K_18 ?_
              refine wp_lt (Eq.trans (gI_a rfl) (Eq.trans (gI_a rfl) (Eq.trans (gI_a rfl) (Eq.trans (gI_a rfl) (Eq.trans (gI_a rfl) (Eq.trans (gI_a rfl) (Eq.trans (gI_a rfl) (Eq.trans (gI_a rfl) (Eq.trans (gI_a rfl) (Eq.trans (gI_a rfl) (Eq.trans (gI_a rfl) (Eq.trans (gI_a rfl) (Eq.trans (gI_a rfl) ql_I_18_2))))))))))))) ?_
              refine wp_lt qf_27 ?_
              refine wp_zI ?_
              refine wp_of (f_X0_plugIn_43.eq_1 ..) ?_
              refine wp_gd ql_K_18 ?_
              refine wp_lt gI_s ?_
              refine wp_ret_bd ?_
              refine wp_ret_bdc ?_
              refine wp_lt qf_192 ?_
              refine wp_gd ql_K_173 ?_
              refine wp_gd (gZi ql_Z_173 qf_71) ?_
              refine wp_zLk qf_32 ?_
              refine wp_ret_bd ?_
              refine wp_gd qf_0 ?_
              refine wp_lt (xsk qf_1 hy1) ?_
              refine wp_gd qf_2 ?_
              refine wp_lt (xsk qf_3 hy2) ?_
              refine wp_lt hwy2 ?_
              refine wp_gd qf_4 ?_
              refine wp_lt (xsk qf_5 hy3) ?_
              refine wp_gd ql_K_149 ?_
              refine wp_bd ?_
              refine wp_of (f2_X13_addEffect.eq_1 ..) ?_
              refine wp_bd ?_
              refine wp_of (f_X13_isDeck.eq_1 ..) ?_
              refine wp_bd ?_
              refine wp_of (f_X13_isBetween.eq_1 ..) ?_
              refine wp_ifn qf_28 ?_
              refine wp_ifn qf_43 ?_
              refine wp_of (f_X13_isBetween_15.eq_1 ..) ?_
              refine wp_gd qf_18 ?_
              refine wp_ret_bd ?_
              refine wp_gd qf_18 ?_
              refine wp_ret_bd ?_
              refine wp_ifn qf_19 ?_
              refine wp_gd (Or.inr qf_180) ?_
              refine wp_bd ?_
              refine wp_of (f2_J0_indexOf_0f7a4.eq_1 ..) ?_
              refine wp_gd (Or.inr qf_180) ?_
              refine wp_bd ?_
              refine wp_of (f2_J0_indexOf_7cf53.eq_1 ..) ?_
              refine wp_gd (Or.inr qf_180) ?_
              refine wp_bd ?_
              refine wp_of (f2_J0_isLatin1_aae02.eq_1 ..) ?_
              refine wp_ifn qf_19 ?_
              refine wp_gd (Or.inr qf_180) ?_
              refine wp_lt (ifR qf_181 rfl) ?_
              refine wp_ifp qf_15 ?_
              refine wp_of (f2_J0_isLatin1_aae02_18.eq_1 ..) ?_
              refine wp_gd qf_18 ?_
              refine wp_ret_bd ?_
              refine wp_ifn qf_19 ?_
              refine wp_gd (Or.inr qf_180) ?_
              refine wp_lt (ifR qf_181 qf_182) ?_
              refine wp_gd (Or.inr qf_180) ?_
              refine wp_bd ?_
              refine wp_of (f2_J0_length_8abf5.eq_1 ..) ?_
              refine wp_gd (Or.inr qf_180) ?_
              refine wp_lt (ifR qf_181 qf_182) ?_
              refine wp_gd (Or.inr qf_183) ?_
              refine wp_lt (zbo (zbK qf_184 qf_185) qf_121) ?_
              refine wp_gd (Or.inr qf_180) ?_
              refine wp_bd ?_
              refine wp_of (f2_J0_coder_7d493.eq_1 ..) ?_
              refine wp_ifn qf_19 ?_
              refine wp_gd (Or.inr qf_180) ?_
              refine wp_lt (ifR qf_181 rfl) ?_
              refine wp_of (f2_J0_coder_7d493_14.eq_1 ..) ?_
              refine wp_gd qf_138 ?_
              refine wp_ret_bd ?_
              refine wp_lt qf_139 ?_
              refine wp_ret_bd ?_
              refine wp_bd ?_
              refine wp_of (f2_J1_indexOf_4cfef.eq_1 ..) ?_
              refine wp_bd ?_
              refine wp_of (f_J1_canEncode_9a6ad.eq_1 ..) ?_
              refine wp_ifn qf_186 ?_
              refine wp_ifn qf_187 ?_
              refine wp_of (f_J1_canEncode_9a6ad_16.eq_1 ..) ?_
              refine wp_gd qf_18 ?_
              refine wp_ret_bd ?_
              refine wp_ifn qf_19 ?_
              refine wp_lt qf_142 ?_
              refine wp_gd (Or.inr qf_183) ?_
              refine wp_lt (zbo (zbK qf_184 qf_185) qf_121) ?_
              refine wp_lt qf_143 ?_
              refine wp_ifp qf_144 ?_
              refine wp_bd ?_
              refine wp_of (f2_J1_indexOfChar_4cfef.eq_1 ..) ?_
              refine wp_lt qf_188 ?_
              refine wp_of (f2_J1_indexOfChar_4cfef_7.eq_2 ..) ?_
              refine wp_ifn qf_115 ?_
              refine wp_gd (Or.inr qf_183) ?_
              refine wp_gd (zbi (zbK qf_184 qf_185) qf_122) ?_
              refine wp_lt (ibk qf_32 (ibK qf_184 qf_189)) ?_
              refine wp_ifp qf_190 ?_
              refine wp_ret_bd ?_
              refine wp_ret_bd ?_
              refine wp_of (f2_J0_indexOf_7cf53_36.eq_1 ..) ?_
              refine wp_ret_bd ?_
              refine wp_ret_bd ?_
              refine wp_ifn qf_28 ?_
              refine wp_bd ?_
              refine wp_of (f_X13_isBetween.eq_1 ..) ?_
              refine wp_ifn c4 ?_
              refine wp_ifn c5 ?_
              refine wp_of (f_X13_isBetween_15.eq_1 ..) ?_
              refine wp_gd qf_18 ?_
              refine wp_ret_bd ?_
              refine wp_ifn qf_19 ?_
              refine wp_gd ql_K_149 ?_
              refine wp_lt ql_R_149_2 ?_
              refine wp_gd ql_K_151 ?_
              refine wp_gd (gZi ql_Z_151 qf_97) ?_
              refine wp_lt (gRk qf_32 ql_R_151_0) ?_
              refine wp_gd ql_K_152 ?_
              refine wp_lt ql_R_152_8 ?_
              refine wp_gd ql_K_155 ?_
              refine wp_bd ?_
              refine wp_of (f_Jx4a65c_size_8abf5.eq_1 ..) ?_
              refine wp_gd ql_K_155 ?_
              refine wp_lt (Eq.trans (gI_a rfl) (Eq.trans (gI_a rfl) (Eq.trans (gI_a rfl) (Eq.trans (gI_a rfl) (Eq.trans (gI_a rfl) (Eq.trans (gI_a rfl) (Eq.trans (gI_a rfl) (Eq.trans (gI_a rfl) (Eq.trans (gI_a rfl) (Eq.trans (gI_a rfl) (Eq.trans (gI_a rfl) (Eq.trans (gI_a rfl) (Eq.trans (gI_a rfl) (Eq.trans (gI_a rfl) ql_I_155_2)))))))))))))) ?_
              refine wp_ret_bd ?_
              refine wp_ifn qf_193 ?_
              refine wp_of (f2_X13_addEffect_58.eq_1 ..) ?_
              refine wp_gd ql_K_149 ?_
              refine wp_bd ?_
              refine wp_of (f_X13_isWrong.eq_1 ..) ?_
              refine wp_gd ql_K_149 ?_
              refine wp_zI ?_
              refine wp_ifp qf_73 ?_
              refine wp_of (f_X13_isWrong_14.eq_1 ..) ?_
              refine wp_gd qf_14 ?_
              refine wp_ret_bd ?_
              refine wp_ifp qf_15 ?_
              refine wp_gd ql_K_149 ?_
              refine wp_lt ql_R_149_2 ?_
              refine wp_gd ql_K_151 ?_
              refine wp_gd (gZi ql_Z_151 qf_97) ?_
              refine wp_lt (gRk qf_32 ql_R_151_0) ?_
              refine wp_gd ql_K_152 ?_
              refine wp_lt ql_R_152_8 ?_
              refine wp_gd (gNk (n := 174) qf_74) ?_
              refine wp_zW (m := 175) rfl ?_
              refine wp_lt (show _ = 175 from rfl) ?_
              refine wp_gd (gZi gZ_n qf_122) ?_
              refine wp_zIk qf_32 ?_
              refine wp_gd (gZi gZ_n qf_125) ?_
              refine wp_zIk qf_36 ?_
              refine wp_gd (gZi gZ_n qf_127) ?_
              refine wp_zIk qf_41 ?_
              refine wp_gd (Eq.trans (gK_w rfl) ql_K_155) ?_
              refine wp_bd ?_
              refine wp_of (f2_Jx4a65c_add_9ea2d.eq_1 ..) ?_
              refine wp_gd (Eq.trans (gK_w rfl) ql_K_155) ?_
              refine wp_lt (Eq.trans (gI_a rfl) (Eq.trans (gI_a rfl) (Eq.trans (gI_a rfl) (Eq.trans (gI_w rfl) (Eq.trans (gI_a rfl) (Eq.trans (gI_a rfl) (Eq.trans (gI_a rfl) (Eq.trans (gI_a rfl) (Eq.trans (gI_a rfl) (Eq.trans (gI_a rfl) (Eq.trans (gI_a rfl) (Eq.trans (gI_a rfl) (Eq.trans (gI_a rfl) (Eq.trans (gI_a rfl) (Eq.trans (gI_a rfl) (Eq.trans (gI_a rfl) (Eq.trans (gI_a rfl) (Eq.trans (gI_a rfl) (Eq.trans (gI_a rfl) ql_I_155_0))))))))))))))))))) ?_
              refine wp_lt qf_27 ?_
              refine wp_zI ?_
              refine wp_lt (Eq.trans (gR_w rfl) ql_R_155_1) ?_
              refine wp_lt (Eq.trans (gI_b rfl) (Eq.trans (gI_a rfl) (Eq.trans (gI_a rfl) (Eq.trans (gI_a rfl) (Eq.trans (gI_w rfl) (Eq.trans (gI_a rfl) (Eq.trans (gI_a rfl) (Eq.trans (gI_a rfl) (Eq.trans (gI_a rfl) (Eq.trans (gI_a rfl) (Eq.trans (gI_a rfl) (Eq.trans (gI_a rfl) (Eq.trans (gI_a rfl) (Eq.trans (gI_a rfl) (Eq.trans (gI_a rfl) (Eq.trans (gI_a rfl) (Eq.trans (gI_a rfl) (Eq.trans (gI_a rfl) (Eq.trans (gI_a rfl) (Eq.trans (gI_a rfl) ql_I_155_2)))))))))))))))))))) ?_
              refine wp_bd ?_
              refine wp_of (f2_Jx4a65c_add_72be8.eq_1 ..) ?_
              refine wp_ifp qf_75 ?_
              refine wp_ifp qf_15 ?_
              refine wp_gd (Eq.trans (gK_w rfl) ql_K_155) ?_
              refine wp_bd ?_
              refine wp_of (f2_Jx4a65c_grow_d5877.eq_1 ..) ?_
              refine wp_gd (Eq.trans (gK_w rfl) ql_K_155) ?_
              refine wp_lt (Eq.trans (gI_b rfl) (Eq.trans (gI_a rfl) (Eq.trans (gI_a rfl) (Eq.trans (gI_a rfl) (Eq.trans (gI_w rfl) (Eq.trans (gI_a rfl) (Eq.trans (gI_a rfl) (Eq.trans (gI_a rfl) (Eq.trans (gI_a rfl) (Eq.trans (gI_a rfl) (Eq.trans (gI_a rfl) (Eq.trans (gI_a rfl) (Eq.trans (gI_a rfl) (Eq.trans (gI_a rfl) (Eq.trans (gI_a rfl) (Eq.trans (gI_a rfl) (Eq.trans (gI_a rfl) (Eq.trans (gI_a rfl) (Eq.trans (gI_a rfl) (Eq.trans (gI_a rfl) ql_I_155_2)))))))))))))))))))) ?_
              refine wp_lt qf_27 ?_
              refine wp_bd ?_
              refine wp_of (f2_Jx4a65c_grow_92f84.eq_1 ..) ?_
              refine wp_gd (Eq.trans (gK_w rfl) ql_K_155) ?_
              refine wp_lt (Eq.trans (gR_w rfl) ql_R_155_1) ?_
              refine wp_ifp qf_75 ?_
              refine wp_ifn qf_28 ?_
              refine wp_lt (Eq.trans (gR_w rfl) ql_R_155_1) ?_
              refine wp_gd qf_76 ?_
              refine wp_ifp qf_75 ?_
              refine wp_lt qf_77 ?_
              refine wp_ifp qf_78 ?_
              refine wp_gd (gNk (n := 175) qf_79) ?_
              refine wp_zW (m := 176) rfl ?_
              refine wp_lt (show _ = 176 from rfl) ?_
              refine wp_gd (Eq.trans (gK_w rfl) (Eq.trans (gK_w rfl) ql_K_155)) ?_
              refine wp_zR ?_
              refine wp_ret_bd ?_
              refine wp_ret_bd ?_
              refine wp_of (f2_Jx4a65c_add_72be8_11.eq_1 ..) ?_
              refine wp_gd gK_n ?_
              refine wp_gd (gZi gZ_n qf_80) ?_
              refine wp_ifn (neK (Eq.trans (gK_w rfl) gK_n) qf_194) ?_
              refine wp_gd (Eq.trans (gK_w rfl) gK_n) ?_
              refine wp_zRk qf_32 ?_
              refine wp_lt qf_27 ?_
              refine wp_gd (Eq.trans (gK_w rfl) (Eq.trans (gK_w rfl) ql_K_155)) ?_
              refine wp_zI ?_
              refine wp_ret_bd ?_
              refine wp_ret_bd ?_
              refine wp_gd (Eq.trans (gK_w rfl) (Eq.trans (gK_w rfl) ql_K_149)) ?_
              refine wp_bd ?_
              refine wp_of (f_X13_logs.eq_1 ..) ?_
              refine wp_gd (Eq.trans (gK_w rfl) (Eq.trans (gK_w rfl) ql_K_149)) ?_
              refine wp_lt (Eq.trans (gI_a rfl) (Eq.trans (gI_w rfl) (Eq.trans (gI_a rfl) (Eq.trans (gI_a rfl) (Eq.trans (gI_a rfl) (Eq.trans (gI_a rfl) (Eq.trans (gI_w rfl) (Eq.trans (gI_b rfl) (Eq.trans (gI_a rfl) (Eq.trans (gI_a rfl) (Eq.trans (gI_a rfl) (Eq.trans (gI_a rfl) (Eq.trans (gI_a rfl) (Eq.trans (gI_a rfl) (Eq.trans (gI_a rfl) (Eq.trans (gI_a rfl) (Eq.trans (gI_a rfl) (Eq.trans (gI_a rfl) (Eq.trans (gI_a rfl) (Eq.trans (gI_a rfl) (Eq.trans (gI_a rfl) (Eq.trans (gI_a rfl) ql_I_149_16)))))))))))))))))))))) ?_
              refine wp_lt qf_27 ?_
              refine wp_zI ?_
              refine wp_ret_bd ?_
              refine wp_gd (Eq.trans (gK_w rfl) (Eq.trans (gK_w rfl) ql_K_149)) ?_
              refine wp_lt (Eq.trans (gR_a rfl) (Eq.trans (gR_a rfl) (Eq.trans (gR_w rfl) (Eq.trans (gR_w rfl) ql_R_149_2)))) ?_
              refine wp_gd (Eq.trans (gK_w rfl) (Eq.trans (gK_w rfl) ql_K_151)) ?_
              refine wp_gd (gZi (Eq.trans (gZ_w rfl) (Eq.trans (gZ_w rfl) ql_Z_151)) qf_97) ?_
              refine wp_lt (gRk qf_32 (Eq.trans (gR_a rfl) (Eq.trans (gR_a rfl) (Eq.trans (gR_w rfl) (Eq.trans (gR_w rfl) ql_R_151_0))))) ?_
              refine wp_gd (Eq.trans (gK_w rfl) (Eq.trans (gK_w rfl) ql_K_152)) ?_
              refine wp_lt (Eq.trans (gR_a rfl) (Eq.trans (gR_a rfl) (Eq.trans (gR_w rfl) (Eq.trans (gR_w rfl) ql_R_152_8)))) ?_
              refine wp_gd (Eq.trans (gK_w rfl) (Eq.trans (gK_w rfl) ql_K_155)) ?_
              refine wp_bd ?_
              refine wp_of (f_Jx4a65c_size_8abf5.eq_1 ..) ?_
              refine wp_gd (Eq.trans (gK_w rfl) (Eq.trans (gK_w rfl) ql_K_155)) ?_
              refine wp_lt (Eq.trans (gI_a rfl) gI_s) ?_
              refine wp_ret_bd ?_
              refine wp_ret_bd ?_
              refine wp_gd (Eq.trans (gK_w rfl) (Eq.trans (gK_w rfl) ql_K_149)) ?_
              refine wp_bd ?_
              refine wp_of (f_X13_thrown.eq_1 ..) ?_
              refine wp_gd (Eq.trans (gK_w rfl) (Eq.trans (gK_w rfl) ql_K_149)) ?_
              refine wp_lt (Eq.trans (gI_b rfl) (Eq.trans (gI_a rfl) (Eq.trans (gI_w rfl) (Eq.trans (gI_a rfl) (Eq.trans (gI_a rfl) (Eq.trans (gI_a rfl) (Eq.trans (gI_a rfl) (Eq.trans (gI_w rfl) gI_s)))))))) ?_
              refine wp_ret_bd ?_
              refine wp_ifp qf_15 ?_
              refine wp_ifp qf_15 ?_
              refine wp_gd (Eq.trans (gK_w rfl) (Eq.trans (gK_w rfl) ql_K_173)) ?_
              refine wp_gd (gZi (Eq.trans (gZ_w rfl) (Eq.trans (gZ_w rfl) ql_Z_173)) qf_71) ?_
              refine wp_lt (gLk qf_32 (Eq.trans (gL_w rfl) (Eq.trans (gL_w rfl) gL_s))) ?_
              refine wp_lt qf_192 ?_
              refine wp_lt qf_195 ?_
              refine wp_ifp qf_15 ?_
              refine wp_of (f_L_law_2104.eq_1 ..) ?_
              refine wp_of (f_L_law_3632.eq_1 ..) ?_
              refine wp_lt qf_21 ?_
              exact hrc _
        · skip
          refine wp_if (fun c4 => ?_) (fun c4 => ?_)
          · skip
            subst c4
            refine wp_of (f_X10_addEffect_25.eq_1 ..) ?_
            refine wp_of (f_X10_addEffect_30.eq_1 ..) ?_
            refine wp_bd ?_
            refine wp_of (f_X10_demand.eq_1 ..) ?_
            refine wp_ifn qf_19 ?_
            refine wp_ret_bd ?_
            refine wp_bd ?_
            refine wp_of (f_X10_isIn.eq_1 ..) ?_
            refine wp_if (fun c5 => ?_) (fun c5 => ?_)
            · skip
              refine wp_of (f_X10_isIn_14.eq_1 ..) ?_
              refine wp_of (f_X10_isIn_15.eq_1 ..) ?_
              refine wp_gd qf_14 ?_
              refine wp_ret_bd ?_
              refine wp_bd ?_
              refine wp_of (f_X10_demand.eq_1 ..) ?_
              refine wp_ifp qf_15 ?_
              refine wp_rs_bd ?_
              refine wp_rs_bdc ?_
              refine wp_ifn qf_113 ?_
              refine wp_ifp qf_16 ?_
              refine wp_ret_bd ?_
              refine wp_gd qf_0 ?_
              refine wp_lt (xsk qf_1 hy1) ?_
              refine wp_gd qf_2 ?_
              refine wp_lt (xsk qf_3 hy2) ?_
              refine wp_lt hwy2 ?_
              refine wp_gd qf_4 ?_
              refine wp_lt (xsk qf_5 hy3) ?_
              refine wp_gd ql_K_149 ?_
              refine wp_bd ?_
              refine wp_of (f2_X13_addEffect.eq_1 ..) ?_
              refine wp_bd ?_
              refine wp_of (f_X13_isDeck.eq_1 ..) ?_
              refine wp_bd ?_
              refine wp_of (f_X13_isBetween.eq_1 ..) ?_
              refine wp_ifn qf_28 ?_
              refine wp_ifn qf_43 ?_
              refine wp_of (f_X13_isBetween_15.eq_1 ..) ?_
              refine wp_gd qf_18 ?_
              refine wp_ret_bd ?_
              refine wp_gd qf_18 ?_
              refine wp_ret_bd ?_
              refine wp_ifn qf_19 ?_
              refine wp_gd (Or.inr qf_180) ?_
              refine wp_bd ?_
              refine wp_of (f2_J0_indexOf_0f7a4.eq_1 ..) ?_
              refine wp_gd (Or.inr qf_180) ?_
              refine wp_bd ?_
              refine wp_of (f2_J0_indexOf_7cf53.eq_1 ..) ?_
              refine wp_gd (Or.inr qf_180) ?_
              refine wp_bd ?_
              refine wp_of (f2_J0_isLatin1_aae02.eq_1 ..) ?_
              refine wp_ifn qf_19 ?_
              refine wp_gd (Or.inr qf_180) ?_
              refine wp_lt (ifR qf_181 rfl) ?_
              refine wp_ifp qf_15 ?_
              refine wp_of (f2_J0_isLatin1_aae02_18.eq_1 ..) ?_
              refine wp_gd qf_18 ?_
              refine wp_ret_bd ?_
              refine wp_ifn qf_19 ?_
              refine wp_gd (Or.inr qf_180) ?_
              refine wp_lt (ifR qf_181 qf_182) ?_
              refine wp_gd (Or.inr qf_180) ?_
              refine wp_bd ?_
              refine wp_of (f2_J0_length_8abf5.eq_1 ..) ?_
              refine wp_gd (Or.inr qf_180) ?_
              refine wp_lt (ifR qf_181 qf_182) ?_
              refine wp_gd (Or.inr qf_183) ?_
              refine wp_lt (zbo (zbK qf_184 qf_185) qf_121) ?_
              refine wp_gd (Or.inr qf_180) ?_
              refine wp_bd ?_
              refine wp_of (f2_J0_coder_7d493.eq_1 ..) ?_
              refine wp_ifn qf_19 ?_
              refine wp_gd (Or.inr qf_180) ?_
              refine wp_lt (ifR qf_181 rfl) ?_
              refine wp_of (f2_J0_coder_7d493_14.eq_1 ..) ?_
              refine wp_gd qf_138 ?_
              refine wp_ret_bd ?_
              refine wp_lt qf_139 ?_
              refine wp_ret_bd ?_
              refine wp_bd ?_
              refine wp_of (f2_J1_indexOf_4cfef.eq_1 ..) ?_
              refine wp_bd ?_
              refine wp_of (f_J1_canEncode_9a6ad.eq_1 ..) ?_
              refine wp_ifn qf_159 ?_
              refine wp_ifn qf_160 ?_
              refine wp_of (f_J1_canEncode_9a6ad_16.eq_1 ..) ?_
              refine wp_gd qf_18 ?_
              refine wp_ret_bd ?_
              refine wp_ifn qf_19 ?_
              refine wp_lt qf_142 ?_
              refine wp_gd (Or.inr qf_183) ?_
              refine wp_lt (zbo (zbK qf_184 qf_185) qf_121) ?_
              refine wp_lt qf_143 ?_
              refine wp_ifp qf_144 ?_
              refine wp_bd ?_
              refine wp_of (f2_J1_indexOfChar_4cfef.eq_1 ..) ?_
              refine wp_lt qf_161 ?_
              refine wp_of (f2_J1_indexOfChar_4cfef_7.eq_2 ..) ?_
              refine wp_ifn qf_115 ?_
              refine wp_gd (Or.inr qf_183) ?_
              refine wp_gd (zbi (zbK qf_184 qf_185) qf_122) ?_
              refine wp_lt (ibk qf_32 (ibK qf_184 qf_189)) ?_
              refine wp_ifn qf_196 ?_
              refine wp_lt qf_153 ?_
              refine wp_of (f2_J1_indexOfChar_4cfef_7.eq_2 ..) ?_
              refine wp_ifn qf_154 ?_
              refine wp_gd (Or.inr qf_183) ?_
              refine wp_gd (zbi (zbK qf_184 qf_185) qf_125) ?_
              refine wp_lt (ibk qf_36 (ibK qf_184 qf_197)) ?_
              refine wp_ifp qf_167 ?_
              refine wp_ret_bd ?_
              refine wp_ret_bd ?_
              refine wp_of (f2_J0_indexOf_7cf53_36.eq_1 ..) ?_
              refine wp_ret_bd ?_
              refine wp_ret_bd ?_
              refine wp_ifn qf_33 ?_
              refine wp_bd ?_
              refine wp_of (f_X13_isBetween.eq_1 ..) ?_
              refine wp_ifp c5 ?_
              refine wp_of (f_X13_isBetween_14.eq_1 ..) ?_
              refine wp_of (f_X13_isBetween_15.eq_1 ..) ?_
              refine wp_gd qf_14 ?_
              refine wp_ret_bd ?_
              refine wp_ifp qf_15 ?_
              refine wp_of (f2_X13_addEffect_31.eq_1 ..) ?_
              refine wp_of (f2_X13_addEffect_58.eq_1 ..) ?_
              refine wp_gd ql_K_149 ?_
              refine wp_bd ?_
              refine wp_of (f_X13_isWrong.eq_1 ..) ?_
              refine wp_gd ql_K_149 ?_
              refine wp_zI ?_
              refine wp_ifn qf_110 ?_
              refine wp_of (f_X13_isWrong_14.eq_1 ..) ?_
              refine wp_gd qf_18 ?_
              refine wp_ret_bd ?_
              refine wp_ifn qf_19 ?_
              refine wp_ret_bd ?_
              refine wp_gd ql_K_149 ?_
              refine wp_bd ?_
              refine wp_of (f_X13_thrown.eq_1 ..) ?_
              refine wp_gd ql_K_149 ?_
              refine wp_lt gI_s ?_
              refine wp_ret_bd ?_
              refine wp_ifp qf_111 ?_
              refine wp_ifn qf_112 ?_
              refine wp_of (f_L_law_2104.eq_1 ..) ?_
              refine wp_of (f_L_law_3632.eq_1 ..) ?_
              refine wp_lt qf_21 ?_
              exact hrc _
            · skip
              refine wp_if (fun c6 => ?_) (fun c6 => ?_)
              · skip
                refine wp_of (f_X10_isIn_14.eq_1 ..) ?_
                refine wp_of (f_X10_isIn_15.eq_1 ..) ?_
                refine wp_gd qf_14 ?_
                refine wp_ret_bd ?_
                refine wp_bd ?_
                refine wp_of (f_X10_demand.eq_1 ..) ?_
                refine wp_ifp qf_15 ?_
                refine wp_rs_bd ?_
                refine wp_rs_bdc ?_
                refine wp_ifn qf_113 ?_
                refine wp_ifp qf_16 ?_
                refine wp_ret_bd ?_
                refine wp_gd qf_0 ?_
                refine wp_lt (xsk qf_1 hy1) ?_
                refine wp_gd qf_2 ?_
                refine wp_lt (xsk qf_3 hy2) ?_
                refine wp_lt hwy2 ?_
                refine wp_gd qf_4 ?_
                refine wp_lt (xsk qf_5 hy3) ?_
                refine wp_gd ql_K_149 ?_
                refine wp_bd ?_
                refine wp_of (f2_X13_addEffect.eq_1 ..) ?_
                refine wp_bd ?_
                refine wp_of (f_X13_isDeck.eq_1 ..) ?_
                refine wp_bd ?_
                refine wp_of (f_X13_isBetween.eq_1 ..) ?_
                refine wp_ifn qf_28 ?_
                refine wp_ifn qf_43 ?_
                refine wp_of (f_X13_isBetween_15.eq_1 ..) ?_
                refine wp_gd qf_18 ?_
                refine wp_ret_bd ?_
                refine wp_gd qf_18 ?_
                refine wp_ret_bd ?_
                refine wp_ifn qf_19 ?_
                refine wp_gd (Or.inr qf_180) ?_
                refine wp_bd ?_
                refine wp_of (f2_J0_indexOf_0f7a4.eq_1 ..) ?_
                refine wp_gd (Or.inr qf_180) ?_
                refine wp_bd ?_
                refine wp_of (f2_J0_indexOf_7cf53.eq_1 ..) ?_
                refine wp_gd (Or.inr qf_180) ?_
                refine wp_bd ?_
                refine wp_of (f2_J0_isLatin1_aae02.eq_1 ..) ?_
                refine wp_ifn qf_19 ?_
                refine wp_gd (Or.inr qf_180) ?_
                refine wp_lt (ifR qf_181 rfl) ?_
                refine wp_ifp qf_15 ?_
                refine wp_of (f2_J0_isLatin1_aae02_18.eq_1 ..) ?_
                refine wp_gd qf_18 ?_
                refine wp_ret_bd ?_
                refine wp_ifn qf_19 ?_
                refine wp_gd (Or.inr qf_180) ?_
                refine wp_lt (ifR qf_181 qf_182) ?_
                refine wp_gd (Or.inr qf_180) ?_
                refine wp_bd ?_
                refine wp_of (f2_J0_length_8abf5.eq_1 ..) ?_
                refine wp_gd (Or.inr qf_180) ?_
                refine wp_lt (ifR qf_181 qf_182) ?_
                refine wp_gd (Or.inr qf_183) ?_
                refine wp_lt (zbo (zbK qf_184 qf_185) qf_121) ?_
                refine wp_gd (Or.inr qf_180) ?_
                refine wp_bd ?_
                refine wp_of (f2_J0_coder_7d493.eq_1 ..) ?_
                refine wp_ifn qf_19 ?_
                refine wp_gd (Or.inr qf_180) ?_
                refine wp_lt (ifR qf_181 rfl) ?_
                refine wp_of (f2_J0_coder_7d493_14.eq_1 ..) ?_
                refine wp_gd qf_138 ?_
                refine wp_ret_bd ?_
                refine wp_lt qf_139 ?_
                refine wp_ret_bd ?_
                refine wp_bd ?_
                refine wp_of (f2_J1_indexOf_4cfef.eq_1 ..) ?_
                refine wp_bd ?_
                refine wp_of (f_J1_canEncode_9a6ad.eq_1 ..) ?_
                refine wp_ifn qf_159 ?_
                refine wp_ifn qf_160 ?_
                refine wp_of (f_J1_canEncode_9a6ad_16.eq_1 ..) ?_
                refine wp_gd qf_18 ?_
                refine wp_ret_bd ?_
                refine wp_ifn qf_19 ?_
                refine wp_lt qf_142 ?_
                refine wp_gd (Or.inr qf_183) ?_
                refine wp_lt (zbo (zbK qf_184 qf_185) qf_121) ?_
                refine wp_lt qf_143 ?_
                refine wp_ifp qf_144 ?_
                refine wp_bd ?_
                refine wp_of (f2_J1_indexOfChar_4cfef.eq_1 ..) ?_
                refine wp_lt qf_161 ?_
                refine wp_of (f2_J1_indexOfChar_4cfef_7.eq_2 ..) ?_
                refine wp_ifn qf_115 ?_
                refine wp_gd (Or.inr qf_183) ?_
                refine wp_gd (zbi (zbK qf_184 qf_185) qf_122) ?_
                refine wp_lt (ibk qf_32 (ibK qf_184 qf_189)) ?_
                refine wp_ifn qf_196 ?_
                refine wp_lt qf_153 ?_
                refine wp_of (f2_J1_indexOfChar_4cfef_7.eq_2 ..) ?_
                refine wp_ifn qf_154 ?_
                refine wp_gd (Or.inr qf_183) ?_
                refine wp_gd (zbi (zbK qf_184 qf_185) qf_125) ?_
                refine wp_lt (ibk qf_36 (ibK qf_184 qf_197)) ?_
                refine wp_ifp qf_167 ?_
                refine wp_ret_bd ?_
                refine wp_ret_bd ?_
                refine wp_of (f2_J0_indexOf_7cf53_36.eq_1 ..) ?_
                refine wp_ret_bd ?_
                refine wp_ret_bd ?_
                refine wp_ifn qf_33 ?_
                refine wp_bd ?_
                refine wp_of (f_X13_isBetween.eq_1 ..) ?_
                refine wp_ifn c5 ?_
                refine wp_ifp c6 ?_
                refine wp_of (f_X13_isBetween_14.eq_1 ..) ?_
                refine wp_of (f_X13_isBetween_15.eq_1 ..) ?_
                refine wp_gd qf_14 ?_
                refine wp_ret_bd ?_
                refine wp_ifp qf_15 ?_
                refine wp_of (f2_X13_addEffect_31.eq_1 ..) ?_
                refine wp_of (f2_X13_addEffect_58.eq_1 ..) ?_
                refine wp_gd ql_K_149 ?_
                refine wp_bd ?_
                refine wp_of (f_X13_isWrong.eq_1 ..) ?_
                refine wp_gd ql_K_149 ?_
                refine wp_zI ?_
                refine wp_ifn qf_110 ?_
                refine wp_of (f_X13_isWrong_14.eq_1 ..) ?_
                refine wp_gd qf_18 ?_
                refine wp_ret_bd ?_
                refine wp_ifn qf_19 ?_
                refine wp_ret_bd ?_
                refine wp_gd ql_K_149 ?_
                refine wp_bd ?_
                refine wp_of (f_X13_thrown.eq_1 ..) ?_
                refine wp_gd ql_K_149 ?_
                refine wp_lt gI_s ?_
                refine wp_ret_bd ?_
                refine wp_ifp qf_111 ?_
                refine wp_ifn qf_112 ?_
                refine wp_of (f_L_law_2104.eq_1 ..) ?_
                refine wp_of (f_L_law_3632.eq_1 ..) ?_
                refine wp_lt qf_21 ?_
                exact hrc _
              · skip
                refine wp_of (f_X10_isIn_15.eq_1 ..) ?_
                refine wp_gd qf_18 ?_
                refine wp_ret_bd ?_
                refine wp_bd ?_
                refine wp_of (f_X10_demand.eq_1 ..) ?_
                refine wp_ifn qf_19 ?_
                refine wp_ret_bd ?_
                refine wp_gd ql_K_17 ?_
                refine wp_lt ql_R_17_0 ?_
                refine wp_gd ql_K_18 ?_
                refine wp_lt ql_I_18_2 ?_
                refine wp_lt ql_R_17_0 ?_
                refine wp_gd ql_K_18 ?_
                refine wp_lt ql_R_18_1 ?_
                refine wp_gd ql_K_20 ?_
                refine wp_lt (gZo ql_Z_20 qf_121) ?_
                refine wp_ifp qf_144 ?_
                refine wp_gd ql_K_1 ?_
                refine wp_lt ql_R_1_2 ?_
                refine wp_gd ql_K_106 ?_
                refine wp_bd ?_
                refine wp_of (f_X6_note.eq_1 ..) ?_
                refine wp_gd ql_K_106 ?_
                refine wp_bd ?_
                refine wp_of (f_X6_open.eq_1 ..) ?_
                refine wp_gd ql_K_106 ?_
                refine wp_lt ql_I_106_2 ?_
                refine wp_lt qf_25 ?_
                refine wp_zI ?_
                refine wp_lt (Eq.trans (gI_b rfl) ql_I_106_2) ?_
                refine wp_ifn qf_26 ?_
                refine wp_lt (Eq.trans (gI_b rfl) ql_I_106_2) ?_
                refine wp_lt qf_27 ?_
                refine wp_zI ?_
                refine wp_of (f_X6_open_31.eq_1 ..) ?_
                refine wp_gd ql_K_106 ?_
                refine wp_bd ?_
                refine wp_of (f_X6_put.eq_1 ..) ?_
                refine wp_gd ql_K_106 ?_
                refine wp_lt (Eq.trans (gI_b rfl) gI_s) ?_
                refine wp_ifn qf_28 ?_
                refine wp_lt (Eq.trans (gI_b rfl) gI_s) ?_
                refine wp_lt ql_R_106_0 ?_
                refine wp_gd ql_K_107 ?_
                refine wp_lt (gZo ql_Z_107 qf_29) ?_
                refine wp_ifn qf_30 ?_
                refine wp_lt ql_R_106_0 ?_
                refine wp_lt (Eq.trans (gI_b rfl) gI_s) ?_
                refine wp_gd ql_K_107 ?_
                refine wp_gd (gZi ql_Z_107 qf_31) ?_
                refine wp_zIk qf_32 ?_
                refine wp_lt (Eq.trans (gI_a rfl) (Eq.trans (gI_b rfl) gI_s)) ?_
                refine wp_lt qf_27 ?_
                refine wp_zI ?_
                refine wp_of (f_X6_put_39.eq_1 ..) ?_
                refine wp_ret_bd ?_
                refine wp_ret_bd ?_
                refine wp_gd ql_K_106 ?_
                refine wp_bd ?_
                refine wp_of (f_X6_put.eq_1 ..) ?_
                refine wp_gd ql_K_106 ?_
                refine wp_lt gI_s ?_
                refine wp_ifn qf_33 ?_
                refine wp_lt gI_s ?_
                refine wp_lt ql_R_106_0 ?_
                refine wp_gd ql_K_107 ?_
                refine wp_lt (gZo ql_Z_107 qf_29) ?_
                refine wp_ifn qf_34 ?_
                refine wp_lt ql_R_106_0 ?_
                refine wp_lt gI_s ?_
                refine wp_gd ql_K_107 ?_
                refine wp_gd (gZi ql_Z_107 qf_35) ?_
                refine wp_zIk qf_36 ?_
                refine wp_lt (Eq.trans (gI_a rfl) gI_s) ?_
                refine wp_lt qf_37 ?_
                refine wp_zI ?_
                refine wp_of (f_X6_put_39.eq_1 ..) ?_
                refine wp_ret_bd ?_
                refine wp_gd ql_K_106 ?_
                refine wp_bd ?_
                refine wp_of (f_X6_put.eq_1 ..) ?_
                refine wp_gd ql_K_106 ?_
                refine wp_lt gI_s ?_
                refine wp_ifn qf_38 ?_
                refine wp_lt gI_s ?_
                refine wp_lt ql_R_106_0 ?_
                refine wp_gd ql_K_107 ?_
                refine wp_lt (gZo ql_Z_107 qf_29) ?_
                refine wp_ifn qf_39 ?_
                refine wp_lt ql_R_106_0 ?_
                refine wp_lt gI_s ?_
                refine wp_gd ql_K_107 ?_
                refine wp_gd (gZi ql_Z_107 qf_40) ?_
                refine wp_zIk qf_41 ?_
                refine wp_lt (Eq.trans (gI_a rfl) gI_s) ?_
                refine wp_lt qf_42 ?_
                refine wp_zI ?_
                refine wp_of (f_X6_put_39.eq_1 ..) ?_
                refine wp_ret_bd ?_
                refine wp_gd ql_K_106 ?_
                refine wp_bd ?_
                refine wp_of (f_X6_put.eq_1 ..) ?_
                refine wp_gd ql_K_106 ?_
                refine wp_lt gI_s ?_
                refine wp_ifn qf_43 ?_
                refine wp_lt gI_s ?_
                refine wp_lt ql_R_106_0 ?_
                refine wp_gd ql_K_107 ?_
                refine wp_lt (gZo ql_Z_107 qf_29) ?_
                refine wp_ifn qf_44 ?_
                refine wp_lt ql_R_106_0 ?_
                refine wp_lt gI_s ?_
                refine wp_gd ql_K_107 ?_
                refine wp_gd (gZi ql_Z_107 qf_45) ?_
                refine wp_zIk qf_46 ?_
                refine wp_lt (Eq.trans (gI_a rfl) gI_s) ?_
                refine wp_lt qf_47 ?_
                refine wp_zI ?_
                refine wp_of (f_X6_put_39.eq_1 ..) ?_
                refine wp_ret_bd ?_
                refine wp_ret_bd ?_
                refine wp_gd ql_K_17 ?_
                refine wp_lt ql_R_17_0 ?_
                refine wp_gd ql_K_18 ?_
                refine wp_bd ?_
                refine wp_of (f_X0_plugIn.eq_1 ..) ?_
                refine wp_gd ql_K_18 ?_
                refine wp_lt (Eq.trans (gI_a rfl) (Eq.trans (gI_a rfl) (Eq.trans (gI_a rfl) (Eq.trans (gI_a rfl) (Eq.trans (gI_a rfl) (Eq.trans (gI_a rfl) (Eq.trans (gI_a rfl) (Eq.trans (gI_a rfl) (Eq.trans (gI_a rfl) (Eq.trans (gI_a rfl) ql_I_18_2)))))))))) ?_
                refine wp_ifn qf_28 ?_
                refine wp_lt (Eq.trans (gI_a rfl) (Eq.trans (gI_a rfl) (Eq.trans (gI_a rfl) (Eq.trans (gI_a rfl) (Eq.trans (gI_a rfl) (Eq.trans (gI_a rfl) (Eq.trans (gI_a rfl) (Eq.trans (gI_a rfl) (Eq.trans (gI_a rfl) (Eq.trans (gI_a rfl) ql_I_18_2)))))))))) ?_
                refine wp_lt ql_R_18_1 ?_
                refine wp_gd ql_K_20 ?_
                refine wp_lt (gZo ql_Z_20 qf_121) ?_
                refine wp_ifn qf_115 ?_
                refine wp_lt ql_R_18_1 ?_
                refine wp_lt (Eq.trans (gI_a rfl) (Eq.trans (gI_a rfl) (Eq.trans (gI_a rfl) (Eq.trans (gI_a rfl) (Eq.trans (gI_a rfl) (Eq.trans (gI_a rfl) (Eq.trans (gI_a rfl) (Eq.trans (gI_a rfl) (Eq.trans (gI_a rfl) (Eq.trans (gI_a rfl) ql_I_18_2)))))))))) ?_
                refine wp_gd ql_K_20 ?_
                refine wp_gd (gZi ql_Z_20 qf_122) ?_
                refine wp_lt (gRk qf_32 ql_R_20_0) ?_
                refine wp_gd ql_K_21 ?_
                refine wp_bd ?_
                refine wp_of (f_X3_begin.eq_1 ..) ?_
                refine wp_gd ql_K_21 ?_
                refine wp_gd qf_158 ?_
                refine wp_zI ?_
                refine wp_zI ?_
                refine wp_zI ?_
                refine wp_ret_bd ?_
                refine wp_gd ql_K_18 ?_
                refine wp_lt (Eq.trans (gI_a rfl) (Eq.trans (gI_a rfl) (Eq.trans (gI_a rfl) (Eq.trans (gI_a rfl) (Eq.trans (gI_a rfl) (Eq.trans (gI_a rfl) (Eq.trans (gI_a rfl) (Eq.trans (gI_a rfl) (Eq.trans (gI_a rfl) (Eq.trans (gI_a rfl) (Eq.trans (gI_a rfl) (Eq.trans (gI_a rfl) (Eq.trans (gI_a rfl) ql_I_18_2))))))))))))) ?_
                refine wp_lt qf_27 ?_
                refine wp_zI ?_
                refine wp_of (f_X0_plugIn_43.eq_1 ..) ?_
                refine wp_gd ql_K_18 ?_
                refine wp_lt gI_s ?_
                refine wp_ret_bd ?_
                refine wp_ret_bdc ?_
                refine wp_lt qf_192 ?_
                refine wp_gd ql_K_173 ?_
                refine wp_gd (gZi ql_Z_173 qf_71) ?_
                refine wp_zLk qf_32 ?_
                refine wp_ret_bd ?_
                refine wp_gd qf_0 ?_
                refine wp_lt (xsk qf_1 hy1) ?_
                refine wp_gd qf_2 ?_
                refine wp_lt (xsk qf_3 hy2) ?_
                refine wp_lt hwy2 ?_
                refine wp_gd qf_4 ?_
                refine wp_lt (xsk qf_5 hy3) ?_
                refine wp_gd ql_K_149 ?_
                refine wp_bd ?_
                refine wp_of (f2_X13_addEffect.eq_1 ..) ?_
                refine wp_bd ?_
                refine wp_of (f_X13_isDeck.eq_1 ..) ?_
                refine wp_bd ?_
                refine wp_of (f_X13_isBetween.eq_1 ..) ?_
                refine wp_ifn qf_28 ?_
                refine wp_ifn qf_43 ?_
                refine wp_of (f_X13_isBetween_15.eq_1 ..) ?_
                refine wp_gd qf_18 ?_
                refine wp_ret_bd ?_
                refine wp_gd qf_18 ?_
                refine wp_ret_bd ?_
                refine wp_ifn qf_19 ?_
                refine wp_gd (Or.inr qf_180) ?_
                refine wp_bd ?_
                refine wp_of (f2_J0_indexOf_0f7a4.eq_1 ..) ?_
                refine wp_gd (Or.inr qf_180) ?_
                refine wp_bd ?_
                refine wp_of (f2_J0_indexOf_7cf53.eq_1 ..) ?_
                refine wp_gd (Or.inr qf_180) ?_
                refine wp_bd ?_
                refine wp_of (f2_J0_isLatin1_aae02.eq_1 ..) ?_
                refine wp_ifn qf_19 ?_
                refine wp_gd (Or.inr qf_180) ?_
                refine wp_lt (ifR qf_181 rfl) ?_
                refine wp_ifp qf_15 ?_
                refine wp_of (f2_J0_isLatin1_aae02_18.eq_1 ..) ?_
                refine wp_gd qf_18 ?_
                refine wp_ret_bd ?_
                refine wp_ifn qf_19 ?_
                refine wp_gd (Or.inr qf_180) ?_
                refine wp_lt (ifR qf_181 qf_182) ?_
                refine wp_gd (Or.inr qf_180) ?_
                refine wp_bd ?_
                refine wp_of (f2_J0_length_8abf5.eq_1 ..) ?_
                refine wp_gd (Or.inr qf_180) ?_
                refine wp_lt (ifR qf_181 qf_182) ?_
                refine wp_gd (Or.inr qf_183) ?_
                refine wp_lt (zbo (zbK qf_184 qf_185) qf_121) ?_
                refine wp_gd (Or.inr qf_180) ?_
                refine wp_bd ?_
                refine wp_of (f2_J0_coder_7d493.eq_1 ..) ?_
                refine wp_ifn qf_19 ?_
                refine wp_gd (Or.inr qf_180) ?_
                refine wp_lt (ifR qf_181 rfl) ?_
                refine wp_of (f2_J0_coder_7d493_14.eq_1 ..) ?_
                refine wp_gd qf_138 ?_
                refine wp_ret_bd ?_
                refine wp_lt qf_139 ?_
                refine wp_ret_bd ?_
                refine wp_bd ?_
                refine wp_of (f2_J1_indexOf_4cfef.eq_1 ..) ?_
                refine wp_bd ?_
                refine wp_of (f_J1_canEncode_9a6ad.eq_1 ..) ?_
                refine wp_ifn qf_159 ?_
                refine wp_ifn qf_160 ?_
                refine wp_of (f_J1_canEncode_9a6ad_16.eq_1 ..) ?_
                refine wp_gd qf_18 ?_
                refine wp_ret_bd ?_
                refine wp_ifn qf_19 ?_
                refine wp_lt qf_142 ?_
                refine wp_gd (Or.inr qf_183) ?_
                refine wp_lt (zbo (zbK qf_184 qf_185) qf_121) ?_
                refine wp_lt qf_143 ?_
                refine wp_ifp qf_144 ?_
                refine wp_bd ?_
                refine wp_of (f2_J1_indexOfChar_4cfef.eq_1 ..) ?_
                refine wp_lt qf_161 ?_
                refine wp_of (f2_J1_indexOfChar_4cfef_7.eq_2 ..) ?_
                refine wp_ifn qf_115 ?_
                refine wp_gd (Or.inr qf_183) ?_
                refine wp_gd (zbi (zbK qf_184 qf_185) qf_122) ?_
                refine wp_lt (ibk qf_32 (ibK qf_184 qf_189)) ?_
                refine wp_ifn qf_196 ?_
                refine wp_lt qf_153 ?_
                refine wp_of (f2_J1_indexOfChar_4cfef_7.eq_2 ..) ?_
                refine wp_ifn qf_154 ?_
                refine wp_gd (Or.inr qf_183) ?_
                refine wp_gd (zbi (zbK qf_184 qf_185) qf_125) ?_
                refine wp_lt (ibk qf_36 (ibK qf_184 qf_197)) ?_
                refine wp_ifp qf_167 ?_
                refine wp_ret_bd ?_
                refine wp_ret_bd ?_
                refine wp_of (f2_J0_indexOf_7cf53_36.eq_1 ..) ?_
                refine wp_ret_bd ?_
                refine wp_ret_bd ?_
                refine wp_ifn qf_33 ?_
                refine wp_bd ?_
                refine wp_of (f_X13_isBetween.eq_1 ..) ?_
                refine wp_ifn c5 ?_
                refine wp_ifn c6 ?_
                refine wp_of (f_X13_isBetween_15.eq_1 ..) ?_
                refine wp_gd qf_18 ?_
                refine wp_ret_bd ?_
                refine wp_ifn qf_19 ?_
                refine wp_gd ql_K_149 ?_
                refine wp_lt ql_R_149_2 ?_
                refine wp_gd ql_K_151 ?_
                refine wp_gd (gZi ql_Z_151 qf_97) ?_
                refine wp_lt (gRk qf_32 ql_R_151_0) ?_
                refine wp_gd ql_K_152 ?_
                refine wp_lt ql_R_152_8 ?_
                refine wp_gd ql_K_155 ?_
                refine wp_bd ?_
                refine wp_of (f_Jx4a65c_size_8abf5.eq_1 ..) ?_
                refine wp_gd ql_K_155 ?_
                refine wp_lt (Eq.trans (gI_a rfl) (Eq.trans (gI_a rfl) (Eq.trans (gI_a rfl) (Eq.trans (gI_a rfl) (Eq.trans (gI_a rfl) (Eq.trans (gI_a rfl) (Eq.trans (gI_a rfl) (Eq.trans (gI_a rfl) (Eq.trans (gI_a rfl) (Eq.trans (gI_a rfl) (Eq.trans (gI_a rfl) (Eq.trans (gI_a rfl) (Eq.trans (gI_a rfl) (Eq.trans (gI_a rfl) ql_I_155_2)))))))))))))) ?_
                refine wp_ret_bd ?_
                refine wp_ifn qf_193 ?_
                refine wp_of (f2_X13_addEffect_58.eq_1 ..) ?_
                refine wp_gd ql_K_149 ?_
                refine wp_bd ?_
                refine wp_of (f_X13_isWrong.eq_1 ..) ?_
                refine wp_gd ql_K_149 ?_
                refine wp_zI ?_
                refine wp_ifp qf_73 ?_
                refine wp_of (f_X13_isWrong_14.eq_1 ..) ?_
                refine wp_gd qf_14 ?_
                refine wp_ret_bd ?_
                refine wp_ifp qf_15 ?_
                refine wp_gd ql_K_149 ?_
                refine wp_lt ql_R_149_2 ?_
                refine wp_gd ql_K_151 ?_
                refine wp_gd (gZi ql_Z_151 qf_97) ?_
                refine wp_lt (gRk qf_32 ql_R_151_0) ?_
                refine wp_gd ql_K_152 ?_
                refine wp_lt ql_R_152_8 ?_
                refine wp_gd (gNk (n := 174) qf_74) ?_
                refine wp_zW (m := 175) rfl ?_
                refine wp_lt (show _ = 175 from rfl) ?_
                refine wp_gd (gZi gZ_n qf_122) ?_
                refine wp_zIk qf_32 ?_
                refine wp_gd (gZi gZ_n qf_125) ?_
                refine wp_zIk qf_36 ?_
                refine wp_gd (gZi gZ_n qf_127) ?_
                refine wp_zIk qf_41 ?_
                refine wp_gd (Eq.trans (gK_w rfl) ql_K_155) ?_
                refine wp_bd ?_
                refine wp_of (f2_Jx4a65c_add_9ea2d.eq_1 ..) ?_
                refine wp_gd (Eq.trans (gK_w rfl) ql_K_155) ?_
                refine wp_lt (Eq.trans (gI_a rfl) (Eq.trans (gI_a rfl) (Eq.trans (gI_a rfl) (Eq.trans (gI_w rfl) (Eq.trans (gI_a rfl) (Eq.trans (gI_a rfl) (Eq.trans (gI_a rfl) (Eq.trans (gI_a rfl) (Eq.trans (gI_a rfl) (Eq.trans (gI_a rfl) (Eq.trans (gI_a rfl) (Eq.trans (gI_a rfl) (Eq.trans (gI_a rfl) (Eq.trans (gI_a rfl) (Eq.trans (gI_a rfl) (Eq.trans (gI_a rfl) (Eq.trans (gI_a rfl) (Eq.trans (gI_a rfl) (Eq.trans (gI_a rfl) ql_I_155_0))))))))))))))))))) ?_
                refine wp_lt qf_27 ?_
                refine wp_zI ?_
                refine wp_lt (Eq.trans (gR_w rfl) ql_R_155_1) ?_
                refine wp_lt (Eq.trans (gI_b rfl) (Eq.trans (gI_a rfl) (Eq.trans (gI_a rfl) (Eq.trans (gI_a rfl) (Eq.trans (gI_w rfl) (Eq.trans (gI_a rfl) (Eq.trans (gI_a rfl) (Eq.trans (gI_a rfl) (Eq.trans (gI_a rfl) (Eq.trans (gI_a rfl) (Eq.trans (gI_a rfl) (Eq.trans (gI_a rfl) (Eq.trans (gI_a rfl) (Eq.trans (gI_a rfl) (Eq.trans (gI_a rfl) (Eq.trans (gI_a rfl) (Eq.trans (gI_a rfl) (Eq.trans (gI_a rfl) (Eq.trans (gI_a rfl) (Eq.trans (gI_a rfl) ql_I_155_2)))))))))))))))))))) ?_
                refine wp_bd ?_
                refine wp_of (f2_Jx4a65c_add_72be8.eq_1 ..) ?_
                refine wp_ifp qf_75 ?_
                refine wp_ifp qf_15 ?_
                refine wp_gd (Eq.trans (gK_w rfl) ql_K_155) ?_
                refine wp_bd ?_
                refine wp_of (f2_Jx4a65c_grow_d5877.eq_1 ..) ?_
                refine wp_gd (Eq.trans (gK_w rfl) ql_K_155) ?_
                refine wp_lt (Eq.trans (gI_b rfl) (Eq.trans (gI_a rfl) (Eq.trans (gI_a rfl) (Eq.trans (gI_a rfl) (Eq.trans (gI_w rfl) (Eq.trans (gI_a rfl) (Eq.trans (gI_a rfl) (Eq.trans (gI_a rfl) (Eq.trans (gI_a rfl) (Eq.trans (gI_a rfl) (Eq.trans (gI_a rfl) (Eq.trans (gI_a rfl) (Eq.trans (gI_a rfl) (Eq.trans (gI_a rfl) (Eq.trans (gI_a rfl) (Eq.trans (gI_a rfl) (Eq.trans (gI_a rfl) (Eq.trans (gI_a rfl) (Eq.trans (gI_a rfl) (Eq.trans (gI_a rfl) ql_I_155_2)))))))))))))))))))) ?_
                refine wp_lt qf_27 ?_
                refine wp_bd ?_
                refine wp_of (f2_Jx4a65c_grow_92f84.eq_1 ..) ?_
                refine wp_gd (Eq.trans (gK_w rfl) ql_K_155) ?_
                refine wp_lt (Eq.trans (gR_w rfl) ql_R_155_1) ?_
                refine wp_ifp qf_75 ?_
                refine wp_ifn qf_28 ?_
                refine wp_lt (Eq.trans (gR_w rfl) ql_R_155_1) ?_
                refine wp_gd qf_76 ?_
                refine wp_ifp qf_75 ?_
                refine wp_lt qf_77 ?_
                refine wp_ifp qf_78 ?_
                refine wp_gd (gNk (n := 175) qf_79) ?_
                refine wp_zW (m := 176) rfl ?_
                refine wp_lt (show _ = 176 from rfl) ?_
                refine wp_gd (Eq.trans (gK_w rfl) (Eq.trans (gK_w rfl) ql_K_155)) ?_
                refine wp_zR ?_
                refine wp_ret_bd ?_
                refine wp_ret_bd ?_
                refine wp_of (f2_Jx4a65c_add_72be8_11.eq_1 ..) ?_
                refine wp_gd gK_n ?_
                refine wp_gd (gZi gZ_n qf_80) ?_
                refine wp_ifn (neK (Eq.trans (gK_w rfl) gK_n) qf_194) ?_
                refine wp_gd (Eq.trans (gK_w rfl) gK_n) ?_
                refine wp_zRk qf_32 ?_
                refine wp_lt qf_27 ?_
                refine wp_gd (Eq.trans (gK_w rfl) (Eq.trans (gK_w rfl) ql_K_155)) ?_
                refine wp_zI ?_
                refine wp_ret_bd ?_
                refine wp_ret_bd ?_
                refine wp_gd (Eq.trans (gK_w rfl) (Eq.trans (gK_w rfl) ql_K_149)) ?_
                refine wp_bd ?_
                refine wp_of (f_X13_logs.eq_1 ..) ?_
                refine wp_gd (Eq.trans (gK_w rfl) (Eq.trans (gK_w rfl) ql_K_149)) ?_
                refine wp_lt (Eq.trans (gI_a rfl) (Eq.trans (gI_w rfl) (Eq.trans (gI_a rfl) (Eq.trans (gI_a rfl) (Eq.trans (gI_a rfl) (Eq.trans (gI_a rfl) (Eq.trans (gI_w rfl) (Eq.trans (gI_b rfl) (Eq.trans (gI_a rfl) (Eq.trans (gI_a rfl) (Eq.trans (gI_a rfl) (Eq.trans (gI_a rfl) (Eq.trans (gI_a rfl) (Eq.trans (gI_a rfl) (Eq.trans (gI_a rfl) (Eq.trans (gI_a rfl) (Eq.trans (gI_a rfl) (Eq.trans (gI_a rfl) (Eq.trans (gI_a rfl) (Eq.trans (gI_a rfl) (Eq.trans (gI_a rfl) (Eq.trans (gI_a rfl) ql_I_149_16)))))))))))))))))))))) ?_
                refine wp_lt qf_27 ?_
                refine wp_zI ?_
                refine wp_ret_bd ?_
                refine wp_gd (Eq.trans (gK_w rfl) (Eq.trans (gK_w rfl) ql_K_149)) ?_
                refine wp_lt (Eq.trans (gR_a rfl) (Eq.trans (gR_a rfl) (Eq.trans (gR_w rfl) (Eq.trans (gR_w rfl) ql_R_149_2)))) ?_
                refine wp_gd (Eq.trans (gK_w rfl) (Eq.trans (gK_w rfl) ql_K_151)) ?_
                refine wp_gd (gZi (Eq.trans (gZ_w rfl) (Eq.trans (gZ_w rfl) ql_Z_151)) qf_97) ?_
                refine wp_lt (gRk qf_32 (Eq.trans (gR_a rfl) (Eq.trans (gR_a rfl) (Eq.trans (gR_w rfl) (Eq.trans (gR_w rfl) ql_R_151_0))))) ?_
                refine wp_gd (Eq.trans (gK_w rfl) (Eq.trans (gK_w rfl) ql_K_152)) ?_
                refine wp_lt (Eq.trans (gR_a rfl) (Eq.trans (gR_a rfl) (Eq.trans (gR_w rfl) (Eq.trans (gR_w rfl) ql_R_152_8)))) ?_
                refine wp_gd (Eq.trans (gK_w rfl) (Eq.trans (gK_w rfl) ql_K_155)) ?_
                refine wp_bd ?_
                refine wp_of (f_Jx4a65c_size_8abf5.eq_1 ..) ?_
                refine wp_gd (Eq.trans (gK_w rfl) (Eq.trans (gK_w rfl) ql_K_155)) ?_
                refine wp_lt (Eq.trans (gI_a rfl) gI_s) ?_
                refine wp_ret_bd ?_
                refine wp_ret_bd ?_
                refine wp_gd (Eq.trans (gK_w rfl) (Eq.trans (gK_w rfl) ql_K_149)) ?_
                refine wp_bd ?_
                refine wp_of (f_X13_thrown.eq_1 ..) ?_
                refine wp_gd (Eq.trans (gK_w rfl) (Eq.trans (gK_w rfl) ql_K_149)) ?_
                refine wp_lt (Eq.trans (gI_b rfl) (Eq.trans (gI_a rfl) (Eq.trans (gI_w rfl) (Eq.trans (gI_a rfl) (Eq.trans (gI_a rfl) (Eq.trans (gI_a rfl) (Eq.trans (gI_a rfl) (Eq.trans (gI_w rfl) gI_s)))))))) ?_
                refine wp_ret_bd ?_
                refine wp_ifp qf_15 ?_
                refine wp_ifp qf_15 ?_
                refine wp_gd (Eq.trans (gK_w rfl) (Eq.trans (gK_w rfl) ql_K_173)) ?_
                refine wp_gd (gZi (Eq.trans (gZ_w rfl) (Eq.trans (gZ_w rfl) ql_Z_173)) qf_71) ?_
                refine wp_lt (gLk qf_32 (Eq.trans (gL_w rfl) (Eq.trans (gL_w rfl) gL_s))) ?_
                refine wp_lt qf_192 ?_
                refine wp_lt qf_195 ?_
                refine wp_ifp qf_15 ?_
                refine wp_of (f_L_law_2104.eq_1 ..) ?_
                refine wp_of (f_L_law_3632.eq_1 ..) ?_
                refine wp_lt qf_21 ?_
                exact hrc _
          · skip
            refine wp_if (fun c5 => ?_) (fun c5 => ?_)
            · skip
              subst c5
              refine wp_of (f_X10_addEffect_25.eq_1 ..) ?_
              refine wp_of (f_X10_addEffect_30.eq_1 ..) ?_
              refine wp_bd ?_
              refine wp_of (f_X10_demand.eq_1 ..) ?_
              refine wp_ifn qf_19 ?_
              refine wp_ret_bd ?_
              refine wp_bd ?_
              refine wp_of (f_X10_isIn.eq_1 ..) ?_
              refine wp_if (fun c6 => ?_) (fun c6 => ?_)
              · skip
                refine wp_of (f_X10_isIn_14.eq_1 ..) ?_
                refine wp_of (f_X10_isIn_15.eq_1 ..) ?_
                refine wp_gd qf_14 ?_
                refine wp_ret_bd ?_
                refine wp_bd ?_
                refine wp_of (f_X10_demand.eq_1 ..) ?_
                refine wp_ifp qf_15 ?_
                refine wp_rs_bd ?_
                refine wp_rs_bdc ?_
                refine wp_ifn qf_113 ?_
                refine wp_ifp qf_16 ?_
                refine wp_ret_bd ?_
                refine wp_gd qf_0 ?_
                refine wp_lt (xsk qf_1 hy1) ?_
                refine wp_gd qf_2 ?_
                refine wp_lt (xsk qf_3 hy2) ?_
                refine wp_lt hwy2 ?_
                refine wp_gd qf_4 ?_
                refine wp_lt (xsk qf_5 hy3) ?_
                refine wp_gd ql_K_149 ?_
                refine wp_bd ?_
                refine wp_of (f2_X13_addEffect.eq_1 ..) ?_
                refine wp_bd ?_
                refine wp_of (f_X13_isDeck.eq_1 ..) ?_
                refine wp_bd ?_
                refine wp_of (f_X13_isBetween.eq_1 ..) ?_
                refine wp_ifn qf_28 ?_
                refine wp_ifn qf_43 ?_
                refine wp_of (f_X13_isBetween_15.eq_1 ..) ?_
                refine wp_gd qf_18 ?_
                refine wp_ret_bd ?_
                refine wp_gd qf_18 ?_
                refine wp_ret_bd ?_
                refine wp_ifn qf_19 ?_
                refine wp_gd (Or.inr qf_180) ?_
                refine wp_bd ?_
                refine wp_of (f2_J0_indexOf_0f7a4.eq_1 ..) ?_
                refine wp_gd (Or.inr qf_180) ?_
                refine wp_bd ?_
                refine wp_of (f2_J0_indexOf_7cf53.eq_1 ..) ?_
                refine wp_gd (Or.inr qf_180) ?_
                refine wp_bd ?_
                refine wp_of (f2_J0_isLatin1_aae02.eq_1 ..) ?_
                refine wp_ifn qf_19 ?_
                refine wp_gd (Or.inr qf_180) ?_
                refine wp_lt (ifR qf_181 rfl) ?_
                refine wp_ifp qf_15 ?_
                refine wp_of (f2_J0_isLatin1_aae02_18.eq_1 ..) ?_
                refine wp_gd qf_18 ?_
                refine wp_ret_bd ?_
                refine wp_ifn qf_19 ?_
                refine wp_gd (Or.inr qf_180) ?_
                refine wp_lt (ifR qf_181 qf_182) ?_
                refine wp_gd (Or.inr qf_180) ?_
                refine wp_bd ?_
                refine wp_of (f2_J0_length_8abf5.eq_1 ..) ?_
                refine wp_gd (Or.inr qf_180) ?_
                refine wp_lt (ifR qf_181 qf_182) ?_
                refine wp_gd (Or.inr qf_183) ?_
                refine wp_lt (zbo (zbK qf_184 qf_185) qf_121) ?_
                refine wp_gd (Or.inr qf_180) ?_
                refine wp_bd ?_
                refine wp_of (f2_J0_coder_7d493.eq_1 ..) ?_
                refine wp_ifn qf_19 ?_
                refine wp_gd (Or.inr qf_180) ?_
                refine wp_lt (ifR qf_181 rfl) ?_
                refine wp_of (f2_J0_coder_7d493_14.eq_1 ..) ?_
                refine wp_gd qf_138 ?_
                refine wp_ret_bd ?_
                refine wp_lt qf_139 ?_
                refine wp_ret_bd ?_
                refine wp_bd ?_
                refine wp_of (f2_J1_indexOf_4cfef.eq_1 ..) ?_
                refine wp_bd ?_
                refine wp_of (f_J1_canEncode_9a6ad.eq_1 ..) ?_
                refine wp_ifn qf_198 ?_
                refine wp_ifn qf_199 ?_
                refine wp_of (f_J1_canEncode_9a6ad_16.eq_1 ..) ?_
                refine wp_gd qf_18 ?_
                refine wp_ret_bd ?_
                refine wp_ifn qf_19 ?_
                refine wp_lt qf_142 ?_
                refine wp_gd (Or.inr qf_183) ?_
                refine wp_lt (zbo (zbK qf_184 qf_185) qf_121) ?_
                refine wp_lt qf_143 ?_
                refine wp_ifp qf_144 ?_
                refine wp_bd ?_
                refine wp_of (f2_J1_indexOfChar_4cfef.eq_1 ..) ?_
                refine wp_lt qf_200 ?_
                refine wp_of (f2_J1_indexOfChar_4cfef_7.eq_2 ..) ?_
                refine wp_ifn qf_115 ?_
                refine wp_gd (Or.inr qf_183) ?_
                refine wp_gd (zbi (zbK qf_184 qf_185) qf_122) ?_
                refine wp_lt (ibk qf_32 (ibK qf_184 qf_189)) ?_
                refine wp_ifn qf_201 ?_
                refine wp_lt qf_153 ?_
                refine wp_of (f2_J1_indexOfChar_4cfef_7.eq_2 ..) ?_
                refine wp_ifn qf_154 ?_
                refine wp_gd (Or.inr qf_183) ?_
                refine wp_gd (zbi (zbK qf_184 qf_185) qf_125) ?_
                refine wp_lt (ibk qf_36 (ibK qf_184 qf_197)) ?_
                refine wp_ifn qf_202 ?_
                refine wp_lt qf_164 ?_
                refine wp_of (f2_J1_indexOfChar_4cfef_7.eq_2 ..) ?_
                refine wp_ifn qf_165 ?_
                refine wp_gd (Or.inr qf_183) ?_
                refine wp_gd (zbi (zbK qf_184 qf_185) qf_127) ?_
                refine wp_lt (ibk qf_41 (ibK qf_184 qf_203)) ?_
                refine wp_ifp qf_204 ?_
                refine wp_ret_bd ?_
                refine wp_ret_bd ?_
                refine wp_of (f2_J0_indexOf_7cf53_36.eq_1 ..) ?_
                refine wp_ret_bd ?_
                refine wp_ret_bd ?_
                refine wp_ifn qf_38 ?_
                refine wp_bd ?_
                refine wp_of (f_X13_isBetween.eq_1 ..) ?_
                refine wp_ifp c6 ?_
                refine wp_of (f_X13_isBetween_14.eq_1 ..) ?_
                refine wp_of (f_X13_isBetween_15.eq_1 ..) ?_
                refine wp_gd qf_14 ?_
                refine wp_ret_bd ?_
                refine wp_ifp qf_15 ?_
                refine wp_of (f2_X13_addEffect_31.eq_1 ..) ?_
                refine wp_of (f2_X13_addEffect_58.eq_1 ..) ?_
                refine wp_gd ql_K_149 ?_
                refine wp_bd ?_
                refine wp_of (f_X13_isWrong.eq_1 ..) ?_
                refine wp_gd ql_K_149 ?_
                refine wp_zI ?_
                refine wp_ifn qf_110 ?_
                refine wp_of (f_X13_isWrong_14.eq_1 ..) ?_
                refine wp_gd qf_18 ?_
                refine wp_ret_bd ?_
                refine wp_ifn qf_19 ?_
                refine wp_ret_bd ?_
                refine wp_gd ql_K_149 ?_
                refine wp_bd ?_
                refine wp_of (f_X13_thrown.eq_1 ..) ?_
                refine wp_gd ql_K_149 ?_
                refine wp_lt gI_s ?_
                refine wp_ret_bd ?_
                refine wp_ifp qf_111 ?_
                refine wp_ifn qf_112 ?_
                refine wp_of (f_L_law_2104.eq_1 ..) ?_
                refine wp_of (f_L_law_3632.eq_1 ..) ?_
                refine wp_lt qf_21 ?_
                exact hrc _
              · skip
                refine wp_if (fun c7 => ?_) (fun c7 => ?_)
                · skip
                  refine wp_of (f_X10_isIn_14.eq_1 ..) ?_
                  refine wp_of (f_X10_isIn_15.eq_1 ..) ?_
                  refine wp_gd qf_14 ?_
                  refine wp_ret_bd ?_
                  refine wp_bd ?_
                  refine wp_of (f_X10_demand.eq_1 ..) ?_
                  refine wp_ifp qf_15 ?_
                  refine wp_rs_bd ?_
                  refine wp_rs_bdc ?_
                  refine wp_ifn qf_113 ?_
                  refine wp_ifp qf_16 ?_
                  refine wp_ret_bd ?_
                  refine wp_gd qf_0 ?_
                  refine wp_lt (xsk qf_1 hy1) ?_
                  refine wp_gd qf_2 ?_
                  refine wp_lt (xsk qf_3 hy2) ?_
                  refine wp_lt hwy2 ?_
                  refine wp_gd qf_4 ?_
                  refine wp_lt (xsk qf_5 hy3) ?_
                  refine wp_gd ql_K_149 ?_
                  refine wp_bd ?_
                  refine wp_of (f2_X13_addEffect.eq_1 ..) ?_
                  refine wp_bd ?_
                  refine wp_of (f_X13_isDeck.eq_1 ..) ?_
                  refine wp_bd ?_
                  refine wp_of (f_X13_isBetween.eq_1 ..) ?_
                  refine wp_ifn qf_28 ?_
                  refine wp_ifn qf_43 ?_
                  refine wp_of (f_X13_isBetween_15.eq_1 ..) ?_
                  refine wp_gd qf_18 ?_
                  refine wp_ret_bd ?_
                  refine wp_gd qf_18 ?_
                  refine wp_ret_bd ?_
                  refine wp_ifn qf_19 ?_
                  refine wp_gd (Or.inr qf_180) ?_
                  refine wp_bd ?_
                  refine wp_of (f2_J0_indexOf_0f7a4.eq_1 ..) ?_
                  refine wp_gd (Or.inr qf_180) ?_
                  refine wp_bd ?_
                  refine wp_of (f2_J0_indexOf_7cf53.eq_1 ..) ?_
                  refine wp_gd (Or.inr qf_180) ?_
                  refine wp_bd ?_
                  refine wp_of (f2_J0_isLatin1_aae02.eq_1 ..) ?_
                  refine wp_ifn qf_19 ?_
                  refine wp_gd (Or.inr qf_180) ?_
                  refine wp_lt (ifR qf_181 rfl) ?_
                  refine wp_ifp qf_15 ?_
                  refine wp_of (f2_J0_isLatin1_aae02_18.eq_1 ..) ?_
                  refine wp_gd qf_18 ?_
                  refine wp_ret_bd ?_
                  refine wp_ifn qf_19 ?_
                  refine wp_gd (Or.inr qf_180) ?_
                  refine wp_lt (ifR qf_181 qf_182) ?_
                  refine wp_gd (Or.inr qf_180) ?_
                  refine wp_bd ?_
                  refine wp_of (f2_J0_length_8abf5.eq_1 ..) ?_
                  refine wp_gd (Or.inr qf_180) ?_
                  refine wp_lt (ifR qf_181 qf_182) ?_
                  refine wp_gd (Or.inr qf_183) ?_
                  refine wp_lt (zbo (zbK qf_184 qf_185) qf_121) ?_
                  refine wp_gd (Or.inr qf_180) ?_
                  refine wp_bd ?_
                  refine wp_of (f2_J0_coder_7d493.eq_1 ..) ?_
                  refine wp_ifn qf_19 ?_
                  refine wp_gd (Or.inr qf_180) ?_
                  refine wp_lt (ifR qf_181 rfl) ?_
                  refine wp_of (f2_J0_coder_7d493_14.eq_1 ..) ?_
                  refine wp_gd qf_138 ?_
                  refine wp_ret_bd ?_
                  refine wp_lt qf_139 ?_
                  refine wp_ret_bd ?_
                  refine wp_bd ?_
                  refine wp_of (f2_J1_indexOf_4cfef.eq_1 ..) ?_
                  refine wp_bd ?_
                  refine wp_of (f_J1_canEncode_9a6ad.eq_1 ..) ?_
                  refine wp_ifn qf_198 ?_
                  refine wp_ifn qf_199 ?_
                  refine wp_of (f_J1_canEncode_9a6ad_16.eq_1 ..) ?_
                  refine wp_gd qf_18 ?_
                  refine wp_ret_bd ?_
                  refine wp_ifn qf_19 ?_
                  refine wp_lt qf_142 ?_
                  refine wp_gd (Or.inr qf_183) ?_
                  refine wp_lt (zbo (zbK qf_184 qf_185) qf_121) ?_
                  refine wp_lt qf_143 ?_
                  refine wp_ifp qf_144 ?_
                  refine wp_bd ?_
                  refine wp_of (f2_J1_indexOfChar_4cfef.eq_1 ..) ?_
                  refine wp_lt qf_200 ?_
                  refine wp_of (f2_J1_indexOfChar_4cfef_7.eq_2 ..) ?_
                  refine wp_ifn qf_115 ?_
                  refine wp_gd (Or.inr qf_183) ?_
                  refine wp_gd (zbi (zbK qf_184 qf_185) qf_122) ?_
                  refine wp_lt (ibk qf_32 (ibK qf_184 qf_189)) ?_
                  refine wp_ifn qf_201 ?_
                  refine wp_lt qf_153 ?_
                  refine wp_of (f2_J1_indexOfChar_4cfef_7.eq_2 ..) ?_
                  refine wp_ifn qf_154 ?_
                  refine wp_gd (Or.inr qf_183) ?_
                  refine wp_gd (zbi (zbK qf_184 qf_185) qf_125) ?_
                  refine wp_lt (ibk qf_36 (ibK qf_184 qf_197)) ?_
                  refine wp_ifn qf_202 ?_
                  refine wp_lt qf_164 ?_
                  refine wp_of (f2_J1_indexOfChar_4cfef_7.eq_2 ..) ?_
                  refine wp_ifn qf_165 ?_
                  refine wp_gd (Or.inr qf_183) ?_
                  refine wp_gd (zbi (zbK qf_184 qf_185) qf_127) ?_
                  refine wp_lt (ibk qf_41 (ibK qf_184 qf_203)) ?_
                  refine wp_ifp qf_204 ?_
                  refine wp_ret_bd ?_
                  refine wp_ret_bd ?_
                  refine wp_of (f2_J0_indexOf_7cf53_36.eq_1 ..) ?_
                  refine wp_ret_bd ?_
                  refine wp_ret_bd ?_
                  refine wp_ifn qf_38 ?_
                  refine wp_bd ?_
                  refine wp_of (f_X13_isBetween.eq_1 ..) ?_
                  refine wp_ifn c6 ?_
                  refine wp_ifp c7 ?_
                  refine wp_of (f_X13_isBetween_14.eq_1 ..) ?_
                  refine wp_of (f_X13_isBetween_15.eq_1 ..) ?_
                  refine wp_gd qf_14 ?_
                  refine wp_ret_bd ?_
                  refine wp_ifp qf_15 ?_
                  refine wp_of (f2_X13_addEffect_31.eq_1 ..) ?_
                  refine wp_of (f2_X13_addEffect_58.eq_1 ..) ?_
                  refine wp_gd ql_K_149 ?_
                  refine wp_bd ?_
                  refine wp_of (f_X13_isWrong.eq_1 ..) ?_
                  refine wp_gd ql_K_149 ?_
                  refine wp_zI ?_
                  refine wp_ifn qf_110 ?_
                  refine wp_of (f_X13_isWrong_14.eq_1 ..) ?_
                  refine wp_gd qf_18 ?_
                  refine wp_ret_bd ?_
                  refine wp_ifn qf_19 ?_
                  refine wp_ret_bd ?_
                  refine wp_gd ql_K_149 ?_
                  refine wp_bd ?_
                  refine wp_of (f_X13_thrown.eq_1 ..) ?_
                  refine wp_gd ql_K_149 ?_
                  refine wp_lt gI_s ?_
                  refine wp_ret_bd ?_
                  refine wp_ifp qf_111 ?_
                  refine wp_ifn qf_112 ?_
                  refine wp_of (f_L_law_2104.eq_1 ..) ?_
                  refine wp_of (f_L_law_3632.eq_1 ..) ?_
                  refine wp_lt qf_21 ?_
                  exact hrc _
                · skip
                  refine wp_of (f_X10_isIn_15.eq_1 ..) ?_
                  refine wp_gd qf_18 ?_
                  refine wp_ret_bd ?_
                  refine wp_bd ?_
                  refine wp_of (f_X10_demand.eq_1 ..) ?_
                  refine wp_ifn qf_19 ?_
                  refine wp_ret_bd ?_
                  refine wp_gd ql_K_17 ?_
                  refine wp_lt ql_R_17_0 ?_
                  refine wp_gd ql_K_18 ?_
                  refine wp_lt ql_I_18_2 ?_
                  refine wp_lt ql_R_17_0 ?_
                  refine wp_gd ql_K_18 ?_
                  refine wp_lt ql_R_18_1 ?_
                  refine wp_gd ql_K_20 ?_
                  refine wp_lt (gZo ql_Z_20 qf_121) ?_
                  refine wp_ifp qf_144 ?_
                  refine wp_gd ql_K_1 ?_
                  refine wp_lt ql_R_1_2 ?_
                  refine wp_gd ql_K_106 ?_
                  refine wp_bd ?_
                  refine wp_of (f_X6_note.eq_1 ..) ?_
                  refine wp_gd ql_K_106 ?_
                  refine wp_bd ?_
                  refine wp_of (f_X6_open.eq_1 ..) ?_
                  refine wp_gd ql_K_106 ?_
                  refine wp_lt ql_I_106_2 ?_
                  refine wp_lt qf_25 ?_
                  refine wp_zI ?_
                  refine wp_lt (Eq.trans (gI_b rfl) ql_I_106_2) ?_
                  refine wp_ifn qf_26 ?_
                  refine wp_lt (Eq.trans (gI_b rfl) ql_I_106_2) ?_
                  refine wp_lt qf_27 ?_
                  refine wp_zI ?_
                  refine wp_of (f_X6_open_31.eq_1 ..) ?_
                  refine wp_gd ql_K_106 ?_
                  refine wp_bd ?_
                  refine wp_of (f_X6_put.eq_1 ..) ?_
                  refine wp_gd ql_K_106 ?_
                  refine wp_lt (Eq.trans (gI_b rfl) gI_s) ?_
                  refine wp_ifn qf_28 ?_
                  refine wp_lt (Eq.trans (gI_b rfl) gI_s) ?_
                  refine wp_lt ql_R_106_0 ?_
                  refine wp_gd ql_K_107 ?_
                  refine wp_lt (gZo ql_Z_107 qf_29) ?_
                  refine wp_ifn qf_30 ?_
                  refine wp_lt ql_R_106_0 ?_
                  refine wp_lt (Eq.trans (gI_b rfl) gI_s) ?_
                  refine wp_gd ql_K_107 ?_
                  refine wp_gd (gZi ql_Z_107 qf_31) ?_
                  refine wp_zIk qf_32 ?_
                  refine wp_lt (Eq.trans (gI_a rfl) (Eq.trans (gI_b rfl) gI_s)) ?_
                  refine wp_lt qf_27 ?_
                  refine wp_zI ?_
                  refine wp_of (f_X6_put_39.eq_1 ..) ?_
                  refine wp_ret_bd ?_
                  refine wp_ret_bd ?_
                  refine wp_gd ql_K_106 ?_
                  refine wp_bd ?_
                  refine wp_of (f_X6_put.eq_1 ..) ?_
                  refine wp_gd ql_K_106 ?_
                  refine wp_lt gI_s ?_
                  refine wp_ifn qf_33 ?_
                  refine wp_lt gI_s ?_
                  refine wp_lt ql_R_106_0 ?_
                  refine wp_gd ql_K_107 ?_
                  refine wp_lt (gZo ql_Z_107 qf_29) ?_
                  refine wp_ifn qf_34 ?_
                  refine wp_lt ql_R_106_0 ?_
                  refine wp_lt gI_s ?_
                  refine wp_gd ql_K_107 ?_
                  refine wp_gd (gZi ql_Z_107 qf_35) ?_
                  refine wp_zIk qf_36 ?_
                  refine wp_lt (Eq.trans (gI_a rfl) gI_s) ?_
                  refine wp_lt qf_37 ?_
                  refine wp_zI ?_
                  refine wp_of (f_X6_put_39.eq_1 ..) ?_
                  refine wp_ret_bd ?_
                  refine wp_gd ql_K_106 ?_
                  refine wp_bd ?_
                  refine wp_of (f_X6_put.eq_1 ..) ?_
                  refine wp_gd ql_K_106 ?_
                  refine wp_lt gI_s ?_
                  refine wp_ifn qf_38 ?_
                  refine wp_lt gI_s ?_
                  refine wp_lt ql_R_106_0 ?_
                  refine wp_gd ql_K_107 ?_
                  refine wp_lt (gZo ql_Z_107 qf_29) ?_
                  refine wp_ifn qf_39 ?_
                  refine wp_lt ql_R_106_0 ?_
                  refine wp_lt gI_s ?_
                  refine wp_gd ql_K_107 ?_
                  refine wp_gd (gZi ql_Z_107 qf_40) ?_
                  refine wp_zIk qf_41 ?_
                  refine wp_lt (Eq.trans (gI_a rfl) gI_s) ?_
                  refine wp_lt qf_42 ?_
                  refine wp_zI ?_
                  refine wp_of (f_X6_put_39.eq_1 ..) ?_
                  refine wp_ret_bd ?_
                  refine wp_gd ql_K_106 ?_
                  refine wp_bd ?_
                  refine wp_of (f_X6_put.eq_1 ..) ?_
                  refine wp_gd ql_K_106 ?_
                  refine wp_lt gI_s ?_
                  refine wp_ifn qf_43 ?_
                  refine wp_lt gI_s ?_
                  refine wp_lt ql_R_106_0 ?_
                  refine wp_gd ql_K_107 ?_
                  refine wp_lt (gZo ql_Z_107 qf_29) ?_
                  refine wp_ifn qf_44 ?_
                  refine wp_lt ql_R_106_0 ?_
                  refine wp_lt gI_s ?_
                  refine wp_gd ql_K_107 ?_
                  refine wp_gd (gZi ql_Z_107 qf_45) ?_
                  refine wp_zIk qf_46 ?_
                  refine wp_lt (Eq.trans (gI_a rfl) gI_s) ?_
                  refine wp_lt qf_47 ?_
                  refine wp_zI ?_
                  refine wp_of (f_X6_put_39.eq_1 ..) ?_
                  refine wp_ret_bd ?_
                  refine wp_ret_bd ?_
                  refine wp_gd ql_K_17 ?_
                  refine wp_lt ql_R_17_0 ?_
                  refine wp_gd ql_K_18 ?_
                  refine wp_bd ?_
                  refine wp_of (f_X0_plugIn.eq_1 ..) ?_
                  refine wp_gd ql_K_18 ?_
                  refine wp_lt (Eq.trans (gI_a rfl) (Eq.trans (gI_a rfl) (Eq.trans (gI_a rfl) (Eq.trans (gI_a rfl) (Eq.trans (gI_a rfl) (Eq.trans (gI_a rfl) (Eq.trans (gI_a rfl) (Eq.trans (gI_a rfl) (Eq.trans (gI_a rfl) (Eq.trans (gI_a rfl) ql_I_18_2)))))))))) ?_
                  refine wp_ifn qf_28 ?_
                  refine wp_lt (Eq.trans (gI_a rfl) (Eq.trans (gI_a rfl) (Eq.trans (gI_a rfl) (Eq.trans (gI_a rfl) (Eq.trans (gI_a rfl) (Eq.trans (gI_a rfl) (Eq.trans (gI_a rfl) (Eq.trans (gI_a rfl) (Eq.trans (gI_a rfl) (Eq.trans (gI_a rfl) ql_I_18_2)))))))))) ?_
                  refine wp_lt ql_R_18_1 ?_
                  refine wp_gd ql_K_20 ?_
                  refine wp_lt (gZo ql_Z_20 qf_121) ?_
                  refine wp_ifn qf_115 ?_
                  refine wp_lt ql_R_18_1 ?_
                  refine wp_lt (Eq.trans (gI_a rfl) (Eq.trans (gI_a rfl) (Eq.trans (gI_a rfl) (Eq.trans (gI_a rfl) (Eq.trans (gI_a rfl) (Eq.trans (gI_a rfl) (Eq.trans (gI_a rfl) (Eq.trans (gI_a rfl) (Eq.trans (gI_a rfl) (Eq.trans (gI_a rfl) ql_I_18_2)))))))))) ?_
                  refine wp_gd ql_K_20 ?_
                  refine wp_gd (gZi ql_Z_20 qf_122) ?_
                  refine wp_lt (gRk qf_32 ql_R_20_0) ?_
                  refine wp_gd ql_K_21 ?_
                  refine wp_bd ?_
                  refine wp_of (f_X3_begin.eq_1 ..) ?_
                  refine wp_gd ql_K_21 ?_
                  refine wp_gd qf_205 ?_
                  refine wp_zI ?_
                  refine wp_zI ?_
                  refine wp_zI ?_
                  refine wp_ret_bd ?_
                  refine wp_gd ql_K_18 ?_
                  refine wp_lt (Eq.trans (gI_a rfl) (Eq.trans (gI_a rfl) (Eq.trans (gI_a rfl) (Eq.trans (gI_a rfl) (Eq.trans (gI_a rfl) (Eq.trans (gI_a rfl) (Eq.trans (gI_a rfl) (Eq.trans (gI_a rfl) (Eq.trans (gI_a rfl) (Eq.trans (gI_a rfl) (Eq.trans (gI_a rfl) (Eq.trans (gI_a rfl) (Eq.trans (gI_a rfl) ql_I_18_2))))))))))))) ?_
                  refine wp_lt qf_27 ?_
                  refine wp_zI ?_
                  refine wp_of (f_X0_plugIn_43.eq_1 ..) ?_
                  refine wp_gd ql_K_18 ?_
                  refine wp_lt gI_s ?_
                  refine wp_ret_bd ?_
                  refine wp_ret_bdc ?_
                  refine wp_lt qf_192 ?_
                  refine wp_gd ql_K_173 ?_
                  refine wp_gd (gZi ql_Z_173 qf_71) ?_
                  refine wp_zLk qf_32 ?_
                  refine wp_ret_bd ?_
                  refine wp_gd qf_0 ?_
                  refine wp_lt (xsk qf_1 hy1) ?_
                  refine wp_gd qf_2 ?_
                  refine wp_lt (xsk qf_3 hy2) ?_
                  refine wp_lt hwy2 ?_
                  refine wp_gd qf_4 ?_
                  refine wp_lt (xsk qf_5 hy3) ?_
                  refine wp_gd ql_K_149 ?_
                  refine wp_bd ?_
                  refine wp_of (f2_X13_addEffect.eq_1 ..) ?_
                  refine wp_bd ?_
                  refine wp_of (f_X13_isDeck.eq_1 ..) ?_
                  refine wp_bd ?_
                  refine wp_of (f_X13_isBetween.eq_1 ..) ?_
                  refine wp_ifn qf_28 ?_
                  refine wp_ifn qf_43 ?_
                  refine wp_of (f_X13_isBetween_15.eq_1 ..) ?_
                  refine wp_gd qf_18 ?_
                  refine wp_ret_bd ?_
                  refine wp_gd qf_18 ?_
                  refine wp_ret_bd ?_
                  refine wp_ifn qf_19 ?_
                  refine wp_gd (Or.inr qf_180) ?_
                  refine wp_bd ?_
                  refine wp_of (f2_J0_indexOf_0f7a4.eq_1 ..) ?_
                  refine wp_gd (Or.inr qf_180) ?_
                  refine wp_bd ?_
                  refine wp_of (f2_J0_indexOf_7cf53.eq_1 ..) ?_
                  refine wp_gd (Or.inr qf_180) ?_
                  refine wp_bd ?_
                  refine wp_of (f2_J0_isLatin1_aae02.eq_1 ..) ?_
                  refine wp_ifn qf_19 ?_
                  refine wp_gd (Or.inr qf_180) ?_
                  refine wp_lt (ifR qf_181 rfl) ?_
                  refine wp_ifp qf_15 ?_
                  refine wp_of (f2_J0_isLatin1_aae02_18.eq_1 ..) ?_
                  refine wp_gd qf_18 ?_
                  refine wp_ret_bd ?_
                  refine wp_ifn qf_19 ?_
                  refine wp_gd (Or.inr qf_180) ?_
                  refine wp_lt (ifR qf_181 qf_182) ?_
                  refine wp_gd (Or.inr qf_180) ?_
                  refine wp_bd ?_
                  refine wp_of (f2_J0_length_8abf5.eq_1 ..) ?_
                  refine wp_gd (Or.inr qf_180) ?_
                  refine wp_lt (ifR qf_181 qf_182) ?_
                  refine wp_gd (Or.inr qf_183) ?_
                  refine wp_lt (zbo (zbK qf_184 qf_185) qf_121) ?_
                  refine wp_gd (Or.inr qf_180) ?_
                  refine wp_bd ?_
                  refine wp_of (f2_J0_coder_7d493.eq_1 ..) ?_
                  refine wp_ifn qf_19 ?_
                  refine wp_gd (Or.inr qf_180) ?_
                  refine wp_lt (ifR qf_181 rfl) ?_
                  refine wp_of (f2_J0_coder_7d493_14.eq_1 ..) ?_
                  refine wp_gd qf_138 ?_
                  refine wp_ret_bd ?_
                  refine wp_lt qf_139 ?_
                  refine wp_ret_bd ?_
                  refine wp_bd ?_
                  refine wp_of (f2_J1_indexOf_4cfef.eq_1 ..) ?_
                  refine wp_bd ?_
                  refine wp_of (f_J1_canEncode_9a6ad.eq_1 ..) ?_
                  refine wp_ifn qf_198 ?_
                  refine wp_ifn qf_199 ?_
                  refine wp_of (f_J1_canEncode_9a6ad_16.eq_1 ..) ?_
                  refine wp_gd qf_18 ?_
                  refine wp_ret_bd ?_
                  refine wp_ifn qf_19 ?_
                  refine wp_lt qf_142 ?_
                  refine wp_gd (Or.inr qf_183) ?_
                  refine wp_lt (zbo (zbK qf_184 qf_185) qf_121) ?_
                  refine wp_lt qf_143 ?_
                  refine wp_ifp qf_144 ?_
                  refine wp_bd ?_
                  refine wp_of (f2_J1_indexOfChar_4cfef.eq_1 ..) ?_
                  refine wp_lt qf_200 ?_
                  refine wp_of (f2_J1_indexOfChar_4cfef_7.eq_2 ..) ?_
                  refine wp_ifn qf_115 ?_
                  refine wp_gd (Or.inr qf_183) ?_
                  refine wp_gd (zbi (zbK qf_184 qf_185) qf_122) ?_
                  refine wp_lt (ibk qf_32 (ibK qf_184 qf_189)) ?_
                  refine wp_ifn qf_201 ?_
                  refine wp_lt qf_153 ?_
                  refine wp_of (f2_J1_indexOfChar_4cfef_7.eq_2 ..) ?_
                  refine wp_ifn qf_154 ?_
                  refine wp_gd (Or.inr qf_183) ?_
                  refine wp_gd (zbi (zbK qf_184 qf_185) qf_125) ?_
                  refine wp_lt (ibk qf_36 (ibK qf_184 qf_197)) ?_
                  refine wp_ifn qf_202 ?_
                  refine wp_lt qf_164 ?_
                  refine wp_of (f2_J1_indexOfChar_4cfef_7.eq_2 ..) ?_
                  refine wp_ifn qf_165 ?_
                  refine wp_gd (Or.inr qf_183) ?_
                  refine wp_gd (zbi (zbK qf_184 qf_185) qf_127) ?_
                  refine wp_lt (ibk qf_41 (ibK qf_184 qf_203)) ?_
                  refine wp_ifp qf_204 ?_
                  refine wp_ret_bd ?_
                  refine wp_ret_bd ?_
                  refine wp_of (f2_J0_indexOf_7cf53_36.eq_1 ..) ?_
                  refine wp_ret_bd ?_
                  refine wp_ret_bd ?_
                  refine wp_ifn qf_38 ?_
                  refine wp_bd ?_
                  refine wp_of (f_X13_isBetween.eq_1 ..) ?_
                  refine wp_ifn c6 ?_
                  refine wp_ifn c7 ?_
                  refine wp_of (f_X13_isBetween_15.eq_1 ..) ?_
                  refine wp_gd qf_18 ?_
                  refine wp_ret_bd ?_
                  refine wp_ifn qf_19 ?_
                  refine wp_gd ql_K_149 ?_
                  refine wp_lt ql_R_149_2 ?_
                  refine wp_gd ql_K_151 ?_
                  refine wp_gd (gZi ql_Z_151 qf_97) ?_
                  refine wp_lt (gRk qf_32 ql_R_151_0) ?_
                  refine wp_gd ql_K_152 ?_
                  refine wp_lt ql_R_152_8 ?_
                  refine wp_gd ql_K_155 ?_
                  refine wp_bd ?_
                  refine wp_of (f_Jx4a65c_size_8abf5.eq_1 ..) ?_
                  refine wp_gd ql_K_155 ?_
                  refine wp_lt (Eq.trans (gI_a rfl) (Eq.trans (gI_a rfl) (Eq.trans (gI_a rfl) (Eq.trans (gI_a rfl) (Eq.trans (gI_a rfl) (Eq.trans (gI_a rfl) (Eq.trans (gI_a rfl) (Eq.trans (gI_a rfl) (Eq.trans (gI_a rfl) (Eq.trans (gI_a rfl) (Eq.trans (gI_a rfl) (Eq.trans (gI_a rfl) (Eq.trans (gI_a rfl) (Eq.trans (gI_a rfl) ql_I_155_2)))))))))))))) ?_
                  refine wp_ret_bd ?_
                  refine wp_ifn qf_193 ?_
                  refine wp_of (f2_X13_addEffect_58.eq_1 ..) ?_
                  refine wp_gd ql_K_149 ?_
                  refine wp_bd ?_
                  refine wp_of (f_X13_isWrong.eq_1 ..) ?_
                  refine wp_gd ql_K_149 ?_
                  refine wp_zI ?_
                  refine wp_ifp qf_73 ?_
                  refine wp_of (f_X13_isWrong_14.eq_1 ..) ?_
                  refine wp_gd qf_14 ?_
                  refine wp_ret_bd ?_
                  refine wp_ifp qf_15 ?_
                  refine wp_gd ql_K_149 ?_
                  refine wp_lt ql_R_149_2 ?_
                  refine wp_gd ql_K_151 ?_
                  refine wp_gd (gZi ql_Z_151 qf_97) ?_
                  refine wp_lt (gRk qf_32 ql_R_151_0) ?_
                  refine wp_gd ql_K_152 ?_
                  refine wp_lt ql_R_152_8 ?_
                  refine wp_gd (gNk (n := 174) qf_74) ?_
                  refine wp_zW (m := 175) rfl ?_
                  refine wp_lt (show _ = 175 from rfl) ?_
                  refine wp_gd (gZi gZ_n qf_122) ?_
                  refine wp_zIk qf_32 ?_
                  refine wp_gd (gZi gZ_n qf_125) ?_
                  refine wp_zIk qf_36 ?_
                  refine wp_gd (gZi gZ_n qf_127) ?_
                  refine wp_zIk qf_41 ?_
                  refine wp_gd (Eq.trans (gK_w rfl) ql_K_155) ?_
                  refine wp_bd ?_
                  refine wp_of (f2_Jx4a65c_add_9ea2d.eq_1 ..) ?_
                  refine wp_gd (Eq.trans (gK_w rfl) ql_K_155) ?_
                  refine wp_lt (Eq.trans (gI_a rfl) (Eq.trans (gI_a rfl) (Eq.trans (gI_a rfl) (Eq.trans (gI_w rfl) (Eq.trans (gI_a rfl) (Eq.trans (gI_a rfl) (Eq.trans (gI_a rfl) (Eq.trans (gI_a rfl) (Eq.trans (gI_a rfl) (Eq.trans (gI_a rfl) (Eq.trans (gI_a rfl) (Eq.trans (gI_a rfl) (Eq.trans (gI_a rfl) (Eq.trans (gI_a rfl) (Eq.trans (gI_a rfl) (Eq.trans (gI_a rfl) (Eq.trans (gI_a rfl) (Eq.trans (gI_a rfl) (Eq.trans (gI_a rfl) ql_I_155_0))))))))))))))))))) ?_
                  refine wp_lt qf_27 ?_
                  refine wp_zI ?_
                  refine wp_lt (Eq.trans (gR_w rfl) ql_R_155_1) ?_
                  refine wp_lt (Eq.trans (gI_b rfl) (Eq.trans (gI_a rfl) (Eq.trans (gI_a rfl) (Eq.trans (gI_a rfl) (Eq.trans (gI_w rfl) (Eq.trans (gI_a rfl) (Eq.trans (gI_a rfl) (Eq.trans (gI_a rfl) (Eq.trans (gI_a rfl) (Eq.trans (gI_a rfl) (Eq.trans (gI_a rfl) (Eq.trans (gI_a rfl) (Eq.trans (gI_a rfl) (Eq.trans (gI_a rfl) (Eq.trans (gI_a rfl) (Eq.trans (gI_a rfl) (Eq.trans (gI_a rfl) (Eq.trans (gI_a rfl) (Eq.trans (gI_a rfl) (Eq.trans (gI_a rfl) ql_I_155_2)))))))))))))))))))) ?_
                  refine wp_bd ?_
                  refine wp_of (f2_Jx4a65c_add_72be8.eq_1 ..) ?_
                  refine wp_ifp qf_75 ?_
                  refine wp_ifp qf_15 ?_
                  refine wp_gd (Eq.trans (gK_w rfl) ql_K_155) ?_
                  refine wp_bd ?_
                  refine wp_of (f2_Jx4a65c_grow_d5877.eq_1 ..) ?_
                  refine wp_gd (Eq.trans (gK_w rfl) ql_K_155) ?_
                  refine wp_lt (Eq.trans (gI_b rfl) (Eq.trans (gI_a rfl) (Eq.trans (gI_a rfl) (Eq.trans (gI_a rfl) (Eq.trans (gI_w rfl) (Eq.trans (gI_a rfl) (Eq.trans (gI_a rfl) (Eq.trans (gI_a rfl) (Eq.trans (gI_a rfl) (Eq.trans (gI_a rfl) (Eq.trans (gI_a rfl) (Eq.trans (gI_a rfl) (Eq.trans (gI_a rfl) (Eq.trans (gI_a rfl) (Eq.trans (gI_a rfl) (Eq.trans (gI_a rfl) (Eq.trans (gI_a rfl) (Eq.trans (gI_a rfl) (Eq.trans (gI_a rfl) (Eq.trans (gI_a rfl) ql_I_155_2)))))))))))))))))))) ?_
                  refine wp_lt qf_27 ?_
                  refine wp_bd ?_
                  refine wp_of (f2_Jx4a65c_grow_92f84.eq_1 ..) ?_
                  refine wp_gd (Eq.trans (gK_w rfl) ql_K_155) ?_
                  refine wp_lt (Eq.trans (gR_w rfl) ql_R_155_1) ?_
                  refine wp_ifp qf_75 ?_
                  refine wp_ifn qf_28 ?_
                  refine wp_lt (Eq.trans (gR_w rfl) ql_R_155_1) ?_
                  refine wp_gd qf_76 ?_
                  refine wp_ifp qf_75 ?_
                  refine wp_lt qf_77 ?_
                  refine wp_ifp qf_78 ?_
                  refine wp_gd (gNk (n := 175) qf_79) ?_
                  refine wp_zW (m := 176) rfl ?_
                  refine wp_lt (show _ = 176 from rfl) ?_
                  refine wp_gd (Eq.trans (gK_w rfl) (Eq.trans (gK_w rfl) ql_K_155)) ?_
                  refine wp_zR ?_
                  refine wp_ret_bd ?_
                  refine wp_ret_bd ?_
                  refine wp_of (f2_Jx4a65c_add_72be8_11.eq_1 ..) ?_
                  refine wp_gd gK_n ?_
                  refine wp_gd (gZi gZ_n qf_80) ?_
                  refine wp_ifn (neK (Eq.trans (gK_w rfl) gK_n) qf_194) ?_
                  refine wp_gd (Eq.trans (gK_w rfl) gK_n) ?_
                  refine wp_zRk qf_32 ?_
                  refine wp_lt qf_27 ?_
                  refine wp_gd (Eq.trans (gK_w rfl) (Eq.trans (gK_w rfl) ql_K_155)) ?_
                  refine wp_zI ?_
                  refine wp_ret_bd ?_
                  refine wp_ret_bd ?_
                  refine wp_gd (Eq.trans (gK_w rfl) (Eq.trans (gK_w rfl) ql_K_149)) ?_
                  refine wp_bd ?_
                  refine wp_of (f_X13_logs.eq_1 ..) ?_
                  refine wp_gd (Eq.trans (gK_w rfl) (Eq.trans (gK_w rfl) ql_K_149)) ?_
                  refine wp_lt (Eq.trans (gI_a rfl) (Eq.trans (gI_w rfl) (Eq.trans (gI_a rfl) (Eq.trans (gI_a rfl) (Eq.trans (gI_a rfl) (Eq.trans (gI_a rfl) (Eq.trans (gI_w rfl) (Eq.trans (gI_b rfl) (Eq.trans (gI_a rfl) (Eq.trans (gI_a rfl) (Eq.trans (gI_a rfl) (Eq.trans (gI_a rfl) (Eq.trans (gI_a rfl) (Eq.trans (gI_a rfl) (Eq.trans (gI_a rfl) (Eq.trans (gI_a rfl) (Eq.trans (gI_a rfl) (Eq.trans (gI_a rfl) (Eq.trans (gI_a rfl) (Eq.trans (gI_a rfl) (Eq.trans (gI_a rfl) (Eq.trans (gI_a rfl) ql_I_149_16)))))))))))))))))))))) ?_
                  refine wp_lt qf_27 ?_
                  refine wp_zI ?_
                  refine wp_ret_bd ?_
                  refine wp_gd (Eq.trans (gK_w rfl) (Eq.trans (gK_w rfl) ql_K_149)) ?_
                  refine wp_lt (Eq.trans (gR_a rfl) (Eq.trans (gR_a rfl) (Eq.trans (gR_w rfl) (Eq.trans (gR_w rfl) ql_R_149_2)))) ?_
                  refine wp_gd (Eq.trans (gK_w rfl) (Eq.trans (gK_w rfl) ql_K_151)) ?_
                  refine wp_gd (gZi (Eq.trans (gZ_w rfl) (Eq.trans (gZ_w rfl) ql_Z_151)) qf_97) ?_
                  refine wp_lt (gRk qf_32 (Eq.trans (gR_a rfl) (Eq.trans (gR_a rfl) (Eq.trans (gR_w rfl) (Eq.trans (gR_w rfl) ql_R_151_0))))) ?_
                  refine wp_gd (Eq.trans (gK_w rfl) (Eq.trans (gK_w rfl) ql_K_152)) ?_
                  refine wp_lt (Eq.trans (gR_a rfl) (Eq.trans (gR_a rfl) (Eq.trans (gR_w rfl) (Eq.trans (gR_w rfl) ql_R_152_8)))) ?_
                  refine wp_gd (Eq.trans (gK_w rfl) (Eq.trans (gK_w rfl) ql_K_155)) ?_
                  refine wp_bd ?_
                  refine wp_of (f_Jx4a65c_size_8abf5.eq_1 ..) ?_
                  refine wp_gd (Eq.trans (gK_w rfl) (Eq.trans (gK_w rfl) ql_K_155)) ?_
                  refine wp_lt (Eq.trans (gI_a rfl) gI_s) ?_
                  refine wp_ret_bd ?_
                  refine wp_ret_bd ?_
                  refine wp_gd (Eq.trans (gK_w rfl) (Eq.trans (gK_w rfl) ql_K_149)) ?_
                  refine wp_bd ?_
                  refine wp_of (f_X13_thrown.eq_1 ..) ?_
                  refine wp_gd (Eq.trans (gK_w rfl) (Eq.trans (gK_w rfl) ql_K_149)) ?_
                  refine wp_lt (Eq.trans (gI_b rfl) (Eq.trans (gI_a rfl) (Eq.trans (gI_w rfl) (Eq.trans (gI_a rfl) (Eq.trans (gI_a rfl) (Eq.trans (gI_a rfl) (Eq.trans (gI_a rfl) (Eq.trans (gI_w rfl) gI_s)))))))) ?_
                  refine wp_ret_bd ?_
                  refine wp_ifp qf_15 ?_
                  refine wp_ifp qf_15 ?_
                  refine wp_gd (Eq.trans (gK_w rfl) (Eq.trans (gK_w rfl) ql_K_173)) ?_
                  refine wp_gd (gZi (Eq.trans (gZ_w rfl) (Eq.trans (gZ_w rfl) ql_Z_173)) qf_71) ?_
                  refine wp_lt (gLk qf_32 (Eq.trans (gL_w rfl) (Eq.trans (gL_w rfl) gL_s))) ?_
                  refine wp_lt qf_192 ?_
                  refine wp_lt qf_195 ?_
                  refine wp_ifp qf_15 ?_
                  refine wp_of (f_L_law_2104.eq_1 ..) ?_
                  refine wp_of (f_L_law_3632.eq_1 ..) ?_
                  refine wp_lt qf_21 ?_
                  exact hrc _
            · skip
              refine wp_of (f_X10_addEffect_30.eq_1 ..) ?_
              refine wp_bd ?_
              refine wp_of (f_X10_demand.eq_1 ..) ?_
              refine wp_ifp qf_15 ?_
              refine wp_rs_bd ?_
              refine wp_rs_bdc ?_
              refine wp_ifn qf_113 ?_
              refine wp_ifp qf_16 ?_
              refine wp_ret_bd ?_
              refine wp_gd qf_0 ?_
              refine wp_lt (xsk qf_1 hy1) ?_
              refine wp_gd qf_2 ?_
              refine wp_lt (xsk qf_3 hy2) ?_
              refine wp_lt hwy2 ?_
              refine wp_gd qf_4 ?_
              refine wp_lt (xsk qf_5 hy3) ?_
              refine wp_gd ql_K_149 ?_
              refine wp_bd ?_
              refine wp_of (f2_X13_addEffect.eq_1 ..) ?_
              refine wp_bd ?_
              refine wp_of (f_X13_isDeck.eq_1 ..) ?_
              refine wp_bd ?_
              refine wp_of (f_X13_isBetween.eq_1 ..) ?_
              refine wp_ifn qf_28 ?_
              refine wp_ifn qf_43 ?_
              refine wp_of (f_X13_isBetween_15.eq_1 ..) ?_
              refine wp_gd qf_18 ?_
              refine wp_ret_bd ?_
              refine wp_gd qf_18 ?_
              refine wp_ret_bd ?_
              refine wp_ifn qf_19 ?_
              refine wp_gd (Or.inr qf_180) ?_
              refine wp_bd ?_
              refine wp_of (f2_J0_indexOf_0f7a4.eq_1 ..) ?_
              refine wp_gd (Or.inr qf_180) ?_
              refine wp_bd ?_
              refine wp_of (f2_J0_indexOf_7cf53.eq_1 ..) ?_
              refine wp_gd (Or.inr qf_180) ?_
              refine wp_bd ?_
              refine wp_of (f2_J0_isLatin1_aae02.eq_1 ..) ?_
              refine wp_ifn qf_19 ?_
              refine wp_gd (Or.inr qf_180) ?_
              refine wp_lt (ifR qf_181 rfl) ?_
              refine wp_ifp qf_15 ?_
              refine wp_of (f2_J0_isLatin1_aae02_18.eq_1 ..) ?_
              refine wp_gd qf_18 ?_
              refine wp_ret_bd ?_
              refine wp_ifn qf_19 ?_
              refine wp_gd (Or.inr qf_180) ?_
              refine wp_lt (ifR qf_181 qf_182) ?_
              refine wp_gd (Or.inr qf_180) ?_
              refine wp_bd ?_
              refine wp_of (f2_J0_length_8abf5.eq_1 ..) ?_
              refine wp_gd (Or.inr qf_180) ?_
              refine wp_lt (ifR qf_181 qf_182) ?_
              refine wp_gd (Or.inr qf_183) ?_
              refine wp_lt (zbo (zbK qf_184 qf_185) qf_121) ?_
              refine wp_gd (Or.inr qf_180) ?_
              refine wp_bd ?_
              refine wp_of (f2_J0_coder_7d493.eq_1 ..) ?_
              refine wp_ifn qf_19 ?_
              refine wp_gd (Or.inr qf_180) ?_
              refine wp_lt (ifR qf_181 rfl) ?_
              refine wp_of (f2_J0_coder_7d493_14.eq_1 ..) ?_
              refine wp_gd qf_138 ?_
              refine wp_ret_bd ?_
              refine wp_lt qf_139 ?_
              refine wp_ret_bd ?_
              refine wp_bd ?_
              refine wp_of (f2_J1_indexOf_4cfef.eq_1 ..) ?_
              refine wp_bd ?_
              refine wp_of (f_J1_canEncode_9a6ad.eq_1 ..) ?_
              refine wp_ifn (show ¬ (wy2 < (0 : Int32)) from by have e0 := qf_90; have e1 := qf_206; have e2 := qf_207; have e3 := qf_171; have e4 := qf_172; simp only [Int32.lt_iff_toInt_lt, Int32.le_iff_toInt_le, ← Int32.toInt_inj] at hwy2a hwy2b ⊢; omega) ?_
              refine wp_if (fun c6 => ?_) (fun c6 => ?_)
              · skip
                refine wp_of (f_J1_canEncode_9a6ad_15.eq_1 ..) ?_
                refine wp_of (f_J1_canEncode_9a6ad_16.eq_1 ..) ?_
                refine wp_gd qf_14 ?_
                refine wp_ret_bd ?_
                refine wp_ifp qf_15 ?_
                refine wp_ret_bd ?_
                refine wp_of (f2_J0_indexOf_7cf53_36.eq_1 ..) ?_
                refine wp_ret_bd ?_
                refine wp_ret_bd ?_
                refine wp_ifp qf_208 ?_
                refine wp_of (f2_X13_addEffect_31.eq_1 ..) ?_
                refine wp_of (f2_X13_addEffect_58.eq_1 ..) ?_
                refine wp_gd ql_K_149 ?_
                refine wp_bd ?_
                refine wp_of (f_X13_isWrong.eq_1 ..) ?_
                refine wp_gd ql_K_149 ?_
                refine wp_zI ?_
                refine wp_ifn qf_110 ?_
                refine wp_of (f_X13_isWrong_14.eq_1 ..) ?_
                refine wp_gd qf_18 ?_
                refine wp_ret_bd ?_
                refine wp_ifn qf_19 ?_
                refine wp_ret_bd ?_
                refine wp_gd ql_K_149 ?_
                refine wp_bd ?_
                refine wp_of (f_X13_thrown.eq_1 ..) ?_
                refine wp_gd ql_K_149 ?_
                refine wp_lt gI_s ?_
                refine wp_ret_bd ?_
                refine wp_ifp qf_111 ?_
                refine wp_ifn qf_112 ?_
                refine wp_of (f_L_law_2104.eq_1 ..) ?_
                refine wp_of (f_L_law_3632.eq_1 ..) ?_
                refine wp_lt qf_21 ?_
                exact hrc _
              · skip
                refine wp_of (f_J1_canEncode_9a6ad_16.eq_1 ..) ?_
                refine wp_gd qf_18 ?_
                refine wp_ret_bd ?_
                refine wp_ifn qf_19 ?_
                refine wp_lt qf_142 ?_
                refine wp_gd (Or.inr qf_183) ?_
                refine wp_lt (zbo (zbK qf_184 qf_185) qf_121) ?_
                refine wp_lt qf_143 ?_
                refine wp_ifp qf_144 ?_
                refine wp_bd ?_
                refine wp_of (f2_J1_indexOfChar_4cfef.eq_1 ..) ?_
                refine wp_ltr ?_
                refine wp_of (f2_J1_indexOfChar_4cfef_7.eq_2 ..) ?_
                refine wp_ifn qf_115 ?_
                refine wp_gd (Or.inr qf_183) ?_
                refine wp_gd (zbi (zbK qf_184 qf_185) qf_122) ?_
                refine wp_lt (ibk qf_32 (ibK qf_184 qf_189)) ?_
                refine wp_ifn (Ne.symm (i2b_ne hwy2a c6 qf_209 c3)) ?_
                refine wp_lt qf_153 ?_
                refine wp_of (f2_J1_indexOfChar_4cfef_7.eq_2 ..) ?_
                refine wp_ifn qf_154 ?_
                refine wp_gd (Or.inr qf_183) ?_
                refine wp_gd (zbi (zbK qf_184 qf_185) qf_125) ?_
                refine wp_lt (ibk qf_36 (ibK qf_184 qf_197)) ?_
                refine wp_ifn (Ne.symm (i2b_ne hwy2a c6 qf_176 c4)) ?_
                refine wp_lt qf_164 ?_
                refine wp_of (f2_J1_indexOfChar_4cfef_7.eq_2 ..) ?_
                refine wp_ifn qf_165 ?_
                refine wp_gd (Or.inr qf_183) ?_
                refine wp_gd (zbi (zbK qf_184 qf_185) qf_127) ?_
                refine wp_lt (ibk qf_41 (ibK qf_184 qf_203)) ?_
                refine wp_ifn (Ne.symm (i2b_ne hwy2a c6 qf_210 c5)) ?_
                refine wp_lt qf_177 ?_
                refine wp_of (f2_J1_indexOfChar_4cfef_7.eq_2 ..) ?_
                refine wp_ifp qf_178 ?_
                refine wp_ret_bd ?_
                refine wp_ret_bd ?_
                refine wp_of (f2_J0_indexOf_7cf53_36.eq_1 ..) ?_
                refine wp_ret_bd ?_
                refine wp_ret_bd ?_
                refine wp_ifp qf_208 ?_
                refine wp_of (f2_X13_addEffect_31.eq_1 ..) ?_
                refine wp_of (f2_X13_addEffect_58.eq_1 ..) ?_
                refine wp_gd ql_K_149 ?_
                refine wp_bd ?_
                refine wp_of (f_X13_isWrong.eq_1 ..) ?_
                refine wp_gd ql_K_149 ?_
                refine wp_zI ?_
                refine wp_ifn qf_110 ?_
                refine wp_of (f_X13_isWrong_14.eq_1 ..) ?_
                refine wp_gd qf_18 ?_
                refine wp_ret_bd ?_
                refine wp_ifn qf_19 ?_
                refine wp_ret_bd ?_
                refine wp_gd ql_K_149 ?_
                refine wp_bd ?_
                refine wp_of (f_X13_thrown.eq_1 ..) ?_
                refine wp_gd ql_K_149 ?_
                refine wp_lt gI_s ?_
                refine wp_ret_bd ?_
                refine wp_ifp qf_111 ?_
                refine wp_ifn qf_112 ?_
                refine wp_of (f_L_law_2104.eq_1 ..) ?_
                refine wp_of (f_L_law_3632.eq_1 ..) ?_
                refine wp_lt qf_21 ?_
                exact hrc _
      · skip
        refine wp_gd (gZi ql_Z_16 qf_99) ?_
        refine wp_lt (gRk qf_36 ql_R_16_1) ?_
        refine wp_of (f_X8_deckAt_23.eq_1 ..) ?_
        refine wp_ret_bd ?_
        refine wp_ifn qf_100 ?_
        refine wp_ret_bd ?_
        refine wp_if (fun c3 => ?_) (fun c3 => ?_)
        · skip
          subst c3
          refine wp_of (f_X10_addEffect_25.eq_1 ..) ?_
          refine wp_of (f_X10_addEffect_30.eq_1 ..) ?_
          refine wp_bd ?_
          refine wp_of (f_X10_demand.eq_1 ..) ?_
          refine wp_ifn qf_19 ?_
          refine wp_ret_bd ?_
          refine wp_bd ?_
          refine wp_of (f_X10_isIn.eq_1 ..) ?_
          refine wp_if (fun c4 => ?_) (fun c4 => ?_)
          · skip
            refine wp_of (f_X10_isIn_14.eq_1 ..) ?_
            refine wp_of (f_X10_isIn_15.eq_1 ..) ?_
            refine wp_gd qf_14 ?_
            refine wp_ret_bd ?_
            refine wp_bd ?_
            refine wp_of (f_X10_demand.eq_1 ..) ?_
            refine wp_ifp qf_15 ?_
            refine wp_rs_bd ?_
            refine wp_rs_bdc ?_
            refine wp_ifn qf_113 ?_
            refine wp_ifp qf_16 ?_
            refine wp_ret_bd ?_
            refine wp_gd qf_0 ?_
            refine wp_lt (xsk qf_1 hy1) ?_
            refine wp_gd qf_2 ?_
            refine wp_lt (xsk qf_3 hy2) ?_
            refine wp_lt hwy2 ?_
            refine wp_gd qf_4 ?_
            refine wp_lt (xsk qf_5 hy3) ?_
            refine wp_gd ql_K_149 ?_
            refine wp_bd ?_
            refine wp_of (f2_X13_addEffect.eq_1 ..) ?_
            refine wp_bd ?_
            refine wp_of (f_X13_isDeck.eq_1 ..) ?_
            refine wp_bd ?_
            refine wp_of (f_X13_isBetween.eq_1 ..) ?_
            refine wp_ifn qf_33 ?_
            refine wp_ifn qf_101 ?_
            refine wp_of (f_X13_isBetween_15.eq_1 ..) ?_
            refine wp_gd qf_18 ?_
            refine wp_ret_bd ?_
            refine wp_gd qf_18 ?_
            refine wp_ret_bd ?_
            refine wp_ifn qf_19 ?_
            refine wp_gd (Or.inr qf_180) ?_
            refine wp_bd ?_
            refine wp_of (f2_J0_indexOf_0f7a4.eq_1 ..) ?_
            refine wp_gd (Or.inr qf_180) ?_
            refine wp_bd ?_
            refine wp_of (f2_J0_indexOf_7cf53.eq_1 ..) ?_
            refine wp_gd (Or.inr qf_180) ?_
            refine wp_bd ?_
            refine wp_of (f2_J0_isLatin1_aae02.eq_1 ..) ?_
            refine wp_ifn qf_19 ?_
            refine wp_gd (Or.inr qf_180) ?_
            refine wp_lt (ifR qf_181 rfl) ?_
            refine wp_ifp qf_15 ?_
            refine wp_of (f2_J0_isLatin1_aae02_18.eq_1 ..) ?_
            refine wp_gd qf_18 ?_
            refine wp_ret_bd ?_
            refine wp_ifn qf_19 ?_
            refine wp_gd (Or.inr qf_180) ?_
            refine wp_lt (ifR qf_181 qf_182) ?_
            refine wp_gd (Or.inr qf_180) ?_
            refine wp_bd ?_
            refine wp_of (f2_J0_length_8abf5.eq_1 ..) ?_
            refine wp_gd (Or.inr qf_180) ?_
            refine wp_lt (ifR qf_181 qf_182) ?_
            refine wp_gd (Or.inr qf_183) ?_
            refine wp_lt (zbo (zbK qf_184 qf_185) qf_121) ?_
            refine wp_gd (Or.inr qf_180) ?_
            refine wp_bd ?_
            refine wp_of (f2_J0_coder_7d493.eq_1 ..) ?_
            refine wp_ifn qf_19 ?_
            refine wp_gd (Or.inr qf_180) ?_
            refine wp_lt (ifR qf_181 rfl) ?_
            refine wp_of (f2_J0_coder_7d493_14.eq_1 ..) ?_
            refine wp_gd qf_138 ?_
            refine wp_ret_bd ?_
            refine wp_lt qf_139 ?_
            refine wp_ret_bd ?_
            refine wp_bd ?_
            refine wp_of (f2_J1_indexOf_4cfef.eq_1 ..) ?_
            refine wp_bd ?_
            refine wp_of (f_J1_canEncode_9a6ad.eq_1 ..) ?_
            refine wp_ifn qf_186 ?_
            refine wp_ifn qf_187 ?_
            refine wp_of (f_J1_canEncode_9a6ad_16.eq_1 ..) ?_
            refine wp_gd qf_18 ?_
            refine wp_ret_bd ?_
            refine wp_ifn qf_19 ?_
            refine wp_lt qf_142 ?_
            refine wp_gd (Or.inr qf_183) ?_
            refine wp_lt (zbo (zbK qf_184 qf_185) qf_121) ?_
            refine wp_lt qf_143 ?_
            refine wp_ifp qf_144 ?_
            refine wp_bd ?_
            refine wp_of (f2_J1_indexOfChar_4cfef.eq_1 ..) ?_
            refine wp_lt qf_188 ?_
            refine wp_of (f2_J1_indexOfChar_4cfef_7.eq_2 ..) ?_
            refine wp_ifn qf_115 ?_
            refine wp_gd (Or.inr qf_183) ?_
            refine wp_gd (zbi (zbK qf_184 qf_185) qf_122) ?_
            refine wp_lt (ibk qf_32 (ibK qf_184 qf_189)) ?_
            refine wp_ifp qf_190 ?_
            refine wp_ret_bd ?_
            refine wp_ret_bd ?_
            refine wp_of (f2_J0_indexOf_7cf53_36.eq_1 ..) ?_
            refine wp_ret_bd ?_
            refine wp_ret_bd ?_
            refine wp_ifn qf_28 ?_
            refine wp_bd ?_
            refine wp_of (f_X13_isBetween.eq_1 ..) ?_
            refine wp_ifp c4 ?_
            refine wp_of (f_X13_isBetween_14.eq_1 ..) ?_
            refine wp_of (f_X13_isBetween_15.eq_1 ..) ?_
            refine wp_gd qf_14 ?_
            refine wp_ret_bd ?_
            refine wp_ifp qf_15 ?_
            refine wp_of (f2_X13_addEffect_31.eq_1 ..) ?_
            refine wp_of (f2_X13_addEffect_58.eq_1 ..) ?_
            refine wp_gd ql_K_149 ?_
            refine wp_bd ?_
            refine wp_of (f_X13_isWrong.eq_1 ..) ?_
            refine wp_gd ql_K_149 ?_
            refine wp_zI ?_
            refine wp_ifn qf_110 ?_
            refine wp_of (f_X13_isWrong_14.eq_1 ..) ?_
            refine wp_gd qf_18 ?_
            refine wp_ret_bd ?_
            refine wp_ifn qf_19 ?_
            refine wp_ret_bd ?_
            refine wp_gd ql_K_149 ?_
            refine wp_bd ?_
            refine wp_of (f_X13_thrown.eq_1 ..) ?_
            refine wp_gd ql_K_149 ?_
            refine wp_lt gI_s ?_
            refine wp_ret_bd ?_
            refine wp_ifp qf_111 ?_
            refine wp_ifn qf_112 ?_
            refine wp_of (f_L_law_2104.eq_1 ..) ?_
            refine wp_of (f_L_law_3632.eq_1 ..) ?_
            refine wp_lt qf_21 ?_
            exact hrc _
          · skip
            refine wp_if (fun c5 => ?_) (fun c5 => ?_)
            · skip
              refine wp_of (f_X10_isIn_14.eq_1 ..) ?_
              refine wp_of (f_X10_isIn_15.eq_1 ..) ?_
              refine wp_gd qf_14 ?_
              refine wp_ret_bd ?_
              refine wp_bd ?_
              refine wp_of (f_X10_demand.eq_1 ..) ?_
              refine wp_ifp qf_15 ?_
              refine wp_rs_bd ?_
              refine wp_rs_bdc ?_
              refine wp_ifn qf_113 ?_
              refine wp_ifp qf_16 ?_
              refine wp_ret_bd ?_
              refine wp_gd qf_0 ?_
              refine wp_lt (xsk qf_1 hy1) ?_
              refine wp_gd qf_2 ?_
              refine wp_lt (xsk qf_3 hy2) ?_
              refine wp_lt hwy2 ?_
              refine wp_gd qf_4 ?_
              refine wp_lt (xsk qf_5 hy3) ?_
              refine wp_gd ql_K_149 ?_
              refine wp_bd ?_
              refine wp_of (f2_X13_addEffect.eq_1 ..) ?_
              refine wp_bd ?_
              refine wp_of (f_X13_isDeck.eq_1 ..) ?_
              refine wp_bd ?_
              refine wp_of (f_X13_isBetween.eq_1 ..) ?_
              refine wp_ifn qf_33 ?_
              refine wp_ifn qf_101 ?_
              refine wp_of (f_X13_isBetween_15.eq_1 ..) ?_
              refine wp_gd qf_18 ?_
              refine wp_ret_bd ?_
              refine wp_gd qf_18 ?_
              refine wp_ret_bd ?_
              refine wp_ifn qf_19 ?_
              refine wp_gd (Or.inr qf_180) ?_
              refine wp_bd ?_
              refine wp_of (f2_J0_indexOf_0f7a4.eq_1 ..) ?_
              refine wp_gd (Or.inr qf_180) ?_
              refine wp_bd ?_
              refine wp_of (f2_J0_indexOf_7cf53.eq_1 ..) ?_
              refine wp_gd (Or.inr qf_180) ?_
              refine wp_bd ?_
              refine wp_of (f2_J0_isLatin1_aae02.eq_1 ..) ?_
              refine wp_ifn qf_19 ?_
              refine wp_gd (Or.inr qf_180) ?_
              refine wp_lt (ifR qf_181 rfl) ?_
              refine wp_ifp qf_15 ?_
              refine wp_of (f2_J0_isLatin1_aae02_18.eq_1 ..) ?_
              refine wp_gd qf_18 ?_
              refine wp_ret_bd ?_
              refine wp_ifn qf_19 ?_
              refine wp_gd (Or.inr qf_180) ?_
              refine wp_lt (ifR qf_181 qf_182) ?_
              refine wp_gd (Or.inr qf_180) ?_
              refine wp_bd ?_
              refine wp_of (f2_J0_length_8abf5.eq_1 ..) ?_
              refine wp_gd (Or.inr qf_180) ?_
              refine wp_lt (ifR qf_181 qf_182) ?_
              refine wp_gd (Or.inr qf_183) ?_
              refine wp_lt (zbo (zbK qf_184 qf_185) qf_121) ?_
              refine wp_gd (Or.inr qf_180) ?_
              refine wp_bd ?_
              refine wp_of (f2_J0_coder_7d493.eq_1 ..) ?_
              refine wp_ifn qf_19 ?_
              refine wp_gd (Or.inr qf_180) ?_
              refine wp_lt (ifR qf_181 rfl) ?_
              refine wp_of (f2_J0_coder_7d493_14.eq_1 ..) ?_
              refine wp_gd qf_138 ?_
              refine wp_ret_bd ?_
              refine wp_lt qf_139 ?_
              refine wp_ret_bd ?_
              refine wp_bd ?_
              refine wp_of (f2_J1_indexOf_4cfef.eq_1 ..) ?_
              refine wp_bd ?_
              refine wp_of (f_J1_canEncode_9a6ad.eq_1 ..) ?_
              refine wp_ifn qf_186 ?_
              refine wp_ifn qf_187 ?_
              refine wp_of (f_J1_canEncode_9a6ad_16.eq_1 ..) ?_
              refine wp_gd qf_18 ?_
              refine wp_ret_bd ?_
              refine wp_ifn qf_19 ?_
              refine wp_lt qf_142 ?_
              refine wp_gd (Or.inr qf_183) ?_
              refine wp_lt (zbo (zbK qf_184 qf_185) qf_121) ?_
              refine wp_lt qf_143 ?_
              refine wp_ifp qf_144 ?_
              refine wp_bd ?_
              refine wp_of (f2_J1_indexOfChar_4cfef.eq_1 ..) ?_
              refine wp_lt qf_188 ?_
              refine wp_of (f2_J1_indexOfChar_4cfef_7.eq_2 ..) ?_
              refine wp_ifn qf_115 ?_
              refine wp_gd (Or.inr qf_183) ?_
              refine wp_gd (zbi (zbK qf_184 qf_185) qf_122) ?_
              refine wp_lt (ibk qf_32 (ibK qf_184 qf_189)) ?_
              refine wp_ifp qf_190 ?_
              refine wp_ret_bd ?_
              refine wp_ret_bd ?_
              refine wp_of (f2_J0_indexOf_7cf53_36.eq_1 ..) ?_
              refine wp_ret_bd ?_
              refine wp_ret_bd ?_
              refine wp_ifn qf_28 ?_
              refine wp_bd ?_
              refine wp_of (f_X13_isBetween.eq_1 ..) ?_
              refine wp_ifn c4 ?_
              refine wp_ifp c5 ?_
              refine wp_of (f_X13_isBetween_14.eq_1 ..) ?_
              refine wp_of (f_X13_isBetween_15.eq_1 ..) ?_
              refine wp_gd qf_14 ?_
              refine wp_ret_bd ?_
              refine wp_ifp qf_15 ?_
              refine wp_of (f2_X13_addEffect_31.eq_1 ..) ?_
              refine wp_of (f2_X13_addEffect_58.eq_1 ..) ?_
              refine wp_gd ql_K_149 ?_
              refine wp_bd ?_
              refine wp_of (f_X13_isWrong.eq_1 ..) ?_
              refine wp_gd ql_K_149 ?_
              refine wp_zI ?_
              refine wp_ifn qf_110 ?_
              refine wp_of (f_X13_isWrong_14.eq_1 ..) ?_
              refine wp_gd qf_18 ?_
              refine wp_ret_bd ?_
              refine wp_ifn qf_19 ?_
              refine wp_ret_bd ?_
              refine wp_gd ql_K_149 ?_
              refine wp_bd ?_
              refine wp_of (f_X13_thrown.eq_1 ..) ?_
              refine wp_gd ql_K_149 ?_
              refine wp_lt gI_s ?_
              refine wp_ret_bd ?_
              refine wp_ifp qf_111 ?_
              refine wp_ifn qf_112 ?_
              refine wp_of (f_L_law_2104.eq_1 ..) ?_
              refine wp_of (f_L_law_3632.eq_1 ..) ?_
              refine wp_lt qf_21 ?_
              exact hrc _
            · skip
              refine wp_of (f_X10_isIn_15.eq_1 ..) ?_
              refine wp_gd qf_18 ?_
              refine wp_ret_bd ?_
              refine wp_bd ?_
              refine wp_of (f_X10_demand.eq_1 ..) ?_
              refine wp_ifn qf_19 ?_
              refine wp_ret_bd ?_
              refine wp_gd ql_K_25 ?_
              refine wp_lt ql_R_25_0 ?_
              refine wp_gd ql_K_26 ?_
              refine wp_lt ql_I_26_2 ?_
              refine wp_lt ql_R_25_0 ?_
              refine wp_gd ql_K_26 ?_
              refine wp_lt ql_R_26_1 ?_
              refine wp_gd ql_K_28 ?_
              refine wp_lt (gZo ql_Z_28 qf_121) ?_
              refine wp_ifp qf_144 ?_
              refine wp_gd ql_K_1 ?_
              refine wp_lt ql_R_1_2 ?_
              refine wp_gd ql_K_106 ?_
              refine wp_bd ?_
              refine wp_of (f_X6_note.eq_1 ..) ?_
              refine wp_gd ql_K_106 ?_
              refine wp_bd ?_
              refine wp_of (f_X6_open.eq_1 ..) ?_
              refine wp_gd ql_K_106 ?_
              refine wp_lt ql_I_106_2 ?_
              refine wp_lt qf_25 ?_
              refine wp_zI ?_
              refine wp_lt (Eq.trans (gI_b rfl) ql_I_106_2) ?_
              refine wp_ifn qf_26 ?_
              refine wp_lt (Eq.trans (gI_b rfl) ql_I_106_2) ?_
              refine wp_lt qf_27 ?_
              refine wp_zI ?_
              refine wp_of (f_X6_open_31.eq_1 ..) ?_
              refine wp_gd ql_K_106 ?_
              refine wp_bd ?_
              refine wp_of (f_X6_put.eq_1 ..) ?_
              refine wp_gd ql_K_106 ?_
              refine wp_lt (Eq.trans (gI_b rfl) gI_s) ?_
              refine wp_ifn qf_28 ?_
              refine wp_lt (Eq.trans (gI_b rfl) gI_s) ?_
              refine wp_lt ql_R_106_0 ?_
              refine wp_gd ql_K_107 ?_
              refine wp_lt (gZo ql_Z_107 qf_29) ?_
              refine wp_ifn qf_30 ?_
              refine wp_lt ql_R_106_0 ?_
              refine wp_lt (Eq.trans (gI_b rfl) gI_s) ?_
              refine wp_gd ql_K_107 ?_
              refine wp_gd (gZi ql_Z_107 qf_31) ?_
              refine wp_zIk qf_32 ?_
              refine wp_lt (Eq.trans (gI_a rfl) (Eq.trans (gI_b rfl) gI_s)) ?_
              refine wp_lt qf_27 ?_
              refine wp_zI ?_
              refine wp_of (f_X6_put_39.eq_1 ..) ?_
              refine wp_ret_bd ?_
              refine wp_ret_bd ?_
              refine wp_gd ql_K_106 ?_
              refine wp_bd ?_
              refine wp_of (f_X6_put.eq_1 ..) ?_
              refine wp_gd ql_K_106 ?_
              refine wp_lt gI_s ?_
              refine wp_ifn qf_33 ?_
              refine wp_lt gI_s ?_
              refine wp_lt ql_R_106_0 ?_
              refine wp_gd ql_K_107 ?_
              refine wp_lt (gZo ql_Z_107 qf_29) ?_
              refine wp_ifn qf_34 ?_
              refine wp_lt ql_R_106_0 ?_
              refine wp_lt gI_s ?_
              refine wp_gd ql_K_107 ?_
              refine wp_gd (gZi ql_Z_107 qf_35) ?_
              refine wp_zIk qf_36 ?_
              refine wp_lt (Eq.trans (gI_a rfl) gI_s) ?_
              refine wp_lt qf_37 ?_
              refine wp_zI ?_
              refine wp_of (f_X6_put_39.eq_1 ..) ?_
              refine wp_ret_bd ?_
              refine wp_gd ql_K_106 ?_
              refine wp_bd ?_
              refine wp_of (f_X6_put.eq_1 ..) ?_
              refine wp_gd ql_K_106 ?_
              refine wp_lt gI_s ?_
              refine wp_ifn qf_38 ?_
              refine wp_lt gI_s ?_
              refine wp_lt ql_R_106_0 ?_
              refine wp_gd ql_K_107 ?_
              refine wp_lt (gZo ql_Z_107 qf_29) ?_
              refine wp_ifn qf_39 ?_
              refine wp_lt ql_R_106_0 ?_
              refine wp_lt gI_s ?_
              refine wp_gd ql_K_107 ?_
              refine wp_gd (gZi ql_Z_107 qf_40) ?_
              refine wp_zIk qf_41 ?_
              refine wp_lt (Eq.trans (gI_a rfl) gI_s) ?_
              refine wp_lt qf_42 ?_
              refine wp_zI ?_
              refine wp_of (f_X6_put_39.eq_1 ..) ?_
              refine wp_ret_bd ?_
              refine wp_gd ql_K_106 ?_
              refine wp_bd ?_
              refine wp_of (f_X6_put.eq_1 ..) ?_
              refine wp_gd ql_K_106 ?_
              refine wp_lt gI_s ?_
              refine wp_ifn qf_43 ?_
              refine wp_lt gI_s ?_
              refine wp_lt ql_R_106_0 ?_
              refine wp_gd ql_K_107 ?_
              refine wp_lt (gZo ql_Z_107 qf_29) ?_
              refine wp_ifn qf_44 ?_
              refine wp_lt ql_R_106_0 ?_
              refine wp_lt gI_s ?_
              refine wp_gd ql_K_107 ?_
              refine wp_gd (gZi ql_Z_107 qf_45) ?_
              refine wp_zIk qf_46 ?_
              refine wp_lt (Eq.trans (gI_a rfl) gI_s) ?_
              refine wp_lt qf_47 ?_
              refine wp_zI ?_
              refine wp_of (f_X6_put_39.eq_1 ..) ?_
              refine wp_ret_bd ?_
              refine wp_ret_bd ?_
              refine wp_gd ql_K_25 ?_
              refine wp_lt ql_R_25_0 ?_
              refine wp_gd ql_K_26 ?_
              refine wp_bd ?_
              refine wp_of (f_X0_plugIn.eq_1 ..) ?_
              refine wp_gd ql_K_26 ?_
              refine wp_lt (Eq.trans (gI_a rfl) (Eq.trans (gI_a rfl) (Eq.trans (gI_a rfl) (Eq.trans (gI_a rfl) (Eq.trans (gI_a rfl) (Eq.trans (gI_a rfl) (Eq.trans (gI_a rfl) (Eq.trans (gI_a rfl) (Eq.trans (gI_a rfl) (Eq.trans (gI_a rfl) ql_I_26_2)))))))))) ?_
              refine wp_ifn qf_28 ?_
              refine wp_lt (Eq.trans (gI_a rfl) (Eq.trans (gI_a rfl) (Eq.trans (gI_a rfl) (Eq.trans (gI_a rfl) (Eq.trans (gI_a rfl) (Eq.trans (gI_a rfl) (Eq.trans (gI_a rfl) (Eq.trans (gI_a rfl) (Eq.trans (gI_a rfl) (Eq.trans (gI_a rfl) ql_I_26_2)))))))))) ?_
              refine wp_lt ql_R_26_1 ?_
              refine wp_gd ql_K_28 ?_
              refine wp_lt (gZo ql_Z_28 qf_121) ?_
              refine wp_ifn qf_115 ?_
              refine wp_lt ql_R_26_1 ?_
              refine wp_lt (Eq.trans (gI_a rfl) (Eq.trans (gI_a rfl) (Eq.trans (gI_a rfl) (Eq.trans (gI_a rfl) (Eq.trans (gI_a rfl) (Eq.trans (gI_a rfl) (Eq.trans (gI_a rfl) (Eq.trans (gI_a rfl) (Eq.trans (gI_a rfl) (Eq.trans (gI_a rfl) ql_I_26_2)))))))))) ?_
              refine wp_gd ql_K_28 ?_
              refine wp_gd (gZi ql_Z_28 qf_122) ?_
              refine wp_lt (gRk qf_32 ql_R_28_0) ?_
              refine wp_gd ql_K_29 ?_
              refine wp_bd ?_
              refine wp_of (f_X3_begin.eq_1 ..) ?_
              refine wp_gd ql_K_29 ?_
              refine wp_gd qf_191 ?_
              refine wp_zI ?_
              refine wp_zI ?_
              refine wp_zI ?_
              refine wp_ret_bd ?_
              refine wp_gd ql_K_26 ?_
              refine wp_lt (Eq.trans (gI_a rfl) (Eq.trans (gI_a rfl) (Eq.trans (gI_a rfl) (Eq.trans (gI_a rfl) (Eq.trans (gI_a rfl) (Eq.trans (gI_a rfl) (Eq.trans (gI_a rfl) (Eq.trans (gI_a rfl) (Eq.trans (gI_a rfl) (Eq.trans (gI_a rfl) (Eq.trans (gI_a rfl) (Eq.trans (gI_a rfl) (Eq.trans (gI_a rfl) ql_I_26_2))))))))))))) ?_
              refine wp_lt qf_27 ?_
              refine wp_zI ?_
              refine wp_of (f_X0_plugIn_43.eq_1 ..) ?_
              refine wp_gd ql_K_26 ?_
              refine wp_lt gI_s ?_
              refine wp_ret_bd ?_
              refine wp_ret_bdc ?_
              refine wp_lt qf_192 ?_
              refine wp_gd ql_K_173 ?_
              refine wp_gd (gZi ql_Z_173 qf_71) ?_
              refine wp_zLk qf_32 ?_
              refine wp_ret_bd ?_
              refine wp_gd qf_0 ?_
              refine wp_lt (xsk qf_1 hy1) ?_
              refine wp_gd qf_2 ?_
              refine wp_lt (xsk qf_3 hy2) ?_
              refine wp_lt hwy2 ?_
              refine wp_gd qf_4 ?_
              refine wp_lt (xsk qf_5 hy3) ?_
              refine wp_gd ql_K_149 ?_
              refine wp_bd ?_
              refine wp_of (f2_X13_addEffect.eq_1 ..) ?_
              refine wp_bd ?_
              refine wp_of (f_X13_isDeck.eq_1 ..) ?_
              refine wp_bd ?_
              refine wp_of (f_X13_isBetween.eq_1 ..) ?_
              refine wp_ifn qf_33 ?_
              refine wp_ifn qf_101 ?_
              refine wp_of (f_X13_isBetween_15.eq_1 ..) ?_
              refine wp_gd qf_18 ?_
              refine wp_ret_bd ?_
              refine wp_gd qf_18 ?_
              refine wp_ret_bd ?_
              refine wp_ifn qf_19 ?_
              refine wp_gd (Or.inr qf_180) ?_
              refine wp_bd ?_
              refine wp_of (f2_J0_indexOf_0f7a4.eq_1 ..) ?_
              refine wp_gd (Or.inr qf_180) ?_
              refine wp_bd ?_
              refine wp_of (f2_J0_indexOf_7cf53.eq_1 ..) ?_
              refine wp_gd (Or.inr qf_180) ?_
              refine wp_bd ?_
              refine wp_of (f2_J0_isLatin1_aae02.eq_1 ..) ?_
              refine wp_ifn qf_19 ?_
              refine wp_gd (Or.inr qf_180) ?_
              refine wp_lt (ifR qf_181 rfl) ?_
              refine wp_ifp qf_15 ?_
              refine wp_of (f2_J0_isLatin1_aae02_18.eq_1 ..) ?_
              refine wp_gd qf_18 ?_
              refine wp_ret_bd ?_
              refine wp_ifn qf_19 ?_
              refine wp_gd (Or.inr qf_180) ?_
              refine wp_lt (ifR qf_181 qf_182) ?_
              refine wp_gd (Or.inr qf_180) ?_
              refine wp_bd ?_
              refine wp_of (f2_J0_length_8abf5.eq_1 ..) ?_
              refine wp_gd (Or.inr qf_180) ?_
              refine wp_lt (ifR qf_181 qf_182) ?_
              refine wp_gd (Or.inr qf_183) ?_
              refine wp_lt (zbo (zbK qf_184 qf_185) qf_121) ?_
              refine wp_gd (Or.inr qf_180) ?_
              refine wp_bd ?_
              refine wp_of (f2_J0_coder_7d493.eq_1 ..) ?_
              refine wp_ifn qf_19 ?_
              refine wp_gd (Or.inr qf_180) ?_
              refine wp_lt (ifR qf_181 rfl) ?_
              refine wp_of (f2_J0_coder_7d493_14.eq_1 ..) ?_
              refine wp_gd qf_138 ?_
              refine wp_ret_bd ?_
              refine wp_lt qf_139 ?_
              refine wp_ret_bd ?_
              refine wp_bd ?_
              refine wp_of (f2_J1_indexOf_4cfef.eq_1 ..) ?_
              refine wp_bd ?_
              refine wp_of (f_J1_canEncode_9a6ad.eq_1 ..) ?_
              refine wp_ifn qf_186 ?_
              refine wp_ifn qf_187 ?_
              refine wp_of (f_J1_canEncode_9a6ad_16.eq_1 ..) ?_
              refine wp_gd qf_18 ?_
              refine wp_ret_bd ?_
              refine wp_ifn qf_19 ?_
              refine wp_lt qf_142 ?_
              refine wp_gd (Or.inr qf_183) ?_
              refine wp_lt (zbo (zbK qf_184 qf_185) qf_121) ?_
              refine wp_lt qf_143 ?_
              refine wp_ifp qf_144 ?_
              refine wp_bd ?_
              refine wp_of (f2_J1_indexOfChar_4cfef.eq_1 ..) ?_
              refine wp_lt qf_188 ?_
              refine wp_of (f2_J1_indexOfChar_4cfef_7.eq_2 ..) ?_
              refine wp_ifn qf_115 ?_
              refine wp_gd (Or.inr qf_183) ?_
              refine wp_gd (zbi (zbK qf_184 qf_185) qf_122) ?_
              refine wp_lt (ibk qf_32 (ibK qf_184 qf_189)) ?_
              refine wp_ifp qf_190 ?_
              refine wp_ret_bd ?_
              refine wp_ret_bd ?_
              refine wp_of (f2_J0_indexOf_7cf53_36.eq_1 ..) ?_
              refine wp_ret_bd ?_
              refine wp_ret_bd ?_
              refine wp_ifn qf_28 ?_
              refine wp_bd ?_
              refine wp_of (f_X13_isBetween.eq_1 ..) ?_
              refine wp_ifn c4 ?_
              refine wp_ifn c5 ?_
              refine wp_of (f_X13_isBetween_15.eq_1 ..) ?_
              refine wp_gd qf_18 ?_
              refine wp_ret_bd ?_
              refine wp_ifn qf_19 ?_
              refine wp_gd ql_K_149 ?_
              refine wp_lt ql_R_149_2 ?_
              refine wp_gd ql_K_151 ?_
              refine wp_gd (gZi ql_Z_151 qf_99) ?_
              refine wp_lt (gRk qf_36 ql_R_151_1) ?_
              refine wp_gd ql_K_156 ?_
              refine wp_lt ql_R_156_8 ?_
              refine wp_gd ql_K_159 ?_
              refine wp_bd ?_
              refine wp_of (f_Jx4a65c_size_8abf5.eq_1 ..) ?_
              refine wp_gd ql_K_159 ?_
              refine wp_lt (Eq.trans (gI_a rfl) (Eq.trans (gI_a rfl) (Eq.trans (gI_a rfl) (Eq.trans (gI_a rfl) (Eq.trans (gI_a rfl) (Eq.trans (gI_a rfl) (Eq.trans (gI_a rfl) (Eq.trans (gI_a rfl) (Eq.trans (gI_a rfl) (Eq.trans (gI_a rfl) (Eq.trans (gI_a rfl) (Eq.trans (gI_a rfl) (Eq.trans (gI_a rfl) (Eq.trans (gI_a rfl) ql_I_159_2)))))))))))))) ?_
              refine wp_ret_bd ?_
              refine wp_ifn qf_193 ?_
              refine wp_of (f2_X13_addEffect_58.eq_1 ..) ?_
              refine wp_gd ql_K_149 ?_
              refine wp_bd ?_
              refine wp_of (f_X13_isWrong.eq_1 ..) ?_
              refine wp_gd ql_K_149 ?_
              refine wp_zI ?_
              refine wp_ifp qf_73 ?_
              refine wp_of (f_X13_isWrong_14.eq_1 ..) ?_
              refine wp_gd qf_14 ?_
              refine wp_ret_bd ?_
              refine wp_ifp qf_15 ?_
              refine wp_gd ql_K_149 ?_
              refine wp_lt ql_R_149_2 ?_
              refine wp_gd ql_K_151 ?_
              refine wp_gd (gZi ql_Z_151 qf_99) ?_
              refine wp_lt (gRk qf_36 ql_R_151_1) ?_
              refine wp_gd ql_K_156 ?_
              refine wp_lt ql_R_156_8 ?_
              refine wp_gd (gNk (n := 174) qf_74) ?_
              refine wp_zW (m := 175) rfl ?_
              refine wp_lt (show _ = 175 from rfl) ?_
              refine wp_gd (gZi gZ_n qf_122) ?_
              refine wp_zIk qf_32 ?_
              refine wp_gd (gZi gZ_n qf_125) ?_
              refine wp_zIk qf_36 ?_
              refine wp_gd (gZi gZ_n qf_127) ?_
              refine wp_zIk qf_41 ?_
              refine wp_gd (Eq.trans (gK_w rfl) ql_K_159) ?_
              refine wp_bd ?_
              refine wp_of (f2_Jx4a65c_add_9ea2d.eq_1 ..) ?_
              refine wp_gd (Eq.trans (gK_w rfl) ql_K_159) ?_
              refine wp_lt (Eq.trans (gI_a rfl) (Eq.trans (gI_a rfl) (Eq.trans (gI_a rfl) (Eq.trans (gI_w rfl) (Eq.trans (gI_a rfl) (Eq.trans (gI_a rfl) (Eq.trans (gI_a rfl) (Eq.trans (gI_a rfl) (Eq.trans (gI_a rfl) (Eq.trans (gI_a rfl) (Eq.trans (gI_a rfl) (Eq.trans (gI_a rfl) (Eq.trans (gI_a rfl) (Eq.trans (gI_a rfl) (Eq.trans (gI_a rfl) (Eq.trans (gI_a rfl) (Eq.trans (gI_a rfl) (Eq.trans (gI_a rfl) (Eq.trans (gI_a rfl) ql_I_159_0))))))))))))))))))) ?_
              refine wp_lt qf_27 ?_
              refine wp_zI ?_
              refine wp_lt (Eq.trans (gR_w rfl) ql_R_159_1) ?_
              refine wp_lt (Eq.trans (gI_b rfl) (Eq.trans (gI_a rfl) (Eq.trans (gI_a rfl) (Eq.trans (gI_a rfl) (Eq.trans (gI_w rfl) (Eq.trans (gI_a rfl) (Eq.trans (gI_a rfl) (Eq.trans (gI_a rfl) (Eq.trans (gI_a rfl) (Eq.trans (gI_a rfl) (Eq.trans (gI_a rfl) (Eq.trans (gI_a rfl) (Eq.trans (gI_a rfl) (Eq.trans (gI_a rfl) (Eq.trans (gI_a rfl) (Eq.trans (gI_a rfl) (Eq.trans (gI_a rfl) (Eq.trans (gI_a rfl) (Eq.trans (gI_a rfl) (Eq.trans (gI_a rfl) ql_I_159_2)))))))))))))))))))) ?_
              refine wp_bd ?_
              refine wp_of (f2_Jx4a65c_add_72be8.eq_1 ..) ?_
              refine wp_ifp qf_75 ?_
              refine wp_ifp qf_15 ?_
              refine wp_gd (Eq.trans (gK_w rfl) ql_K_159) ?_
              refine wp_bd ?_
              refine wp_of (f2_Jx4a65c_grow_d5877.eq_1 ..) ?_
              refine wp_gd (Eq.trans (gK_w rfl) ql_K_159) ?_
              refine wp_lt (Eq.trans (gI_b rfl) (Eq.trans (gI_a rfl) (Eq.trans (gI_a rfl) (Eq.trans (gI_a rfl) (Eq.trans (gI_w rfl) (Eq.trans (gI_a rfl) (Eq.trans (gI_a rfl) (Eq.trans (gI_a rfl) (Eq.trans (gI_a rfl) (Eq.trans (gI_a rfl) (Eq.trans (gI_a rfl) (Eq.trans (gI_a rfl) (Eq.trans (gI_a rfl) (Eq.trans (gI_a rfl) (Eq.trans (gI_a rfl) (Eq.trans (gI_a rfl) (Eq.trans (gI_a rfl) (Eq.trans (gI_a rfl) (Eq.trans (gI_a rfl) (Eq.trans (gI_a rfl) ql_I_159_2)))))))))))))))))))) ?_
              refine wp_lt qf_27 ?_
              refine wp_bd ?_
              refine wp_of (f2_Jx4a65c_grow_92f84.eq_1 ..) ?_
              refine wp_gd (Eq.trans (gK_w rfl) ql_K_159) ?_
              refine wp_lt (Eq.trans (gR_w rfl) ql_R_159_1) ?_
              refine wp_ifp qf_75 ?_
              refine wp_ifn qf_28 ?_
              refine wp_lt (Eq.trans (gR_w rfl) ql_R_159_1) ?_
              refine wp_gd qf_76 ?_
              refine wp_ifp qf_75 ?_
              refine wp_lt qf_77 ?_
              refine wp_ifp qf_78 ?_
              refine wp_gd (gNk (n := 175) qf_79) ?_
              refine wp_zW (m := 176) rfl ?_
              refine wp_lt (show _ = 176 from rfl) ?_
              refine wp_gd (Eq.trans (gK_w rfl) (Eq.trans (gK_w rfl) ql_K_159)) ?_
              refine wp_zR ?_
              refine wp_ret_bd ?_
              refine wp_ret_bd ?_
              refine wp_of (f2_Jx4a65c_add_72be8_11.eq_1 ..) ?_
              refine wp_gd gK_n ?_
              refine wp_gd (gZi gZ_n qf_80) ?_
              refine wp_ifn (neK (Eq.trans (gK_w rfl) gK_n) qf_194) ?_
              refine wp_gd (Eq.trans (gK_w rfl) gK_n) ?_
              refine wp_zRk qf_32 ?_
              refine wp_lt qf_27 ?_
              refine wp_gd (Eq.trans (gK_w rfl) (Eq.trans (gK_w rfl) ql_K_159)) ?_
              refine wp_zI ?_
              refine wp_ret_bd ?_
              refine wp_ret_bd ?_
              refine wp_gd (Eq.trans (gK_w rfl) (Eq.trans (gK_w rfl) ql_K_149)) ?_
              refine wp_bd ?_
              refine wp_of (f_X13_logs.eq_1 ..) ?_
              refine wp_gd (Eq.trans (gK_w rfl) (Eq.trans (gK_w rfl) ql_K_149)) ?_
              refine wp_lt (Eq.trans (gI_a rfl) (Eq.trans (gI_w rfl) (Eq.trans (gI_a rfl) (Eq.trans (gI_a rfl) (Eq.trans (gI_a rfl) (Eq.trans (gI_a rfl) (Eq.trans (gI_w rfl) (Eq.trans (gI_b rfl) (Eq.trans (gI_a rfl) (Eq.trans (gI_a rfl) (Eq.trans (gI_a rfl) (Eq.trans (gI_a rfl) (Eq.trans (gI_a rfl) (Eq.trans (gI_a rfl) (Eq.trans (gI_a rfl) (Eq.trans (gI_a rfl) (Eq.trans (gI_a rfl) (Eq.trans (gI_a rfl) (Eq.trans (gI_a rfl) (Eq.trans (gI_a rfl) (Eq.trans (gI_a rfl) (Eq.trans (gI_a rfl) ql_I_149_16)))))))))))))))))))))) ?_
              refine wp_lt qf_27 ?_
              refine wp_zI ?_
              refine wp_ret_bd ?_
              refine wp_gd (Eq.trans (gK_w rfl) (Eq.trans (gK_w rfl) ql_K_149)) ?_
              refine wp_lt (Eq.trans (gR_a rfl) (Eq.trans (gR_a rfl) (Eq.trans (gR_w rfl) (Eq.trans (gR_w rfl) ql_R_149_2)))) ?_
              refine wp_gd (Eq.trans (gK_w rfl) (Eq.trans (gK_w rfl) ql_K_151)) ?_
              refine wp_gd (gZi (Eq.trans (gZ_w rfl) (Eq.trans (gZ_w rfl) ql_Z_151)) qf_99) ?_
              refine wp_lt (gRk qf_36 (Eq.trans (gR_a rfl) (Eq.trans (gR_a rfl) (Eq.trans (gR_w rfl) (Eq.trans (gR_w rfl) ql_R_151_1))))) ?_
              refine wp_gd (Eq.trans (gK_w rfl) (Eq.trans (gK_w rfl) ql_K_156)) ?_
              refine wp_lt (Eq.trans (gR_a rfl) (Eq.trans (gR_a rfl) (Eq.trans (gR_w rfl) (Eq.trans (gR_w rfl) ql_R_156_8)))) ?_
              refine wp_gd (Eq.trans (gK_w rfl) (Eq.trans (gK_w rfl) ql_K_159)) ?_
              refine wp_bd ?_
              refine wp_of (f_Jx4a65c_size_8abf5.eq_1 ..) ?_
              refine wp_gd (Eq.trans (gK_w rfl) (Eq.trans (gK_w rfl) ql_K_159)) ?_
              refine wp_lt (Eq.trans (gI_a rfl) gI_s) ?_
              refine wp_ret_bd ?_
              refine wp_ret_bd ?_
              refine wp_gd (Eq.trans (gK_w rfl) (Eq.trans (gK_w rfl) ql_K_149)) ?_
              refine wp_bd ?_
              refine wp_of (f_X13_thrown.eq_1 ..) ?_
              refine wp_gd (Eq.trans (gK_w rfl) (Eq.trans (gK_w rfl) ql_K_149)) ?_
              refine wp_lt (Eq.trans (gI_b rfl) (Eq.trans (gI_a rfl) (Eq.trans (gI_w rfl) (Eq.trans (gI_a rfl) (Eq.trans (gI_a rfl) (Eq.trans (gI_a rfl) (Eq.trans (gI_a rfl) (Eq.trans (gI_w rfl) gI_s)))))))) ?_
              refine wp_ret_bd ?_
              refine wp_ifp qf_15 ?_
              refine wp_ifp qf_15 ?_
              refine wp_gd (Eq.trans (gK_w rfl) (Eq.trans (gK_w rfl) ql_K_173)) ?_
              refine wp_gd (gZi (Eq.trans (gZ_w rfl) (Eq.trans (gZ_w rfl) ql_Z_173)) qf_71) ?_
              refine wp_lt (gLk qf_32 (Eq.trans (gL_w rfl) (Eq.trans (gL_w rfl) gL_s))) ?_
              refine wp_lt qf_192 ?_
              refine wp_lt qf_195 ?_
              refine wp_ifp qf_15 ?_
              refine wp_of (f_L_law_2104.eq_1 ..) ?_
              refine wp_of (f_L_law_3632.eq_1 ..) ?_
              refine wp_lt qf_21 ?_
              exact hrc _
        · skip
          refine wp_if (fun c4 => ?_) (fun c4 => ?_)
          · skip
            subst c4
            refine wp_of (f_X10_addEffect_25.eq_1 ..) ?_
            refine wp_of (f_X10_addEffect_30.eq_1 ..) ?_
            refine wp_bd ?_
            refine wp_of (f_X10_demand.eq_1 ..) ?_
            refine wp_ifn qf_19 ?_
            refine wp_ret_bd ?_
            refine wp_bd ?_
            refine wp_of (f_X10_isIn.eq_1 ..) ?_
            refine wp_if (fun c5 => ?_) (fun c5 => ?_)
            · skip
              refine wp_of (f_X10_isIn_14.eq_1 ..) ?_
              refine wp_of (f_X10_isIn_15.eq_1 ..) ?_
              refine wp_gd qf_14 ?_
              refine wp_ret_bd ?_
              refine wp_bd ?_
              refine wp_of (f_X10_demand.eq_1 ..) ?_
              refine wp_ifp qf_15 ?_
              refine wp_rs_bd ?_
              refine wp_rs_bdc ?_
              refine wp_ifn qf_113 ?_
              refine wp_ifp qf_16 ?_
              refine wp_ret_bd ?_
              refine wp_gd qf_0 ?_
              refine wp_lt (xsk qf_1 hy1) ?_
              refine wp_gd qf_2 ?_
              refine wp_lt (xsk qf_3 hy2) ?_
              refine wp_lt hwy2 ?_
              refine wp_gd qf_4 ?_
              refine wp_lt (xsk qf_5 hy3) ?_
              refine wp_gd ql_K_149 ?_
              refine wp_bd ?_
              refine wp_of (f2_X13_addEffect.eq_1 ..) ?_
              refine wp_bd ?_
              refine wp_of (f_X13_isDeck.eq_1 ..) ?_
              refine wp_bd ?_
              refine wp_of (f_X13_isBetween.eq_1 ..) ?_
              refine wp_ifn qf_33 ?_
              refine wp_ifn qf_101 ?_
              refine wp_of (f_X13_isBetween_15.eq_1 ..) ?_
              refine wp_gd qf_18 ?_
              refine wp_ret_bd ?_
              refine wp_gd qf_18 ?_
              refine wp_ret_bd ?_
              refine wp_ifn qf_19 ?_
              refine wp_gd (Or.inr qf_180) ?_
              refine wp_bd ?_
              refine wp_of (f2_J0_indexOf_0f7a4.eq_1 ..) ?_
              refine wp_gd (Or.inr qf_180) ?_
              refine wp_bd ?_
              refine wp_of (f2_J0_indexOf_7cf53.eq_1 ..) ?_
              refine wp_gd (Or.inr qf_180) ?_
              refine wp_bd ?_
              refine wp_of (f2_J0_isLatin1_aae02.eq_1 ..) ?_
              refine wp_ifn qf_19 ?_
              refine wp_gd (Or.inr qf_180) ?_
              refine wp_lt (ifR qf_181 rfl) ?_
              refine wp_ifp qf_15 ?_
              refine wp_of (f2_J0_isLatin1_aae02_18.eq_1 ..) ?_
              refine wp_gd qf_18 ?_
              refine wp_ret_bd ?_
              refine wp_ifn qf_19 ?_
              refine wp_gd (Or.inr qf_180) ?_
              refine wp_lt (ifR qf_181 qf_182) ?_
              refine wp_gd (Or.inr qf_180) ?_
              refine wp_bd ?_
              refine wp_of (f2_J0_length_8abf5.eq_1 ..) ?_
              refine wp_gd (Or.inr qf_180) ?_
              refine wp_lt (ifR qf_181 qf_182) ?_
              refine wp_gd (Or.inr qf_183) ?_
              refine wp_lt (zbo (zbK qf_184 qf_185) qf_121) ?_
              refine wp_gd (Or.inr qf_180) ?_
              refine wp_bd ?_
              refine wp_of (f2_J0_coder_7d493.eq_1 ..) ?_
              refine wp_ifn qf_19 ?_
              refine wp_gd (Or.inr qf_180) ?_
              refine wp_lt (ifR qf_181 rfl) ?_
              refine wp_of (f2_J0_coder_7d493_14.eq_1 ..) ?_
              refine wp_gd qf_138 ?_
              refine wp_ret_bd ?_
              refine wp_lt qf_139 ?_
              refine wp_ret_bd ?_
              refine wp_bd ?_
              refine wp_of (f2_J1_indexOf_4cfef.eq_1 ..) ?_
              refine wp_bd ?_
              refine wp_of (f_J1_canEncode_9a6ad.eq_1 ..) ?_
              refine wp_ifn qf_159 ?_
              refine wp_ifn qf_160 ?_
              refine wp_of (f_J1_canEncode_9a6ad_16.eq_1 ..) ?_
              refine wp_gd qf_18 ?_
              refine wp_ret_bd ?_
              refine wp_ifn qf_19 ?_
              refine wp_lt qf_142 ?_
              refine wp_gd (Or.inr qf_183) ?_
              refine wp_lt (zbo (zbK qf_184 qf_185) qf_121) ?_
              refine wp_lt qf_143 ?_
              refine wp_ifp qf_144 ?_
              refine wp_bd ?_
              refine wp_of (f2_J1_indexOfChar_4cfef.eq_1 ..) ?_
              refine wp_lt qf_161 ?_
              refine wp_of (f2_J1_indexOfChar_4cfef_7.eq_2 ..) ?_
              refine wp_ifn qf_115 ?_
              refine wp_gd (Or.inr qf_183) ?_
              refine wp_gd (zbi (zbK qf_184 qf_185) qf_122) ?_
              refine wp_lt (ibk qf_32 (ibK qf_184 qf_189)) ?_
              refine wp_ifn qf_196 ?_
              refine wp_lt qf_153 ?_
              refine wp_of (f2_J1_indexOfChar_4cfef_7.eq_2 ..) ?_
              refine wp_ifn qf_154 ?_
              refine wp_gd (Or.inr qf_183) ?_
              refine wp_gd (zbi (zbK qf_184 qf_185) qf_125) ?_
              refine wp_lt (ibk qf_36 (ibK qf_184 qf_197)) ?_
              refine wp_ifp qf_167 ?_
              refine wp_ret_bd ?_
              refine wp_ret_bd ?_
              refine wp_of (f2_J0_indexOf_7cf53_36.eq_1 ..) ?_
              refine wp_ret_bd ?_
              refine wp_ret_bd ?_
              refine wp_ifn qf_33 ?_
              refine wp_bd ?_
              refine wp_of (f_X13_isBetween.eq_1 ..) ?_
              refine wp_ifp c5 ?_
              refine wp_of (f_X13_isBetween_14.eq_1 ..) ?_
              refine wp_of (f_X13_isBetween_15.eq_1 ..) ?_
              refine wp_gd qf_14 ?_
              refine wp_ret_bd ?_
              refine wp_ifp qf_15 ?_
              refine wp_of (f2_X13_addEffect_31.eq_1 ..) ?_
              refine wp_of (f2_X13_addEffect_58.eq_1 ..) ?_
              refine wp_gd ql_K_149 ?_
              refine wp_bd ?_
              refine wp_of (f_X13_isWrong.eq_1 ..) ?_
              refine wp_gd ql_K_149 ?_
              refine wp_zI ?_
              refine wp_ifn qf_110 ?_
              refine wp_of (f_X13_isWrong_14.eq_1 ..) ?_
              refine wp_gd qf_18 ?_
              refine wp_ret_bd ?_
              refine wp_ifn qf_19 ?_
              refine wp_ret_bd ?_
              refine wp_gd ql_K_149 ?_
              refine wp_bd ?_
              refine wp_of (f_X13_thrown.eq_1 ..) ?_
              refine wp_gd ql_K_149 ?_
              refine wp_lt gI_s ?_
              refine wp_ret_bd ?_
              refine wp_ifp qf_111 ?_
              refine wp_ifn qf_112 ?_
              refine wp_of (f_L_law_2104.eq_1 ..) ?_
              refine wp_of (f_L_law_3632.eq_1 ..) ?_
              refine wp_lt qf_21 ?_
              exact hrc _
            · skip
              refine wp_if (fun c6 => ?_) (fun c6 => ?_)
              · skip
                refine wp_of (f_X10_isIn_14.eq_1 ..) ?_
                refine wp_of (f_X10_isIn_15.eq_1 ..) ?_
                refine wp_gd qf_14 ?_
                refine wp_ret_bd ?_
                refine wp_bd ?_
                refine wp_of (f_X10_demand.eq_1 ..) ?_
                refine wp_ifp qf_15 ?_
                refine wp_rs_bd ?_
                refine wp_rs_bdc ?_
                refine wp_ifn qf_113 ?_
                refine wp_ifp qf_16 ?_
                refine wp_ret_bd ?_
                refine wp_gd qf_0 ?_
                refine wp_lt (xsk qf_1 hy1) ?_
                refine wp_gd qf_2 ?_
                refine wp_lt (xsk qf_3 hy2) ?_
                refine wp_lt hwy2 ?_
                refine wp_gd qf_4 ?_
                refine wp_lt (xsk qf_5 hy3) ?_
                refine wp_gd ql_K_149 ?_
                refine wp_bd ?_
                refine wp_of (f2_X13_addEffect.eq_1 ..) ?_
                refine wp_bd ?_
                refine wp_of (f_X13_isDeck.eq_1 ..) ?_
                refine wp_bd ?_
                refine wp_of (f_X13_isBetween.eq_1 ..) ?_
                refine wp_ifn qf_33 ?_
                refine wp_ifn qf_101 ?_
                refine wp_of (f_X13_isBetween_15.eq_1 ..) ?_
                refine wp_gd qf_18 ?_
                refine wp_ret_bd ?_
                refine wp_gd qf_18 ?_
                refine wp_ret_bd ?_
                refine wp_ifn qf_19 ?_
                refine wp_gd (Or.inr qf_180) ?_
                refine wp_bd ?_
                refine wp_of (f2_J0_indexOf_0f7a4.eq_1 ..) ?_
                refine wp_gd (Or.inr qf_180) ?_
                refine wp_bd ?_
                refine wp_of (f2_J0_indexOf_7cf53.eq_1 ..) ?_
                refine wp_gd (Or.inr qf_180) ?_
                refine wp_bd ?_
                refine wp_of (f2_J0_isLatin1_aae02.eq_1 ..) ?_
                refine wp_ifn qf_19 ?_
                refine wp_gd (Or.inr qf_180) ?_
                refine wp_lt (ifR qf_181 rfl) ?_
                refine wp_ifp qf_15 ?_
                refine wp_of (f2_J0_isLatin1_aae02_18.eq_1 ..) ?_
                refine wp_gd qf_18 ?_
                refine wp_ret_bd ?_
                refine wp_ifn qf_19 ?_
                refine wp_gd (Or.inr qf_180) ?_
                refine wp_lt (ifR qf_181 qf_182) ?_
                refine wp_gd (Or.inr qf_180) ?_
                refine wp_bd ?_
                refine wp_of (f2_J0_length_8abf5.eq_1 ..) ?_
                refine wp_gd (Or.inr qf_180) ?_
                refine wp_lt (ifR qf_181 qf_182) ?_
                refine wp_gd (Or.inr qf_183) ?_
                refine wp_lt (zbo (zbK qf_184 qf_185) qf_121) ?_
                refine wp_gd (Or.inr qf_180) ?_
                refine wp_bd ?_
                refine wp_of (f2_J0_coder_7d493.eq_1 ..) ?_
                refine wp_ifn qf_19 ?_
                refine wp_gd (Or.inr qf_180) ?_
                refine wp_lt (ifR qf_181 rfl) ?_
                refine wp_of (f2_J0_coder_7d493_14.eq_1 ..) ?_
                refine wp_gd qf_138 ?_
                refine wp_ret_bd ?_
                refine wp_lt qf_139 ?_
                refine wp_ret_bd ?_
                refine wp_bd ?_
                refine wp_of (f2_J1_indexOf_4cfef.eq_1 ..) ?_
                refine wp_bd ?_
                refine wp_of (f_J1_canEncode_9a6ad.eq_1 ..) ?_
                refine wp_ifn qf_159 ?_
                refine wp_ifn qf_160 ?_
                refine wp_of (f_J1_canEncode_9a6ad_16.eq_1 ..) ?_
                refine wp_gd qf_18 ?_
                refine wp_ret_bd ?_
                refine wp_ifn qf_19 ?_
                refine wp_lt qf_142 ?_
                refine wp_gd (Or.inr qf_183) ?_
                refine wp_lt (zbo (zbK qf_184 qf_185) qf_121) ?_
                refine wp_lt qf_143 ?_
                refine wp_ifp qf_144 ?_
                refine wp_bd ?_
                refine wp_of (f2_J1_indexOfChar_4cfef.eq_1 ..) ?_
                refine wp_lt qf_161 ?_
                refine wp_of (f2_J1_indexOfChar_4cfef_7.eq_2 ..) ?_
                refine wp_ifn qf_115 ?_
                refine wp_gd (Or.inr qf_183) ?_
                refine wp_gd (zbi (zbK qf_184 qf_185) qf_122) ?_
                refine wp_lt (ibk qf_32 (ibK qf_184 qf_189)) ?_
                refine wp_ifn qf_196 ?_
                refine wp_lt qf_153 ?_
                refine wp_of (f2_J1_indexOfChar_4cfef_7.eq_2 ..) ?_
                refine wp_ifn qf_154 ?_
                refine wp_gd (Or.inr qf_183) ?_
                refine wp_gd (zbi (zbK qf_184 qf_185) qf_125) ?_
                refine wp_lt (ibk qf_36 (ibK qf_184 qf_197)) ?_
                refine wp_ifp qf_167 ?_
                refine wp_ret_bd ?_
                refine wp_ret_bd ?_
                refine wp_of (f2_J0_indexOf_7cf53_36.eq_1 ..) ?_
                refine wp_ret_bd ?_
                refine wp_ret_bd ?_
                refine wp_ifn qf_33 ?_
                refine wp_bd ?_
                refine wp_of (f_X13_isBetween.eq_1 ..) ?_
                refine wp_ifn c5 ?_
                refine wp_ifp c6 ?_
                refine wp_of (f_X13_isBetween_14.eq_1 ..) ?_
                refine wp_of (f_X13_isBetween_15.eq_1 ..) ?_
                refine wp_gd qf_14 ?_
                refine wp_ret_bd ?_
                refine wp_ifp qf_15 ?_
                refine wp_of (f2_X13_addEffect_31.eq_1 ..) ?_
                refine wp_of (f2_X13_addEffect_58.eq_1 ..) ?_
                refine wp_gd ql_K_149 ?_
                refine wp_bd ?_
                refine wp_of (f_X13_isWrong.eq_1 ..) ?_
                refine wp_gd ql_K_149 ?_
                refine wp_zI ?_
                refine wp_ifn qf_110 ?_
                refine wp_of (f_X13_isWrong_14.eq_1 ..) ?_
                refine wp_gd qf_18 ?_
                refine wp_ret_bd ?_
                refine wp_ifn qf_19 ?_
                refine wp_ret_bd ?_
                refine wp_gd ql_K_149 ?_
                refine wp_bd ?_
                refine wp_of (f_X13_thrown.eq_1 ..) ?_
                refine wp_gd ql_K_149 ?_
                refine wp_lt gI_s ?_
                refine wp_ret_bd ?_
                refine wp_ifp qf_111 ?_
                refine wp_ifn qf_112 ?_
                refine wp_of (f_L_law_2104.eq_1 ..) ?_
                refine wp_of (f_L_law_3632.eq_1 ..) ?_
                refine wp_lt qf_21 ?_
                exact hrc _
              · skip
                refine wp_of (f_X10_isIn_15.eq_1 ..) ?_
                refine wp_gd qf_18 ?_
                refine wp_ret_bd ?_
                refine wp_bd ?_
                refine wp_of (f_X10_demand.eq_1 ..) ?_
                refine wp_ifn qf_19 ?_
                refine wp_ret_bd ?_
                refine wp_gd ql_K_25 ?_
                refine wp_lt ql_R_25_0 ?_
                refine wp_gd ql_K_26 ?_
                refine wp_lt ql_I_26_2 ?_
                refine wp_lt ql_R_25_0 ?_
                refine wp_gd ql_K_26 ?_
                refine wp_lt ql_R_26_1 ?_
                refine wp_gd ql_K_28 ?_
                refine wp_lt (gZo ql_Z_28 qf_121) ?_
                refine wp_ifp qf_144 ?_
                refine wp_gd ql_K_1 ?_
                refine wp_lt ql_R_1_2 ?_
                refine wp_gd ql_K_106 ?_
                refine wp_bd ?_
                refine wp_of (f_X6_note.eq_1 ..) ?_
                refine wp_gd ql_K_106 ?_
                refine wp_bd ?_
                refine wp_of (f_X6_open.eq_1 ..) ?_
                refine wp_gd ql_K_106 ?_
                refine wp_lt ql_I_106_2 ?_
                refine wp_lt qf_25 ?_
                refine wp_zI ?_
                refine wp_lt (Eq.trans (gI_b rfl) ql_I_106_2) ?_
                refine wp_ifn qf_26 ?_
                refine wp_lt (Eq.trans (gI_b rfl) ql_I_106_2) ?_
                refine wp_lt qf_27 ?_
                refine wp_zI ?_
                refine wp_of (f_X6_open_31.eq_1 ..) ?_
                refine wp_gd ql_K_106 ?_
                refine wp_bd ?_
                refine wp_of (f_X6_put.eq_1 ..) ?_
                refine wp_gd ql_K_106 ?_
                refine wp_lt (Eq.trans (gI_b rfl) gI_s) ?_
                refine wp_ifn qf_28 ?_
                refine wp_lt (Eq.trans (gI_b rfl) gI_s) ?_
                refine wp_lt ql_R_106_0 ?_
                refine wp_gd ql_K_107 ?_
                refine wp_lt (gZo ql_Z_107 qf_29) ?_
                refine wp_ifn qf_30 ?_
                refine wp_lt ql_R_106_0 ?_
                refine wp_lt (Eq.trans (gI_b rfl) gI_s) ?_
                refine wp_gd ql_K_107 ?_
                refine wp_gd (gZi ql_Z_107 qf_31) ?_
                refine wp_zIk qf_32 ?_
                refine wp_lt (Eq.trans (gI_a rfl) (Eq.trans (gI_b rfl) gI_s)) ?_
                refine wp_lt qf_27 ?_
                refine wp_zI ?_
                refine wp_of (f_X6_put_39.eq_1 ..) ?_
                refine wp_ret_bd ?_
                refine wp_ret_bd ?_
                refine wp_gd ql_K_106 ?_
                refine wp_bd ?_
                refine wp_of (f_X6_put.eq_1 ..) ?_
                refine wp_gd ql_K_106 ?_
                refine wp_lt gI_s ?_
                refine wp_ifn qf_33 ?_
                refine wp_lt gI_s ?_
                refine wp_lt ql_R_106_0 ?_
                refine wp_gd ql_K_107 ?_
                refine wp_lt (gZo ql_Z_107 qf_29) ?_
                refine wp_ifn qf_34 ?_
                refine wp_lt ql_R_106_0 ?_
                refine wp_lt gI_s ?_
                refine wp_gd ql_K_107 ?_
                refine wp_gd (gZi ql_Z_107 qf_35) ?_
                refine wp_zIk qf_36 ?_
                refine wp_lt (Eq.trans (gI_a rfl) gI_s) ?_
                refine wp_lt qf_37 ?_
                refine wp_zI ?_
                refine wp_of (f_X6_put_39.eq_1 ..) ?_
                refine wp_ret_bd ?_
                refine wp_gd ql_K_106 ?_
                refine wp_bd ?_
                refine wp_of (f_X6_put.eq_1 ..) ?_
                refine wp_gd ql_K_106 ?_
                refine wp_lt gI_s ?_
                refine wp_ifn qf_38 ?_
                refine wp_lt gI_s ?_
                refine wp_lt ql_R_106_0 ?_
                refine wp_gd ql_K_107 ?_
                refine wp_lt (gZo ql_Z_107 qf_29) ?_
                refine wp_ifn qf_39 ?_
                refine wp_lt ql_R_106_0 ?_
                refine wp_lt gI_s ?_
                refine wp_gd ql_K_107 ?_
                refine wp_gd (gZi ql_Z_107 qf_40) ?_
                refine wp_zIk qf_41 ?_
                refine wp_lt (Eq.trans (gI_a rfl) gI_s) ?_
                refine wp_lt qf_42 ?_
                refine wp_zI ?_
                refine wp_of (f_X6_put_39.eq_1 ..) ?_
                refine wp_ret_bd ?_
                refine wp_gd ql_K_106 ?_
                refine wp_bd ?_
                refine wp_of (f_X6_put.eq_1 ..) ?_
                refine wp_gd ql_K_106 ?_
                refine wp_lt gI_s ?_
                refine wp_ifn qf_43 ?_
                refine wp_lt gI_s ?_
                refine wp_lt ql_R_106_0 ?_
                refine wp_gd ql_K_107 ?_
                refine wp_lt (gZo ql_Z_107 qf_29) ?_
                refine wp_ifn qf_44 ?_
                refine wp_lt ql_R_106_0 ?_
                refine wp_lt gI_s ?_
                refine wp_gd ql_K_107 ?_
                refine wp_gd (gZi ql_Z_107 qf_45) ?_
                refine wp_zIk qf_46 ?_
                refine wp_lt (Eq.trans (gI_a rfl) gI_s) ?_
                refine wp_lt qf_47 ?_
                refine wp_zI ?_
                refine wp_of (f_X6_put_39.eq_1 ..) ?_
                refine wp_ret_bd ?_
                refine wp_ret_bd ?_
                refine wp_gd ql_K_25 ?_
                refine wp_lt ql_R_25_0 ?_
                refine wp_gd ql_K_26 ?_
                refine wp_bd ?_
                refine wp_of (f_X0_plugIn.eq_1 ..) ?_
                refine wp_gd ql_K_26 ?_
                refine wp_lt (Eq.trans (gI_a rfl) (Eq.trans (gI_a rfl) (Eq.trans (gI_a rfl) (Eq.trans (gI_a rfl) (Eq.trans (gI_a rfl) (Eq.trans (gI_a rfl) (Eq.trans (gI_a rfl) (Eq.trans (gI_a rfl) (Eq.trans (gI_a rfl) (Eq.trans (gI_a rfl) ql_I_26_2)))))))))) ?_
                refine wp_ifn qf_28 ?_
                refine wp_lt (Eq.trans (gI_a rfl) (Eq.trans (gI_a rfl) (Eq.trans (gI_a rfl) (Eq.trans (gI_a rfl) (Eq.trans (gI_a rfl) (Eq.trans (gI_a rfl) (Eq.trans (gI_a rfl) (Eq.trans (gI_a rfl) (Eq.trans (gI_a rfl) (Eq.trans (gI_a rfl) ql_I_26_2)))))))))) ?_
                refine wp_lt ql_R_26_1 ?_
                refine wp_gd ql_K_28 ?_
                refine wp_lt (gZo ql_Z_28 qf_121) ?_
                refine wp_ifn qf_115 ?_
                refine wp_lt ql_R_26_1 ?_
                refine wp_lt (Eq.trans (gI_a rfl) (Eq.trans (gI_a rfl) (Eq.trans (gI_a rfl) (Eq.trans (gI_a rfl) (Eq.trans (gI_a rfl) (Eq.trans (gI_a rfl) (Eq.trans (gI_a rfl) (Eq.trans (gI_a rfl) (Eq.trans (gI_a rfl) (Eq.trans (gI_a rfl) ql_I_26_2)))))))))) ?_
                refine wp_gd ql_K_28 ?_
                refine wp_gd (gZi ql_Z_28 qf_122) ?_
                refine wp_lt (gRk qf_32 ql_R_28_0) ?_
                refine wp_gd ql_K_29 ?_
                refine wp_bd ?_
                refine wp_of (f_X3_begin.eq_1 ..) ?_
                refine wp_gd ql_K_29 ?_
                refine wp_gd qf_158 ?_
                refine wp_zI ?_
                refine wp_zI ?_
                refine wp_zI ?_
                refine wp_ret_bd ?_
                refine wp_gd ql_K_26 ?_
                refine wp_lt (Eq.trans (gI_a rfl) (Eq.trans (gI_a rfl) (Eq.trans (gI_a rfl) (Eq.trans (gI_a rfl) (Eq.trans (gI_a rfl) (Eq.trans (gI_a rfl) (Eq.trans (gI_a rfl) (Eq.trans (gI_a rfl) (Eq.trans (gI_a rfl) (Eq.trans (gI_a rfl) (Eq.trans (gI_a rfl) (Eq.trans (gI_a rfl) (Eq.trans (gI_a rfl) ql_I_26_2))))))))))))) ?_
                refine wp_lt qf_27 ?_
                refine wp_zI ?_
                refine wp_of (f_X0_plugIn_43.eq_1 ..) ?_
                refine wp_gd ql_K_26 ?_
                refine wp_lt gI_s ?_
                refine wp_ret_bd ?_
                refine wp_ret_bdc ?_
                refine wp_lt qf_192 ?_
                refine wp_gd ql_K_173 ?_
                refine wp_gd (gZi ql_Z_173 qf_71) ?_
                refine wp_zLk qf_32 ?_
                refine wp_ret_bd ?_
                refine wp_gd qf_0 ?_
                refine wp_lt (xsk qf_1 hy1) ?_
                refine wp_gd qf_2 ?_
                refine wp_lt (xsk qf_3 hy2) ?_
                refine wp_lt hwy2 ?_
                refine wp_gd qf_4 ?_
                refine wp_lt (xsk qf_5 hy3) ?_
                refine wp_gd ql_K_149 ?_
                refine wp_bd ?_
                refine wp_of (f2_X13_addEffect.eq_1 ..) ?_
                refine wp_bd ?_
                refine wp_of (f_X13_isDeck.eq_1 ..) ?_
                refine wp_bd ?_
                refine wp_of (f_X13_isBetween.eq_1 ..) ?_
                refine wp_ifn qf_33 ?_
                refine wp_ifn qf_101 ?_
                refine wp_of (f_X13_isBetween_15.eq_1 ..) ?_
                refine wp_gd qf_18 ?_
                refine wp_ret_bd ?_
                refine wp_gd qf_18 ?_
                refine wp_ret_bd ?_
                refine wp_ifn qf_19 ?_
                refine wp_gd (Or.inr qf_180) ?_
                refine wp_bd ?_
                refine wp_of (f2_J0_indexOf_0f7a4.eq_1 ..) ?_
                refine wp_gd (Or.inr qf_180) ?_
                refine wp_bd ?_
                refine wp_of (f2_J0_indexOf_7cf53.eq_1 ..) ?_
                refine wp_gd (Or.inr qf_180) ?_
                refine wp_bd ?_
                refine wp_of (f2_J0_isLatin1_aae02.eq_1 ..) ?_
                refine wp_ifn qf_19 ?_
                refine wp_gd (Or.inr qf_180) ?_
                refine wp_lt (ifR qf_181 rfl) ?_
                refine wp_ifp qf_15 ?_
                refine wp_of (f2_J0_isLatin1_aae02_18.eq_1 ..) ?_
                refine wp_gd qf_18 ?_
                refine wp_ret_bd ?_
                refine wp_ifn qf_19 ?_
                refine wp_gd (Or.inr qf_180) ?_
                refine wp_lt (ifR qf_181 qf_182) ?_
                refine wp_gd (Or.inr qf_180) ?_
                refine wp_bd ?_
                refine wp_of (f2_J0_length_8abf5.eq_1 ..) ?_
                refine wp_gd (Or.inr qf_180) ?_
                refine wp_lt (ifR qf_181 qf_182) ?_
                refine wp_gd (Or.inr qf_183) ?_
                refine wp_lt (zbo (zbK qf_184 qf_185) qf_121) ?_
                refine wp_gd (Or.inr qf_180) ?_
                refine wp_bd ?_
                refine wp_of (f2_J0_coder_7d493.eq_1 ..) ?_
                refine wp_ifn qf_19 ?_
                refine wp_gd (Or.inr qf_180) ?_
                refine wp_lt (ifR qf_181 rfl) ?_
                refine wp_of (f2_J0_coder_7d493_14.eq_1 ..) ?_
                refine wp_gd qf_138 ?_
                refine wp_ret_bd ?_
                refine wp_lt qf_139 ?_
                refine wp_ret_bd ?_
                refine wp_bd ?_
                refine wp_of (f2_J1_indexOf_4cfef.eq_1 ..) ?_
                refine wp_bd ?_
                refine wp_of (f_J1_canEncode_9a6ad.eq_1 ..) ?_
                refine wp_ifn qf_159 ?_
                refine wp_ifn qf_160 ?_
                refine wp_of (f_J1_canEncode_9a6ad_16.eq_1 ..) ?_
                refine wp_gd qf_18 ?_
                refine wp_ret_bd ?_
                refine wp_ifn qf_19 ?_
                refine wp_lt qf_142 ?_
                refine wp_gd (Or.inr qf_183) ?_
                refine wp_lt (zbo (zbK qf_184 qf_185) qf_121) ?_
                refine wp_lt qf_143 ?_
                refine wp_ifp qf_144 ?_
                refine wp_bd ?_
                refine wp_of (f2_J1_indexOfChar_4cfef.eq_1 ..) ?_
                refine wp_lt qf_161 ?_
                refine wp_of (f2_J1_indexOfChar_4cfef_7.eq_2 ..) ?_
                refine wp_ifn qf_115 ?_
                refine wp_gd (Or.inr qf_183) ?_
                refine wp_gd (zbi (zbK qf_184 qf_185) qf_122) ?_
                refine wp_lt (ibk qf_32 (ibK qf_184 qf_189)) ?_
                refine wp_ifn qf_196 ?_
                refine wp_lt qf_153 ?_
                refine wp_of (f2_J1_indexOfChar_4cfef_7.eq_2 ..) ?_
                refine wp_ifn qf_154 ?_
                refine wp_gd (Or.inr qf_183) ?_
                refine wp_gd (zbi (zbK qf_184 qf_185) qf_125) ?_
                refine wp_lt (ibk qf_36 (ibK qf_184 qf_197)) ?_
                refine wp_ifp qf_167 ?_
                refine wp_ret_bd ?_
                refine wp_ret_bd ?_
                refine wp_of (f2_J0_indexOf_7cf53_36.eq_1 ..) ?_
                refine wp_ret_bd ?_
                refine wp_ret_bd ?_
                refine wp_ifn qf_33 ?_
                refine wp_bd ?_
                refine wp_of (f_X13_isBetween.eq_1 ..) ?_
                refine wp_ifn c5 ?_
                refine wp_ifn c6 ?_
                refine wp_of (f_X13_isBetween_15.eq_1 ..) ?_
                refine wp_gd qf_18 ?_
                refine wp_ret_bd ?_
                refine wp_ifn qf_19 ?_
                refine wp_gd ql_K_149 ?_
                refine wp_lt ql_R_149_2 ?_
                refine wp_gd ql_K_151 ?_
                refine wp_gd (gZi ql_Z_151 qf_99) ?_
                refine wp_lt (gRk qf_36 ql_R_151_1) ?_
                refine wp_gd ql_K_156 ?_
                refine wp_lt ql_R_156_8 ?_
                refine wp_gd ql_K_159 ?_
                refine wp_bd ?_
                refine wp_of (f_Jx4a65c_size_8abf5.eq_1 ..) ?_
                refine wp_gd ql_K_159 ?_
                refine wp_lt (Eq.trans (gI_a rfl) (Eq.trans (gI_a rfl) (Eq.trans (gI_a rfl) (Eq.trans (gI_a rfl) (Eq.trans (gI_a rfl) (Eq.trans (gI_a rfl) (Eq.trans (gI_a rfl) (Eq.trans (gI_a rfl) (Eq.trans (gI_a rfl) (Eq.trans (gI_a rfl) (Eq.trans (gI_a rfl) (Eq.trans (gI_a rfl) (Eq.trans (gI_a rfl) (Eq.trans (gI_a rfl) ql_I_159_2)))))))))))))) ?_
                refine wp_ret_bd ?_
                refine wp_ifn qf_193 ?_
                refine wp_of (f2_X13_addEffect_58.eq_1 ..) ?_
                refine wp_gd ql_K_149 ?_
                refine wp_bd ?_
                refine wp_of (f_X13_isWrong.eq_1 ..) ?_
                refine wp_gd ql_K_149 ?_
                refine wp_zI ?_
                refine wp_ifp qf_73 ?_
                refine wp_of (f_X13_isWrong_14.eq_1 ..) ?_
                refine wp_gd qf_14 ?_
                refine wp_ret_bd ?_
                refine wp_ifp qf_15 ?_
                refine wp_gd ql_K_149 ?_
                refine wp_lt ql_R_149_2 ?_
                refine wp_gd ql_K_151 ?_
                refine wp_gd (gZi ql_Z_151 qf_99) ?_
                refine wp_lt (gRk qf_36 ql_R_151_1) ?_
                refine wp_gd ql_K_156 ?_
                refine wp_lt ql_R_156_8 ?_
                refine wp_gd (gNk (n := 174) qf_74) ?_
                refine wp_zW (m := 175) rfl ?_
                refine wp_lt (show _ = 175 from rfl) ?_
                refine wp_gd (gZi gZ_n qf_122) ?_
                refine wp_zIk qf_32 ?_
                refine wp_gd (gZi gZ_n qf_125) ?_
                refine wp_zIk qf_36 ?_
                refine wp_gd (gZi gZ_n qf_127) ?_
                refine wp_zIk qf_41 ?_
                refine wp_gd (Eq.trans (gK_w rfl) ql_K_159) ?_
                refine wp_bd ?_
                refine wp_of (f2_Jx4a65c_add_9ea2d.eq_1 ..) ?_
                refine wp_gd (Eq.trans (gK_w rfl) ql_K_159) ?_
                refine wp_lt (Eq.trans (gI_a rfl) (Eq.trans (gI_a rfl) (Eq.trans (gI_a rfl) (Eq.trans (gI_w rfl) (Eq.trans (gI_a rfl) (Eq.trans (gI_a rfl) (Eq.trans (gI_a rfl) (Eq.trans (gI_a rfl) (Eq.trans (gI_a rfl) (Eq.trans (gI_a rfl) (Eq.trans (gI_a rfl) (Eq.trans (gI_a rfl) (Eq.trans (gI_a rfl) (Eq.trans (gI_a rfl) (Eq.trans (gI_a rfl) (Eq.trans (gI_a rfl) (Eq.trans (gI_a rfl) (Eq.trans (gI_a rfl) (Eq.trans (gI_a rfl) ql_I_159_0))))))))))))))))))) ?_
                refine wp_lt qf_27 ?_
                refine wp_zI ?_
                refine wp_lt (Eq.trans (gR_w rfl) ql_R_159_1) ?_
                refine wp_lt (Eq.trans (gI_b rfl) (Eq.trans (gI_a rfl) (Eq.trans (gI_a rfl) (Eq.trans (gI_a rfl) (Eq.trans (gI_w rfl) (Eq.trans (gI_a rfl) (Eq.trans (gI_a rfl) (Eq.trans (gI_a rfl) (Eq.trans (gI_a rfl) (Eq.trans (gI_a rfl) (Eq.trans (gI_a rfl) (Eq.trans (gI_a rfl) (Eq.trans (gI_a rfl) (Eq.trans (gI_a rfl) (Eq.trans (gI_a rfl) (Eq.trans (gI_a rfl) (Eq.trans (gI_a rfl) (Eq.trans (gI_a rfl) (Eq.trans (gI_a rfl) (Eq.trans (gI_a rfl) ql_I_159_2)))))))))))))))))))) ?_
                refine wp_bd ?_
                refine wp_of (f2_Jx4a65c_add_72be8.eq_1 ..) ?_
                refine wp_ifp qf_75 ?_
                refine wp_ifp qf_15 ?_
                refine wp_gd (Eq.trans (gK_w rfl) ql_K_159) ?_
                refine wp_bd ?_
                refine wp_of (f2_Jx4a65c_grow_d5877.eq_1 ..) ?_
                refine wp_gd (Eq.trans (gK_w rfl) ql_K_159) ?_
                refine wp_lt (Eq.trans (gI_b rfl) (Eq.trans (gI_a rfl) (Eq.trans (gI_a rfl) (Eq.trans (gI_a rfl) (Eq.trans (gI_w rfl) (Eq.trans (gI_a rfl) (Eq.trans (gI_a rfl) (Eq.trans (gI_a rfl) (Eq.trans (gI_a rfl) (Eq.trans (gI_a rfl) (Eq.trans (gI_a rfl) (Eq.trans (gI_a rfl) (Eq.trans (gI_a rfl) (Eq.trans (gI_a rfl) (Eq.trans (gI_a rfl) (Eq.trans (gI_a rfl) (Eq.trans (gI_a rfl) (Eq.trans (gI_a rfl) (Eq.trans (gI_a rfl) (Eq.trans (gI_a rfl) ql_I_159_2)))))))))))))))))))) ?_
                refine wp_lt qf_27 ?_
                refine wp_bd ?_
                refine wp_of (f2_Jx4a65c_grow_92f84.eq_1 ..) ?_
                refine wp_gd (Eq.trans (gK_w rfl) ql_K_159) ?_
                refine wp_lt (Eq.trans (gR_w rfl) ql_R_159_1) ?_
                refine wp_ifp qf_75 ?_
                refine wp_ifn qf_28 ?_
                refine wp_lt (Eq.trans (gR_w rfl) ql_R_159_1) ?_
                refine wp_gd qf_76 ?_
                refine wp_ifp qf_75 ?_
                refine wp_lt qf_77 ?_
                refine wp_ifp qf_78 ?_
                refine wp_gd (gNk (n := 175) qf_79) ?_
                refine wp_zW (m := 176) rfl ?_
                refine wp_lt (show _ = 176 from rfl) ?_
                refine wp_gd (Eq.trans (gK_w rfl) (Eq.trans (gK_w rfl) ql_K_159)) ?_
                refine wp_zR ?_
                refine wp_ret_bd ?_
                refine wp_ret_bd ?_
                refine wp_of (f2_Jx4a65c_add_72be8_11.eq_1 ..) ?_
                refine wp_gd gK_n ?_
                refine wp_gd (gZi gZ_n qf_80) ?_
                refine wp_ifn (neK (Eq.trans (gK_w rfl) gK_n) qf_194) ?_
                refine wp_gd (Eq.trans (gK_w rfl) gK_n) ?_
                refine wp_zRk qf_32 ?_
                refine wp_lt qf_27 ?_
                refine wp_gd (Eq.trans (gK_w rfl) (Eq.trans (gK_w rfl) ql_K_159)) ?_
                refine wp_zI ?_
                refine wp_ret_bd ?_
                refine wp_ret_bd ?_
                refine wp_gd (Eq.trans (gK_w rfl) (Eq.trans (gK_w rfl) ql_K_149)) ?_
                refine wp_bd ?_
                refine wp_of (f_X13_logs.eq_1 ..) ?_
                refine wp_gd (Eq.trans (gK_w rfl) (Eq.trans (gK_w rfl) ql_K_149)) ?_
                refine wp_lt (Eq.trans (gI_a rfl) (Eq.trans (gI_w rfl) (Eq.trans (gI_a rfl) (Eq.trans (gI_a rfl) (Eq.trans (gI_a rfl) (Eq.trans (gI_a rfl) (Eq.trans (gI_w rfl) (Eq.trans (gI_b rfl) (Eq.trans (gI_a rfl) (Eq.trans (gI_a rfl) (Eq.trans (gI_a rfl) (Eq.trans (gI_a rfl) (Eq.trans (gI_a rfl) (Eq.trans (gI_a rfl) (Eq.trans (gI_a rfl) (Eq.trans (gI_a rfl) (Eq.trans (gI_a rfl) (Eq.trans (gI_a rfl) (Eq.trans (gI_a rfl) (Eq.trans (gI_a rfl) (Eq.trans (gI_a rfl) (Eq.trans (gI_a rfl) ql_I_149_16)))))))))))))))))))))) ?_
                refine wp_lt qf_27 ?_
                refine wp_zI ?_
                refine wp_ret_bd ?_
                refine wp_gd (Eq.trans (gK_w rfl) (Eq.trans (gK_w rfl) ql_K_149)) ?_
                refine wp_lt (Eq.trans (gR_a rfl) (Eq.trans (gR_a rfl) (Eq.trans (gR_w rfl) (Eq.trans (gR_w rfl) ql_R_149_2)))) ?_
                refine wp_gd (Eq.trans (gK_w rfl) (Eq.trans (gK_w rfl) ql_K_151)) ?_
                refine wp_gd (gZi (Eq.trans (gZ_w rfl) (Eq.trans (gZ_w rfl) ql_Z_151)) qf_99) ?_
                refine wp_lt (gRk qf_36 (Eq.trans (gR_a rfl) (Eq.trans (gR_a rfl) (Eq.trans (gR_w rfl) (Eq.trans (gR_w rfl) ql_R_151_1))))) ?_
                refine wp_gd (Eq.trans (gK_w rfl) (Eq.trans (gK_w rfl) ql_K_156)) ?_
                refine wp_lt (Eq.trans (gR_a rfl) (Eq.trans (gR_a rfl) (Eq.trans (gR_w rfl) (Eq.trans (gR_w rfl) ql_R_156_8)))) ?_
                refine wp_gd (Eq.trans (gK_w rfl) (Eq.trans (gK_w rfl) ql_K_159)) ?_
                refine wp_bd ?_
                refine wp_of (f_Jx4a65c_size_8abf5.eq_1 ..) ?_
                refine wp_gd (Eq.trans (gK_w rfl) (Eq.trans (gK_w rfl) ql_K_159)) ?_
                refine wp_lt (Eq.trans (gI_a rfl) gI_s) ?_
                refine wp_ret_bd ?_
                refine wp_ret_bd ?_
                refine wp_gd (Eq.trans (gK_w rfl) (Eq.trans (gK_w rfl) ql_K_149)) ?_
                refine wp_bd ?_
                refine wp_of (f_X13_thrown.eq_1 ..) ?_
                refine wp_gd (Eq.trans (gK_w rfl) (Eq.trans (gK_w rfl) ql_K_149)) ?_
                refine wp_lt (Eq.trans (gI_b rfl) (Eq.trans (gI_a rfl) (Eq.trans (gI_w rfl) (Eq.trans (gI_a rfl) (Eq.trans (gI_a rfl) (Eq.trans (gI_a rfl) (Eq.trans (gI_a rfl) (Eq.trans (gI_w rfl) gI_s)))))))) ?_
                refine wp_ret_bd ?_
                refine wp_ifp qf_15 ?_
                refine wp_ifp qf_15 ?_
                refine wp_gd (Eq.trans (gK_w rfl) (Eq.trans (gK_w rfl) ql_K_173)) ?_
                refine wp_gd (gZi (Eq.trans (gZ_w rfl) (Eq.trans (gZ_w rfl) ql_Z_173)) qf_71) ?_
                refine wp_lt (gLk qf_32 (Eq.trans (gL_w rfl) (Eq.trans (gL_w rfl) gL_s))) ?_
                refine wp_lt qf_192 ?_
                refine wp_lt qf_195 ?_
                refine wp_ifp qf_15 ?_
                refine wp_of (f_L_law_2104.eq_1 ..) ?_
                refine wp_of (f_L_law_3632.eq_1 ..) ?_
                refine wp_lt qf_21 ?_
                exact hrc _
          · skip
            refine wp_if (fun c5 => ?_) (fun c5 => ?_)
            · skip
              subst c5
              refine wp_of (f_X10_addEffect_25.eq_1 ..) ?_
              refine wp_of (f_X10_addEffect_30.eq_1 ..) ?_
              refine wp_bd ?_
              refine wp_of (f_X10_demand.eq_1 ..) ?_
              refine wp_ifn qf_19 ?_
              refine wp_ret_bd ?_
              refine wp_bd ?_
              refine wp_of (f_X10_isIn.eq_1 ..) ?_
              refine wp_if (fun c6 => ?_) (fun c6 => ?_)
              · skip
                refine wp_of (f_X10_isIn_14.eq_1 ..) ?_
                refine wp_of (f_X10_isIn_15.eq_1 ..) ?_
                refine wp_gd qf_14 ?_
                refine wp_ret_bd ?_
                refine wp_bd ?_
                refine wp_of (f_X10_demand.eq_1 ..) ?_
                refine wp_ifp qf_15 ?_
                refine wp_rs_bd ?_
                refine wp_rs_bdc ?_
                refine wp_ifn qf_113 ?_
                refine wp_ifp qf_16 ?_
                refine wp_ret_bd ?_
                refine wp_gd qf_0 ?_
                refine wp_lt (xsk qf_1 hy1) ?_
                refine wp_gd qf_2 ?_
                refine wp_lt (xsk qf_3 hy2) ?_
                refine wp_lt hwy2 ?_
                refine wp_gd qf_4 ?_
                refine wp_lt (xsk qf_5 hy3) ?_
                refine wp_gd ql_K_149 ?_
                refine wp_bd ?_
                refine wp_of (f2_X13_addEffect.eq_1 ..) ?_
                refine wp_bd ?_
                refine wp_of (f_X13_isDeck.eq_1 ..) ?_
                refine wp_bd ?_
                refine wp_of (f_X13_isBetween.eq_1 ..) ?_
                refine wp_ifn qf_33 ?_
                refine wp_ifn qf_101 ?_
                refine wp_of (f_X13_isBetween_15.eq_1 ..) ?_
                refine wp_gd qf_18 ?_
                refine wp_ret_bd ?_
                refine wp_gd qf_18 ?_
                refine wp_ret_bd ?_
                refine wp_ifn qf_19 ?_
                refine wp_gd (Or.inr qf_180) ?_
                refine wp_bd ?_
                refine wp_of (f2_J0_indexOf_0f7a4.eq_1 ..) ?_
                refine wp_gd (Or.inr qf_180) ?_
                refine wp_bd ?_
                refine wp_of (f2_J0_indexOf_7cf53.eq_1 ..) ?_
                refine wp_gd (Or.inr qf_180) ?_
                refine wp_bd ?_
                refine wp_of (f2_J0_isLatin1_aae02.eq_1 ..) ?_
                refine wp_ifn qf_19 ?_
                refine wp_gd (Or.inr qf_180) ?_
                refine wp_lt (ifR qf_181 rfl) ?_
                refine wp_ifp qf_15 ?_
                refine wp_of (f2_J0_isLatin1_aae02_18.eq_1 ..) ?_
                refine wp_gd qf_18 ?_
                refine wp_ret_bd ?_
                refine wp_ifn qf_19 ?_
                refine wp_gd (Or.inr qf_180) ?_
                refine wp_lt (ifR qf_181 qf_182) ?_
                refine wp_gd (Or.inr qf_180) ?_
                refine wp_bd ?_
                refine wp_of (f2_J0_length_8abf5.eq_1 ..) ?_
                refine wp_gd (Or.inr qf_180) ?_
                refine wp_lt (ifR qf_181 qf_182) ?_
                refine wp_gd (Or.inr qf_183) ?_
                refine wp_lt (zbo (zbK qf_184 qf_185) qf_121) ?_
                refine wp_gd (Or.inr qf_180) ?_
                refine wp_bd ?_
                refine wp_of (f2_J0_coder_7d493.eq_1 ..) ?_
                refine wp_ifn qf_19 ?_
                refine wp_gd (Or.inr qf_180) ?_
                refine wp_lt (ifR qf_181 rfl) ?_
                refine wp_of (f2_J0_coder_7d493_14.eq_1 ..) ?_
                refine wp_gd qf_138 ?_
                refine wp_ret_bd ?_
                refine wp_lt qf_139 ?_
                refine wp_ret_bd ?_
                refine wp_bd ?_
                refine wp_of (f2_J1_indexOf_4cfef.eq_1 ..) ?_
                refine wp_bd ?_
                refine wp_of (f_J1_canEncode_9a6ad.eq_1 ..) ?_
                refine wp_ifn qf_198 ?_
                refine wp_ifn qf_199 ?_
                refine wp_of (f_J1_canEncode_9a6ad_16.eq_1 ..) ?_
                refine wp_gd qf_18 ?_
                refine wp_ret_bd ?_
                refine wp_ifn qf_19 ?_
                refine wp_lt qf_142 ?_
                refine wp_gd (Or.inr qf_183) ?_
                refine wp_lt (zbo (zbK qf_184 qf_185) qf_121) ?_
                refine wp_lt qf_143 ?_
                refine wp_ifp qf_144 ?_
                refine wp_bd ?_
                refine wp_of (f2_J1_indexOfChar_4cfef.eq_1 ..) ?_
                refine wp_lt qf_200 ?_
                refine wp_of (f2_J1_indexOfChar_4cfef_7.eq_2 ..) ?_
                refine wp_ifn qf_115 ?_
                refine wp_gd (Or.inr qf_183) ?_
                refine wp_gd (zbi (zbK qf_184 qf_185) qf_122) ?_
                refine wp_lt (ibk qf_32 (ibK qf_184 qf_189)) ?_
                refine wp_ifn qf_201 ?_
                refine wp_lt qf_153 ?_
                refine wp_of (f2_J1_indexOfChar_4cfef_7.eq_2 ..) ?_
                refine wp_ifn qf_154 ?_
                refine wp_gd (Or.inr qf_183) ?_
                refine wp_gd (zbi (zbK qf_184 qf_185) qf_125) ?_
                refine wp_lt (ibk qf_36 (ibK qf_184 qf_197)) ?_
                refine wp_ifn qf_202 ?_
                refine wp_lt qf_164 ?_
                refine wp_of (f2_J1_indexOfChar_4cfef_7.eq_2 ..) ?_
                refine wp_ifn qf_165 ?_
                refine wp_gd (Or.inr qf_183) ?_
                refine wp_gd (zbi (zbK qf_184 qf_185) qf_127) ?_
                refine wp_lt (ibk qf_41 (ibK qf_184 qf_203)) ?_
                refine wp_ifp qf_204 ?_
                refine wp_ret_bd ?_
                refine wp_ret_bd ?_
                refine wp_of (f2_J0_indexOf_7cf53_36.eq_1 ..) ?_
                refine wp_ret_bd ?_
                refine wp_ret_bd ?_
                refine wp_ifn qf_38 ?_
                refine wp_bd ?_
                refine wp_of (f_X13_isBetween.eq_1 ..) ?_
                refine wp_ifp c6 ?_
                refine wp_of (f_X13_isBetween_14.eq_1 ..) ?_
                refine wp_of (f_X13_isBetween_15.eq_1 ..) ?_
                refine wp_gd qf_14 ?_
                refine wp_ret_bd ?_
                refine wp_ifp qf_15 ?_
                refine wp_of (f2_X13_addEffect_31.eq_1 ..) ?_
                refine wp_of (f2_X13_addEffect_58.eq_1 ..) ?_
                refine wp_gd ql_K_149 ?_
                refine wp_bd ?_
                refine wp_of (f_X13_isWrong.eq_1 ..) ?_
                refine wp_gd ql_K_149 ?_
                refine wp_zI ?_
                refine wp_ifn qf_110 ?_
                refine wp_of (f_X13_isWrong_14.eq_1 ..) ?_
                refine wp_gd qf_18 ?_
                refine wp_ret_bd ?_
                refine wp_ifn qf_19 ?_
                refine wp_ret_bd ?_
                refine wp_gd ql_K_149 ?_
                refine wp_bd ?_
                refine wp_of (f_X13_thrown.eq_1 ..) ?_
                refine wp_gd ql_K_149 ?_
                refine wp_lt gI_s ?_
                refine wp_ret_bd ?_
                refine wp_ifp qf_111 ?_
                refine wp_ifn qf_112 ?_
                refine wp_of (f_L_law_2104.eq_1 ..) ?_
                refine wp_of (f_L_law_3632.eq_1 ..) ?_
                refine wp_lt qf_21 ?_
                exact hrc _
              · skip
                refine wp_if (fun c7 => ?_) (fun c7 => ?_)
                · skip
                  refine wp_of (f_X10_isIn_14.eq_1 ..) ?_
                  refine wp_of (f_X10_isIn_15.eq_1 ..) ?_
                  refine wp_gd qf_14 ?_
                  refine wp_ret_bd ?_
                  refine wp_bd ?_
                  refine wp_of (f_X10_demand.eq_1 ..) ?_
                  refine wp_ifp qf_15 ?_
                  refine wp_rs_bd ?_
                  refine wp_rs_bdc ?_
                  refine wp_ifn qf_113 ?_
                  refine wp_ifp qf_16 ?_
                  refine wp_ret_bd ?_
                  refine wp_gd qf_0 ?_
                  refine wp_lt (xsk qf_1 hy1) ?_
                  refine wp_gd qf_2 ?_
                  refine wp_lt (xsk qf_3 hy2) ?_
                  refine wp_lt hwy2 ?_
                  refine wp_gd qf_4 ?_
                  refine wp_lt (xsk qf_5 hy3) ?_
                  refine wp_gd ql_K_149 ?_
                  refine wp_bd ?_
                  refine wp_of (f2_X13_addEffect.eq_1 ..) ?_
                  refine wp_bd ?_
                  refine wp_of (f_X13_isDeck.eq_1 ..) ?_
                  refine wp_bd ?_
                  refine wp_of (f_X13_isBetween.eq_1 ..) ?_
                  refine wp_ifn qf_33 ?_
                  refine wp_ifn qf_101 ?_
                  refine wp_of (f_X13_isBetween_15.eq_1 ..) ?_
                  refine wp_gd qf_18 ?_
                  refine wp_ret_bd ?_
                  refine wp_gd qf_18 ?_
                  refine wp_ret_bd ?_
                  refine wp_ifn qf_19 ?_
                  refine wp_gd (Or.inr qf_180) ?_
                  refine wp_bd ?_
                  refine wp_of (f2_J0_indexOf_0f7a4.eq_1 ..) ?_
                  refine wp_gd (Or.inr qf_180) ?_
                  refine wp_bd ?_
                  refine wp_of (f2_J0_indexOf_7cf53.eq_1 ..) ?_
                  refine wp_gd (Or.inr qf_180) ?_
                  refine wp_bd ?_
                  refine wp_of (f2_J0_isLatin1_aae02.eq_1 ..) ?_
                  refine wp_ifn qf_19 ?_
                  refine wp_gd (Or.inr qf_180) ?_
                  refine wp_lt (ifR qf_181 rfl) ?_
                  refine wp_ifp qf_15 ?_
                  refine wp_of (f2_J0_isLatin1_aae02_18.eq_1 ..) ?_
                  refine wp_gd qf_18 ?_
                  refine wp_ret_bd ?_
                  refine wp_ifn qf_19 ?_
                  refine wp_gd (Or.inr qf_180) ?_
                  refine wp_lt (ifR qf_181 qf_182) ?_
                  refine wp_gd (Or.inr qf_180) ?_
                  refine wp_bd ?_
                  refine wp_of (f2_J0_length_8abf5.eq_1 ..) ?_
                  refine wp_gd (Or.inr qf_180) ?_
                  refine wp_lt (ifR qf_181 qf_182) ?_
                  refine wp_gd (Or.inr qf_183) ?_
                  refine wp_lt (zbo (zbK qf_184 qf_185) qf_121) ?_
                  refine wp_gd (Or.inr qf_180) ?_
                  refine wp_bd ?_
                  refine wp_of (f2_J0_coder_7d493.eq_1 ..) ?_
                  refine wp_ifn qf_19 ?_
                  refine wp_gd (Or.inr qf_180) ?_
                  refine wp_lt (ifR qf_181 rfl) ?_
                  refine wp_of (f2_J0_coder_7d493_14.eq_1 ..) ?_
                  refine wp_gd qf_138 ?_
                  refine wp_ret_bd ?_
                  refine wp_lt qf_139 ?_
                  refine wp_ret_bd ?_
                  refine wp_bd ?_
                  refine wp_of (f2_J1_indexOf_4cfef.eq_1 ..) ?_
                  refine wp_bd ?_
                  refine wp_of (f_J1_canEncode_9a6ad.eq_1 ..) ?_
                  refine wp_ifn qf_198 ?_
                  refine wp_ifn qf_199 ?_
                  refine wp_of (f_J1_canEncode_9a6ad_16.eq_1 ..) ?_
                  refine wp_gd qf_18 ?_
                  refine wp_ret_bd ?_
                  refine wp_ifn qf_19 ?_
                  refine wp_lt qf_142 ?_
                  refine wp_gd (Or.inr qf_183) ?_
                  refine wp_lt (zbo (zbK qf_184 qf_185) qf_121) ?_
                  refine wp_lt qf_143 ?_
                  refine wp_ifp qf_144 ?_
                  refine wp_bd ?_
                  refine wp_of (f2_J1_indexOfChar_4cfef.eq_1 ..) ?_
                  refine wp_lt qf_200 ?_
                  refine wp_of (f2_J1_indexOfChar_4cfef_7.eq_2 ..) ?_
                  refine wp_ifn qf_115 ?_
                  refine wp_gd (Or.inr qf_183) ?_
                  refine wp_gd (zbi (zbK qf_184 qf_185) qf_122) ?_
                  refine wp_lt (ibk qf_32 (ibK qf_184 qf_189)) ?_
                  refine wp_ifn qf_201 ?_
                  refine wp_lt qf_153 ?_
                  refine wp_of (f2_J1_indexOfChar_4cfef_7.eq_2 ..) ?_
                  refine wp_ifn qf_154 ?_
                  refine wp_gd (Or.inr qf_183) ?_
                  refine wp_gd (zbi (zbK qf_184 qf_185) qf_125) ?_
                  refine wp_lt (ibk qf_36 (ibK qf_184 qf_197)) ?_
                  refine wp_ifn qf_202 ?_
                  refine wp_lt qf_164 ?_
                  refine wp_of (f2_J1_indexOfChar_4cfef_7.eq_2 ..) ?_
                  refine wp_ifn qf_165 ?_
                  refine wp_gd (Or.inr qf_183) ?_
                  refine wp_gd (zbi (zbK qf_184 qf_185) qf_127) ?_
                  refine wp_lt (ibk qf_41 (ibK qf_184 qf_203)) ?_
                  refine wp_ifp qf_204 ?_
                  refine wp_ret_bd ?_
                  refine wp_ret_bd ?_
                  refine wp_of (f2_J0_indexOf_7cf53_36.eq_1 ..) ?_
                  refine wp_ret_bd ?_
                  refine wp_ret_bd ?_
                  refine wp_ifn qf_38 ?_
                  refine wp_bd ?_
                  refine wp_of (f_X13_isBetween.eq_1 ..) ?_
                  refine wp_ifn c6 ?_
                  refine wp_ifp c7 ?_
                  refine wp_of (f_X13_isBetween_14.eq_1 ..) ?_
                  refine wp_of (f_X13_isBetween_15.eq_1 ..) ?_
                  refine wp_gd qf_14 ?_
                  refine wp_ret_bd ?_
                  refine wp_ifp qf_15 ?_
                  refine wp_of (f2_X13_addEffect_31.eq_1 ..) ?_
                  refine wp_of (f2_X13_addEffect_58.eq_1 ..) ?_
                  refine wp_gd ql_K_149 ?_
                  refine wp_bd ?_
                  refine wp_of (f_X13_isWrong.eq_1 ..) ?_
                  refine wp_gd ql_K_149 ?_
                  refine wp_zI ?_
                  refine wp_ifn qf_110 ?_
                  refine wp_of (f_X13_isWrong_14.eq_1 ..) ?_
                  refine wp_gd qf_18 ?_
                  refine wp_ret_bd ?_
                  refine wp_ifn qf_19 ?_
                  refine wp_ret_bd ?_
                  refine wp_gd ql_K_149 ?_
                  refine wp_bd ?_
                  refine wp_of (f_X13_thrown.eq_1 ..) ?_
                  refine wp_gd ql_K_149 ?_
                  refine wp_lt gI_s ?_
                  refine wp_ret_bd ?_
                  refine wp_ifp qf_111 ?_
                  refine wp_ifn qf_112 ?_
                  refine wp_of (f_L_law_2104.eq_1 ..) ?_
                  refine wp_of (f_L_law_3632.eq_1 ..) ?_
                  refine wp_lt qf_21 ?_
                  exact hrc _
                · skip
                  refine wp_of (f_X10_isIn_15.eq_1 ..) ?_
                  refine wp_gd qf_18 ?_
                  refine wp_ret_bd ?_
                  refine wp_bd ?_
                  refine wp_of (f_X10_demand.eq_1 ..) ?_
                  refine wp_ifn qf_19 ?_
                  refine wp_ret_bd ?_
                  refine wp_gd ql_K_25 ?_
                  refine wp_lt ql_R_25_0 ?_
                  refine wp_gd ql_K_26 ?_
                  refine wp_lt ql_I_26_2 ?_
                  refine wp_lt ql_R_25_0 ?_
                  refine wp_gd ql_K_26 ?_
                  refine wp_lt ql_R_26_1 ?_
                  refine wp_gd ql_K_28 ?_
                  refine wp_lt (gZo ql_Z_28 qf_121) ?_
                  refine wp_ifp qf_144 ?_
                  refine wp_gd ql_K_1 ?_
                  refine wp_lt ql_R_1_2 ?_
                  refine wp_gd ql_K_106 ?_
                  refine wp_bd ?_
                  refine wp_of (f_X6_note.eq_1 ..) ?_
                  refine wp_gd ql_K_106 ?_
                  refine wp_bd ?_
                  refine wp_of (f_X6_open.eq_1 ..) ?_
                  refine wp_gd ql_K_106 ?_
                  refine wp_lt ql_I_106_2 ?_
                  refine wp_lt qf_25 ?_
                  refine wp_zI ?_
                  refine wp_lt (Eq.trans (gI_b rfl) ql_I_106_2) ?_
                  refine wp_ifn qf_26 ?_
                  refine wp_lt (Eq.trans (gI_b rfl) ql_I_106_2) ?_
                  refine wp_lt qf_27 ?_
                  refine wp_zI ?_
                  refine wp_of (f_X6_open_31.eq_1 ..) ?_
                  refine wp_gd ql_K_106 ?_
                  refine wp_bd ?_
                  refine wp_of (f_X6_put.eq_1 ..) ?_
                  refine wp_gd ql_K_106 ?_
                  refine wp_lt (Eq.trans (gI_b rfl) gI_s) ?_
                  refine wp_ifn qf_28 ?_
                  refine wp_lt (Eq.trans (gI_b rfl) gI_s) ?_
                  refine wp_lt ql_R_106_0 ?_
                  refine wp_gd ql_K_107 ?_
                  refine wp_lt (gZo ql_Z_107 qf_29) ?_
                  refine wp_ifn qf_30 ?_
                  refine wp_lt ql_R_106_0 ?_
                  refine wp_lt (Eq.trans (gI_b rfl) gI_s) ?_
                  refine wp_gd ql_K_107 ?_
                  refine wp_gd (gZi ql_Z_107 qf_31) ?_
                  refine wp_zIk qf_32 ?_
                  refine wp_lt (Eq.trans (gI_a rfl) (Eq.trans (gI_b rfl) gI_s)) ?_
                  refine wp_lt qf_27 ?_
                  refine wp_zI ?_
                  refine wp_of (f_X6_put_39.eq_1 ..) ?_
                  refine wp_ret_bd ?_
                  refine wp_ret_bd ?_
                  refine wp_gd ql_K_106 ?_
                  refine wp_bd ?_
                  refine wp_of (f_X6_put.eq_1 ..) ?_
                  refine wp_gd ql_K_106 ?_
                  refine wp_lt gI_s ?_
                  refine wp_ifn qf_33 ?_
                  refine wp_lt gI_s ?_
                  refine wp_lt ql_R_106_0 ?_
                  refine wp_gd ql_K_107 ?_
                  refine wp_lt (gZo ql_Z_107 qf_29) ?_
                  refine wp_ifn qf_34 ?_
                  refine wp_lt ql_R_106_0 ?_
                  refine wp_lt gI_s ?_
                  refine wp_gd ql_K_107 ?_
                  refine wp_gd (gZi ql_Z_107 qf_35) ?_
                  refine wp_zIk qf_36 ?_
                  refine wp_lt (Eq.trans (gI_a rfl) gI_s) ?_
                  refine wp_lt qf_37 ?_
                  refine wp_zI ?_
                  refine wp_of (f_X6_put_39.eq_1 ..) ?_
                  refine wp_ret_bd ?_
                  refine wp_gd ql_K_106 ?_
                  refine wp_bd ?_
                  refine wp_of (f_X6_put.eq_1 ..) ?_
                  refine wp_gd ql_K_106 ?_
                  refine wp_lt gI_s ?_
                  refine wp_ifn qf_38 ?_
                  refine wp_lt gI_s ?_
                  refine wp_lt ql_R_106_0 ?_
                  refine wp_gd ql_K_107 ?_
                  refine wp_lt (gZo ql_Z_107 qf_29) ?_
                  refine wp_ifn qf_39 ?_
                  refine wp_lt ql_R_106_0 ?_
                  refine wp_lt gI_s ?_
                  refine wp_gd ql_K_107 ?_
                  refine wp_gd (gZi ql_Z_107 qf_40) ?_
                  refine wp_zIk qf_41 ?_
                  refine wp_lt (Eq.trans (gI_a rfl) gI_s) ?_
                  refine wp_lt qf_42 ?_
                  refine wp_zI ?_
                  refine wp_of (f_X6_put_39.eq_1 ..) ?_
                  refine wp_ret_bd ?_
                  refine wp_gd ql_K_106 ?_
                  refine wp_bd ?_
                  refine wp_of (f_X6_put.eq_1 ..) ?_
                  refine wp_gd ql_K_106 ?_
                  refine wp_lt gI_s ?_
                  refine wp_ifn qf_43 ?_
                  refine wp_lt gI_s ?_
                  refine wp_lt ql_R_106_0 ?_
                  refine wp_gd ql_K_107 ?_
                  refine wp_lt (gZo ql_Z_107 qf_29) ?_
                  refine wp_ifn qf_44 ?_
                  refine wp_lt ql_R_106_0 ?_
                  refine wp_lt gI_s ?_
                  refine wp_gd ql_K_107 ?_
                  refine wp_gd (gZi ql_Z_107 qf_45) ?_
                  refine wp_zIk qf_46 ?_
                  refine wp_lt (Eq.trans (gI_a rfl) gI_s) ?_
                  refine wp_lt qf_47 ?_
                  refine wp_zI ?_
                  refine wp_of (f_X6_put_39.eq_1 ..) ?_
                  refine wp_ret_bd ?_
                  refine wp_ret_bd ?_
                  refine wp_gd ql_K_25 ?_
                  refine wp_lt ql_R_25_0 ?_
                  refine wp_gd ql_K_26 ?_
                  refine wp_bd ?_
                  refine wp_of (f_X0_plugIn.eq_1 ..) ?_
                  refine wp_gd ql_K_26 ?_
                  refine wp_lt (Eq.trans (gI_a rfl) (Eq.trans (gI_a rfl) (Eq.trans (gI_a rfl) (Eq.trans (gI_a rfl) (Eq.trans (gI_a rfl) (Eq.trans (gI_a rfl) (Eq.trans (gI_a rfl) (Eq.trans (gI_a rfl) (Eq.trans (gI_a rfl) (Eq.trans (gI_a rfl) ql_I_26_2)))))))))) ?_
                  refine wp_ifn qf_28 ?_
                  refine wp_lt (Eq.trans (gI_a rfl) (Eq.trans (gI_a rfl) (Eq.trans (gI_a rfl) (Eq.trans (gI_a rfl) (Eq.trans (gI_a rfl) (Eq.trans (gI_a rfl) (Eq.trans (gI_a rfl) (Eq.trans (gI_a rfl) (Eq.trans (gI_a rfl) (Eq.trans (gI_a rfl) ql_I_26_2)))))))))) ?_
                  refine wp_lt ql_R_26_1 ?_
                  refine wp_gd ql_K_28 ?_
                  refine wp_lt (gZo ql_Z_28 qf_121) ?_
                  refine wp_ifn qf_115 ?_
                  refine wp_lt ql_R_26_1 ?_
                  refine wp_lt (Eq.trans (gI_a rfl) (Eq.trans (gI_a rfl) (Eq.trans (gI_a rfl) (Eq.trans (gI_a rfl) (Eq.trans (gI_a rfl) (Eq.trans (gI_a rfl) (Eq.trans (gI_a rfl) (Eq.trans (gI_a rfl) (Eq.trans (gI_a rfl) (Eq.trans (gI_a rfl) ql_I_26_2)))))))))) ?_
                  refine wp_gd ql_K_28 ?_
                  refine wp_gd (gZi ql_Z_28 qf_122) ?_
                  refine wp_lt (gRk qf_32 ql_R_28_0) ?_
                  refine wp_gd ql_K_29 ?_
                  refine wp_bd ?_
                  refine wp_of (f_X3_begin.eq_1 ..) ?_
                  refine wp_gd ql_K_29 ?_
                  refine wp_gd qf_205 ?_
                  refine wp_zI ?_
                  refine wp_zI ?_
                  refine wp_zI ?_
                  refine wp_ret_bd ?_
                  refine wp_gd ql_K_26 ?_
                  refine wp_lt (Eq.trans (gI_a rfl) (Eq.trans (gI_a rfl) (Eq.trans (gI_a rfl) (Eq.trans (gI_a rfl) (Eq.trans (gI_a rfl) (Eq.trans (gI_a rfl) (Eq.trans (gI_a rfl) (Eq.trans (gI_a rfl) (Eq.trans (gI_a rfl) (Eq.trans (gI_a rfl) (Eq.trans (gI_a rfl) (Eq.trans (gI_a rfl) (Eq.trans (gI_a rfl) ql_I_26_2))))))))))))) ?_
                  refine wp_lt qf_27 ?_
                  refine wp_zI ?_
                  refine wp_of (f_X0_plugIn_43.eq_1 ..) ?_
                  refine wp_gd ql_K_26 ?_
                  refine wp_lt gI_s ?_
                  refine wp_ret_bd ?_
                  refine wp_ret_bdc ?_
                  refine wp_lt qf_192 ?_
                  refine wp_gd ql_K_173 ?_
                  refine wp_gd (gZi ql_Z_173 qf_71) ?_
                  refine wp_zLk qf_32 ?_
                  refine wp_ret_bd ?_
                  refine wp_gd qf_0 ?_
                  refine wp_lt (xsk qf_1 hy1) ?_
                  refine wp_gd qf_2 ?_
                  refine wp_lt (xsk qf_3 hy2) ?_
                  refine wp_lt hwy2 ?_
                  refine wp_gd qf_4 ?_
                  refine wp_lt (xsk qf_5 hy3) ?_
                  refine wp_gd ql_K_149 ?_
                  refine wp_bd ?_
                  refine wp_of (f2_X13_addEffect.eq_1 ..) ?_
                  refine wp_bd ?_
                  refine wp_of (f_X13_isDeck.eq_1 ..) ?_
                  refine wp_bd ?_
                  refine wp_of (f_X13_isBetween.eq_1 ..) ?_
                  refine wp_ifn qf_33 ?_
                  refine wp_ifn qf_101 ?_
                  refine wp_of (f_X13_isBetween_15.eq_1 ..) ?_
                  refine wp_gd qf_18 ?_
                  refine wp_ret_bd ?_
                  refine wp_gd qf_18 ?_
                  refine wp_ret_bd ?_
                  refine wp_ifn qf_19 ?_
                  refine wp_gd (Or.inr qf_180) ?_
                  refine wp_bd ?_
                  refine wp_of (f2_J0_indexOf_0f7a4.eq_1 ..) ?_
                  refine wp_gd (Or.inr qf_180) ?_
                  refine wp_bd ?_
                  refine wp_of (f2_J0_indexOf_7cf53.eq_1 ..) ?_
                  refine wp_gd (Or.inr qf_180) ?_
                  refine wp_bd ?_
                  refine wp_of (f2_J0_isLatin1_aae02.eq_1 ..) ?_
                  refine wp_ifn qf_19 ?_
                  refine wp_gd (Or.inr qf_180) ?_
                  refine wp_lt (ifR qf_181 rfl) ?_
                  refine wp_ifp qf_15 ?_
                  refine wp_of (f2_J0_isLatin1_aae02_18.eq_1 ..) ?_
                  refine wp_gd qf_18 ?_
                  refine wp_ret_bd ?_
                  refine wp_ifn qf_19 ?_
                  refine wp_gd (Or.inr qf_180) ?_
                  refine wp_lt (ifR qf_181 qf_182) ?_
                  refine wp_gd (Or.inr qf_180) ?_
                  refine wp_bd ?_
                  refine wp_of (f2_J0_length_8abf5.eq_1 ..) ?_
                  refine wp_gd (Or.inr qf_180) ?_
                  refine wp_lt (ifR qf_181 qf_182) ?_
                  refine wp_gd (Or.inr qf_183) ?_
                  refine wp_lt (zbo (zbK qf_184 qf_185) qf_121) ?_
                  refine wp_gd (Or.inr qf_180) ?_
                  refine wp_bd ?_
                  refine wp_of (f2_J0_coder_7d493.eq_1 ..) ?_
                  refine wp_ifn qf_19 ?_
                  refine wp_gd (Or.inr qf_180) ?_
                  refine wp_lt (ifR qf_181 rfl) ?_
                  refine wp_of (f2_J0_coder_7d493_14.eq_1 ..) ?_
                  refine wp_gd qf_138 ?_
                  refine wp_ret_bd ?_
                  refine wp_lt qf_139 ?_
                  refine wp_ret_bd ?_
                  refine wp_bd ?_
                  refine wp_of (f2_J1_indexOf_4cfef.eq_1 ..) ?_
                  refine wp_bd ?_
                  refine wp_of (f_J1_canEncode_9a6ad.eq_1 ..) ?_
                  refine wp_ifn qf_198 ?_
                  refine wp_ifn qf_199 ?_
                  refine wp_of (f_J1_canEncode_9a6ad_16.eq_1 ..) ?_
                  refine wp_gd qf_18 ?_
                  refine wp_ret_bd ?_
                  refine wp_ifn qf_19 ?_
                  refine wp_lt qf_142 ?_
                  refine wp_gd (Or.inr qf_183) ?_
                  refine wp_lt (zbo (zbK qf_184 qf_185) qf_121) ?_
                  refine wp_lt qf_143 ?_
                  refine wp_ifp qf_144 ?_
                  refine wp_bd ?_
                  refine wp_of (f2_J1_indexOfChar_4cfef.eq_1 ..) ?_
                  refine wp_lt qf_200 ?_
                  refine wp_of (f2_J1_indexOfChar_4cfef_7.eq_2 ..) ?_
                  refine wp_ifn qf_115 ?_
                  refine wp_gd (Or.inr qf_183) ?_
                  refine wp_gd (zbi (zbK qf_184 qf_185) qf_122) ?_
                  refine wp_lt (ibk qf_32 (ibK qf_184 qf_189)) ?_
                  refine wp_ifn qf_201 ?_
                  refine wp_lt qf_153 ?_
                  refine wp_of (f2_J1_indexOfChar_4cfef_7.eq_2 ..) ?_
                  refine wp_ifn qf_154 ?_
                  refine wp_gd (Or.inr qf_183) ?_
                  refine wp_gd (zbi (zbK qf_184 qf_185) qf_125) ?_
                  refine wp_lt (ibk qf_36 (ibK qf_184 qf_197)) ?_
                  refine wp_ifn qf_202 ?_
                  refine wp_lt qf_164 ?_
                  refine wp_of (f2_J1_indexOfChar_4cfef_7.eq_2 ..) ?_
                  refine wp_ifn qf_165 ?_
                  refine wp_gd (Or.inr qf_183) ?_
                  refine wp_gd (zbi (zbK qf_184 qf_185) qf_127) ?_
                  refine wp_lt (ibk qf_41 (ibK qf_184 qf_203)) ?_
                  refine wp_ifp qf_204 ?_
                  refine wp_ret_bd ?_
                  refine wp_ret_bd ?_
                  refine wp_of (f2_J0_indexOf_7cf53_36.eq_1 ..) ?_
                  refine wp_ret_bd ?_
                  refine wp_ret_bd ?_
                  refine wp_ifn qf_38 ?_
                  refine wp_bd ?_
                  refine wp_of (f_X13_isBetween.eq_1 ..) ?_
                  refine wp_ifn c6 ?_
                  refine wp_ifn c7 ?_
                  refine wp_of (f_X13_isBetween_15.eq_1 ..) ?_
                  refine wp_gd qf_18 ?_
                  refine wp_ret_bd ?_
                  refine wp_ifn qf_19 ?_
                  refine wp_gd ql_K_149 ?_
                  refine wp_lt ql_R_149_2 ?_
                  refine wp_gd ql_K_151 ?_
                  refine wp_gd (gZi ql_Z_151 qf_99) ?_
                  refine wp_lt (gRk qf_36 ql_R_151_1) ?_
                  refine wp_gd ql_K_156 ?_
                  refine wp_lt ql_R_156_8 ?_
                  refine wp_gd ql_K_159 ?_
                  refine wp_bd ?_
                  refine wp_of (f_Jx4a65c_size_8abf5.eq_1 ..) ?_
                  refine wp_gd ql_K_159 ?_
                  refine wp_lt (Eq.trans (gI_a rfl) (Eq.trans (gI_a rfl) (Eq.trans (gI_a rfl) (Eq.trans (gI_a rfl) (Eq.trans (gI_a rfl) (Eq.trans (gI_a rfl) (Eq.trans (gI_a rfl) (Eq.trans (gI_a rfl) (Eq.trans (gI_a rfl) (Eq.trans (gI_a rfl) (Eq.trans (gI_a rfl) (Eq.trans (gI_a rfl) (Eq.trans (gI_a rfl) (Eq.trans (gI_a rfl) ql_I_159_2)))))))))))))) ?_
                  refine wp_ret_bd ?_
                  refine wp_ifn qf_193 ?_
                  refine wp_of (f2_X13_addEffect_58.eq_1 ..) ?_
                  refine wp_gd ql_K_149 ?_
                  refine wp_bd ?_
                  refine wp_of (f_X13_isWrong.eq_1 ..) ?_
                  refine wp_gd ql_K_149 ?_
                  refine wp_zI ?_
                  refine wp_ifp qf_73 ?_
                  refine wp_of (f_X13_isWrong_14.eq_1 ..) ?_
                  refine wp_gd qf_14 ?_
                  refine wp_ret_bd ?_
                  refine wp_ifp qf_15 ?_
                  refine wp_gd ql_K_149 ?_
                  refine wp_lt ql_R_149_2 ?_
                  refine wp_gd ql_K_151 ?_
                  refine wp_gd (gZi ql_Z_151 qf_99) ?_
                  refine wp_lt (gRk qf_36 ql_R_151_1) ?_
                  refine wp_gd ql_K_156 ?_
                  refine wp_lt ql_R_156_8 ?_
                  refine wp_gd (gNk (n := 174) qf_74) ?_
                  refine wp_zW (m := 175) rfl ?_
                  refine wp_lt (show _ = 175 from rfl) ?_
                  refine wp_gd (gZi gZ_n qf_122) ?_
                  refine wp_zIk qf_32 ?_
                  refine wp_gd (gZi gZ_n qf_125) ?_
                  refine wp_zIk qf_36 ?_
                  refine wp_gd (gZi gZ_n qf_127) ?_
                  refine wp_zIk qf_41 ?_
                  refine wp_gd (Eq.trans (gK_w rfl) ql_K_159) ?_
                  refine wp_bd ?_
                  refine wp_of (f2_Jx4a65c_add_9ea2d.eq_1 ..) ?_
                  refine wp_gd (Eq.trans (gK_w rfl) ql_K_159) ?_
                  refine wp_lt (Eq.trans (gI_a rfl) (Eq.trans (gI_a rfl) (Eq.trans (gI_a rfl) (Eq.trans (gI_w rfl) (Eq.trans (gI_a rfl) (Eq.trans (gI_a rfl) (Eq.trans (gI_a rfl) (Eq.trans (gI_a rfl) (Eq.trans (gI_a rfl) (Eq.trans (gI_a rfl) (Eq.trans (gI_a rfl) (Eq.trans (gI_a rfl) (Eq.trans (gI_a rfl) (Eq.trans (gI_a rfl) (Eq.trans (gI_a rfl) (Eq.trans (gI_a rfl) (Eq.trans (gI_a rfl) (Eq.trans (gI_a rfl) (Eq.trans (gI_a rfl) ql_I_159_0))))))))))))))))))) ?_
                  refine wp_lt qf_27 ?_
                  refine wp_zI ?_
                  refine wp_lt (Eq.trans (gR_w rfl) ql_R_159_1) ?_
                  refine wp_lt (Eq.trans (gI_b rfl) (Eq.trans (gI_a rfl) (Eq.trans (gI_a rfl) (Eq.trans (gI_a rfl) (Eq.trans (gI_w rfl) (Eq.trans (gI_a rfl) (Eq.trans (gI_a rfl) (Eq.trans (gI_a rfl) (Eq.trans (gI_a rfl) (Eq.trans (gI_a rfl) (Eq.trans (gI_a rfl) (Eq.trans (gI_a rfl) (Eq.trans (gI_a rfl) (Eq.trans (gI_a rfl) (Eq.trans (gI_a rfl) (Eq.trans (gI_a rfl) (Eq.trans (gI_a rfl) (Eq.trans (gI_a rfl) (Eq.trans (gI_a rfl) (Eq.trans (gI_a rfl) ql_I_159_2)))))))))))))))))))) ?_
                  refine wp_bd ?_
                  refine wp_of (f2_Jx4a65c_add_72be8.eq_1 ..) ?_
                  refine wp_ifp qf_75 ?_
                  refine wp_ifp qf_15 ?_
                  refine wp_gd (Eq.trans (gK_w rfl) ql_K_159) ?_
                  refine wp_bd ?_
                  refine wp_of (f2_Jx4a65c_grow_d5877.eq_1 ..) ?_
                  refine wp_gd (Eq.trans (gK_w rfl) ql_K_159) ?_
                  refine wp_lt (Eq.trans (gI_b rfl) (Eq.trans (gI_a rfl) (Eq.trans (gI_a rfl) (Eq.trans (gI_a rfl) (Eq.trans (gI_w rfl) (Eq.trans (gI_a rfl) (Eq.trans (gI_a rfl) (Eq.trans (gI_a rfl) (Eq.trans (gI_a rfl) (Eq.trans (gI_a rfl) (Eq.trans (gI_a rfl) (Eq.trans (gI_a rfl) (Eq.trans (gI_a rfl) (Eq.trans (gI_a rfl) (Eq.trans (gI_a rfl) (Eq.trans (gI_a rfl) (Eq.trans (gI_a rfl) (Eq.trans (gI_a rfl) (Eq.trans (gI_a rfl) (Eq.trans (gI_a rfl) ql_I_159_2)))))))))))))))))))) ?_
                  refine wp_lt qf_27 ?_
                  refine wp_bd ?_
                  refine wp_of (f2_Jx4a65c_grow_92f84.eq_1 ..) ?_
                  refine wp_gd (Eq.trans (gK_w rfl) ql_K_159) ?_
                  refine wp_lt (Eq.trans (gR_w rfl) ql_R_159_1) ?_
                  refine wp_ifp qf_75 ?_
                  refine wp_ifn qf_28 ?_
                  refine wp_lt (Eq.trans (gR_w rfl) ql_R_159_1) ?_
                  refine wp_gd qf_76 ?_
                  refine wp_ifp qf_75 ?_
                  refine wp_lt qf_77 ?_
                  refine wp_ifp qf_78 ?_
                  refine wp_gd (gNk (n := 175) qf_79) ?_
                  refine wp_zW (m := 176) rfl ?_
                  refine wp_lt (show _ = 176 from rfl) ?_
                  refine wp_gd (Eq.trans (gK_w rfl) (Eq.trans (gK_w rfl) ql_K_159)) ?_
                  refine wp_zR ?_
                  refine wp_ret_bd ?_
                  refine wp_ret_bd ?_
                  refine wp_of (f2_Jx4a65c_add_72be8_11.eq_1 ..) ?_
                  refine wp_gd gK_n ?_
                  refine wp_gd (gZi gZ_n qf_80) ?_
                  refine wp_ifn (neK (Eq.trans (gK_w rfl) gK_n) qf_194) ?_
                  refine wp_gd (Eq.trans (gK_w rfl) gK_n) ?_
                  refine wp_zRk qf_32 ?_
                  refine wp_lt qf_27 ?_
                  refine wp_gd (Eq.trans (gK_w rfl) (Eq.trans (gK_w rfl) ql_K_159)) ?_
                  refine wp_zI ?_
                  refine wp_ret_bd ?_
                  refine wp_ret_bd ?_
                  refine wp_gd (Eq.trans (gK_w rfl) (Eq.trans (gK_w rfl) ql_K_149)) ?_
                  refine wp_bd ?_
                  refine wp_of (f_X13_logs.eq_1 ..) ?_
                  refine wp_gd (Eq.trans (gK_w rfl) (Eq.trans (gK_w rfl) ql_K_149)) ?_
                  refine wp_lt (Eq.trans (gI_a rfl) (Eq.trans (gI_w rfl) (Eq.trans (gI_a rfl) (Eq.trans (gI_a rfl) (Eq.trans (gI_a rfl) (Eq.trans (gI_a rfl) (Eq.trans (gI_w rfl) (Eq.trans (gI_b rfl) (Eq.trans (gI_a rfl) (Eq.trans (gI_a rfl) (Eq.trans (gI_a rfl) (Eq.trans (gI_a rfl) (Eq.trans (gI_a rfl) (Eq.trans (gI_a rfl) (Eq.trans (gI_a rfl) (Eq.trans (gI_a rfl) (Eq.trans (gI_a rfl) (Eq.trans (gI_a rfl) (Eq.trans (gI_a rfl) (Eq.trans (gI_a rfl) (Eq.trans (gI_a rfl) (Eq.trans (gI_a rfl) ql_I_149_16)))))))))))))))))))))) ?_
                  refine wp_lt qf_27 ?_
                  refine wp_zI ?_
                  refine wp_ret_bd ?_
                  refine wp_gd (Eq.trans (gK_w rfl) (Eq.trans (gK_w rfl) ql_K_149)) ?_
                  refine wp_lt (Eq.trans (gR_a rfl) (Eq.trans (gR_a rfl) (Eq.trans (gR_w rfl) (Eq.trans (gR_w rfl) ql_R_149_2)))) ?_
                  refine wp_gd (Eq.trans (gK_w rfl) (Eq.trans (gK_w rfl) ql_K_151)) ?_
                  refine wp_gd (gZi (Eq.trans (gZ_w rfl) (Eq.trans (gZ_w rfl) ql_Z_151)) qf_99) ?_
                  refine wp_lt (gRk qf_36 (Eq.trans (gR_a rfl) (Eq.trans (gR_a rfl) (Eq.trans (gR_w rfl) (Eq.trans (gR_w rfl) ql_R_151_1))))) ?_
                  refine wp_gd (Eq.trans (gK_w rfl) (Eq.trans (gK_w rfl) ql_K_156)) ?_
                  refine wp_lt (Eq.trans (gR_a rfl) (Eq.trans (gR_a rfl) (Eq.trans (gR_w rfl) (Eq.trans (gR_w rfl) ql_R_156_8)))) ?_
                  refine wp_gd (Eq.trans (gK_w rfl) (Eq.trans (gK_w rfl) ql_K_159)) ?_
                  refine wp_bd ?_
                  refine wp_of (f_Jx4a65c_size_8abf5.eq_1 ..) ?_
                  refine wp_gd (Eq.trans (gK_w rfl) (Eq.trans (gK_w rfl) ql_K_159)) ?_
                  refine wp_lt (Eq.trans (gI_a rfl) gI_s) ?_
                  refine wp_ret_bd ?_
                  refine wp_ret_bd ?_
                  refine wp_gd (Eq.trans (gK_w rfl) (Eq.trans (gK_w rfl) ql_K_149)) ?_
                  refine wp_bd ?_
                  refine wp_of (f_X13_thrown.eq_1 ..) ?_
                  refine wp_gd (Eq.trans (gK_w rfl) (Eq.trans (gK_w rfl) ql_K_149)) ?_
                  refine wp_lt (Eq.trans (gI_b rfl) (Eq.trans (gI_a rfl) (Eq.trans (gI_w rfl) (Eq.trans (gI_a rfl) (Eq.trans (gI_a rfl) (Eq.trans (gI_a rfl) (Eq.trans (gI_a rfl) (Eq.trans (gI_w rfl) gI_s)))))))) ?_
                  refine wp_ret_bd ?_
                  refine wp_ifp qf_15 ?_
                  refine wp_ifp qf_15 ?_
                  refine wp_gd (Eq.trans (gK_w rfl) (Eq.trans (gK_w rfl) ql_K_173)) ?_
                  refine wp_gd (gZi (Eq.trans (gZ_w rfl) (Eq.trans (gZ_w rfl) ql_Z_173)) qf_71) ?_
                  refine wp_lt (gLk qf_32 (Eq.trans (gL_w rfl) (Eq.trans (gL_w rfl) gL_s))) ?_
                  refine wp_lt qf_192 ?_
                  refine wp_lt qf_195 ?_
                  refine wp_ifp qf_15 ?_
                  refine wp_of (f_L_law_2104.eq_1 ..) ?_
                  refine wp_of (f_L_law_3632.eq_1 ..) ?_
                  refine wp_lt qf_21 ?_
                  exact hrc _
            · skip
              refine wp_of (f_X10_addEffect_30.eq_1 ..) ?_
              refine wp_bd ?_
              refine wp_of (f_X10_demand.eq_1 ..) ?_
              refine wp_ifp qf_15 ?_
              refine wp_rs_bd ?_
              refine wp_rs_bdc ?_
              refine wp_ifn qf_113 ?_
              refine wp_ifp qf_16 ?_
              refine wp_ret_bd ?_
              refine wp_gd qf_0 ?_
              refine wp_lt (xsk qf_1 hy1) ?_
              refine wp_gd qf_2 ?_
              refine wp_lt (xsk qf_3 hy2) ?_
              refine wp_lt hwy2 ?_
              refine wp_gd qf_4 ?_
              refine wp_lt (xsk qf_5 hy3) ?_
              refine wp_gd ql_K_149 ?_
              refine wp_bd ?_
              refine wp_of (f2_X13_addEffect.eq_1 ..) ?_
              refine wp_bd ?_
              refine wp_of (f_X13_isDeck.eq_1 ..) ?_
              refine wp_bd ?_
              refine wp_of (f_X13_isBetween.eq_1 ..) ?_
              refine wp_ifn qf_33 ?_
              refine wp_ifn qf_101 ?_
              refine wp_of (f_X13_isBetween_15.eq_1 ..) ?_
              refine wp_gd qf_18 ?_
              refine wp_ret_bd ?_
              refine wp_gd qf_18 ?_
              refine wp_ret_bd ?_
              refine wp_ifn qf_19 ?_
              refine wp_gd (Or.inr qf_180) ?_
              refine wp_bd ?_
              refine wp_of (f2_J0_indexOf_0f7a4.eq_1 ..) ?_
              refine wp_gd (Or.inr qf_180) ?_
              refine wp_bd ?_
              refine wp_of (f2_J0_indexOf_7cf53.eq_1 ..) ?_
              refine wp_gd (Or.inr qf_180) ?_
              refine wp_bd ?_
              refine wp_of (f2_J0_isLatin1_aae02.eq_1 ..) ?_
              refine wp_ifn qf_19 ?_
              refine wp_gd (Or.inr qf_180) ?_
              refine wp_lt (ifR qf_181 rfl) ?_
              refine wp_ifp qf_15 ?_
              refine wp_of (f2_J0_isLatin1_aae02_18.eq_1 ..) ?_
              refine wp_gd qf_18 ?_
              refine wp_ret_bd ?_
              refine wp_ifn qf_19 ?_
              refine wp_gd (Or.inr qf_180) ?_
              refine wp_lt (ifR qf_181 qf_182) ?_
              refine wp_gd (Or.inr qf_180) ?_
              refine wp_bd ?_
              refine wp_of (f2_J0_length_8abf5.eq_1 ..) ?_
              refine wp_gd (Or.inr qf_180) ?_
              refine wp_lt (ifR qf_181 qf_182) ?_
              refine wp_gd (Or.inr qf_183) ?_
              refine wp_lt (zbo (zbK qf_184 qf_185) qf_121) ?_
              refine wp_gd (Or.inr qf_180) ?_
              refine wp_bd ?_
              refine wp_of (f2_J0_coder_7d493.eq_1 ..) ?_
              refine wp_ifn qf_19 ?_
              refine wp_gd (Or.inr qf_180) ?_
              refine wp_lt (ifR qf_181 rfl) ?_
              refine wp_of (f2_J0_coder_7d493_14.eq_1 ..) ?_
              refine wp_gd qf_138 ?_
              refine wp_ret_bd ?_
              refine wp_lt qf_139 ?_
              refine wp_ret_bd ?_
              refine wp_bd ?_
              refine wp_of (f2_J1_indexOf_4cfef.eq_1 ..) ?_
              refine wp_bd ?_
              refine wp_of (f_J1_canEncode_9a6ad.eq_1 ..) ?_
              refine wp_ifn (show ¬ (wy2 < (0 : Int32)) from by have e0 := qf_90; have e1 := qf_206; have e2 := qf_207; have e3 := qf_171; have e4 := qf_172; simp only [Int32.lt_iff_toInt_lt, Int32.le_iff_toInt_le, ← Int32.toInt_inj] at hwy2a hwy2b ⊢; omega) ?_
              refine wp_if (fun c6 => ?_) (fun c6 => ?_)
              · skip
                refine wp_of (f_J1_canEncode_9a6ad_15.eq_1 ..) ?_
                refine wp_of (f_J1_canEncode_9a6ad_16.eq_1 ..) ?_
                refine wp_gd qf_14 ?_
                refine wp_ret_bd ?_
                refine wp_ifp qf_15 ?_
                refine wp_ret_bd ?_
                refine wp_of (f2_J0_indexOf_7cf53_36.eq_1 ..) ?_
                refine wp_ret_bd ?_
                refine wp_ret_bd ?_
                refine wp_ifp qf_208 ?_
                refine wp_of (f2_X13_addEffect_31.eq_1 ..) ?_
                refine wp_of (f2_X13_addEffect_58.eq_1 ..) ?_
                refine wp_gd ql_K_149 ?_
                refine wp_bd ?_
                refine wp_of (f_X13_isWrong.eq_1 ..) ?_
                refine wp_gd ql_K_149 ?_
                refine wp_zI ?_
                refine wp_ifn qf_110 ?_
                refine wp_of (f_X13_isWrong_14.eq_1 ..) ?_
                refine wp_gd qf_18 ?_
                refine wp_ret_bd ?_
                refine wp_ifn qf_19 ?_
                refine wp_ret_bd ?_
                refine wp_gd ql_K_149 ?_
                refine wp_bd ?_
                refine wp_of (f_X13_thrown.eq_1 ..) ?_
                refine wp_gd ql_K_149 ?_
                refine wp_lt gI_s ?_
                refine wp_ret_bd ?_
                refine wp_ifp qf_111 ?_
                refine wp_ifn qf_112 ?_
                refine wp_of (f_L_law_2104.eq_1 ..) ?_
                refine wp_of (f_L_law_3632.eq_1 ..) ?_
                refine wp_lt qf_21 ?_
                exact hrc _
              · skip
                refine wp_of (f_J1_canEncode_9a6ad_16.eq_1 ..) ?_
                refine wp_gd qf_18 ?_
                refine wp_ret_bd ?_
                refine wp_ifn qf_19 ?_
                refine wp_lt qf_142 ?_
                refine wp_gd (Or.inr qf_183) ?_
                refine wp_lt (zbo (zbK qf_184 qf_185) qf_121) ?_
                refine wp_lt qf_143 ?_
                refine wp_ifp qf_144 ?_
                refine wp_bd ?_
                refine wp_of (f2_J1_indexOfChar_4cfef.eq_1 ..) ?_
                refine wp_ltr ?_
                refine wp_of (f2_J1_indexOfChar_4cfef_7.eq_2 ..) ?_
                refine wp_ifn qf_115 ?_
                refine wp_gd (Or.inr qf_183) ?_
                refine wp_gd (zbi (zbK qf_184 qf_185) qf_122) ?_
                refine wp_lt (ibk qf_32 (ibK qf_184 qf_189)) ?_
                refine wp_ifn (Ne.symm (i2b_ne hwy2a c6 qf_209 c3)) ?_
                refine wp_lt qf_153 ?_
                refine wp_of (f2_J1_indexOfChar_4cfef_7.eq_2 ..) ?_
                refine wp_ifn qf_154 ?_
                refine wp_gd (Or.inr qf_183) ?_
                refine wp_gd (zbi (zbK qf_184 qf_185) qf_125) ?_
                refine wp_lt (ibk qf_36 (ibK qf_184 qf_197)) ?_
                refine wp_ifn (Ne.symm (i2b_ne hwy2a c6 qf_176 c4)) ?_
                refine wp_lt qf_164 ?_
                refine wp_of (f2_J1_indexOfChar_4cfef_7.eq_2 ..) ?_
                refine wp_ifn qf_165 ?_
                refine wp_gd (Or.inr qf_183) ?_
                refine wp_gd (zbi (zbK qf_184 qf_185) qf_127) ?_
                refine wp_lt (ibk qf_41 (ibK qf_184 qf_203)) ?_
                refine wp_ifn (Ne.symm (i2b_ne hwy2a c6 qf_210 c5)) ?_
                refine wp_lt qf_177 ?_
                refine wp_of (f2_J1_indexOfChar_4cfef_7.eq_2 ..) ?_
                refine wp_ifp qf_178 ?_
                refine wp_ret_bd ?_
                refine wp_ret_bd ?_
                refine wp_of (f2_J0_indexOf_7cf53_36.eq_1 ..) ?_
                refine wp_ret_bd ?_
                refine wp_ret_bd ?_
                refine wp_ifp qf_208 ?_
                refine wp_of (f2_X13_addEffect_31.eq_1 ..) ?_
                refine wp_of (f2_X13_addEffect_58.eq_1 ..) ?_
                refine wp_gd ql_K_149 ?_
                refine wp_bd ?_
                refine wp_of (f_X13_isWrong.eq_1 ..) ?_
                refine wp_gd ql_K_149 ?_
                refine wp_zI ?_
                refine wp_ifn qf_110 ?_
                refine wp_of (f_X13_isWrong_14.eq_1 ..) ?_
                refine wp_gd qf_18 ?_
                refine wp_ret_bd ?_
                refine wp_ifn qf_19 ?_
                refine wp_ret_bd ?_
                refine wp_gd ql_K_149 ?_
                refine wp_bd ?_
                refine wp_of (f_X13_thrown.eq_1 ..) ?_
                refine wp_gd ql_K_149 ?_
                refine wp_lt gI_s ?_
                refine wp_ret_bd ?_
                refine wp_ifp qf_111 ?_
                refine wp_ifn qf_112 ?_
                refine wp_of (f_L_law_2104.eq_1 ..) ?_
                refine wp_of (f_L_law_3632.eq_1 ..) ?_
                refine wp_lt qf_21 ?_
                exact hrc _
      · skip
        refine wp_gd (gZi ql_Z_16 qf_102) ?_
        refine wp_lt (gRk qf_41 ql_R_16_2) ?_
        refine wp_of (f_X8_deckAt_23.eq_1 ..) ?_
        refine wp_ret_bd ?_
        refine wp_ifn qf_103 ?_
        refine wp_ret_bd ?_
        refine wp_if (fun c3 => ?_) (fun c3 => ?_)
        · skip
          subst c3
          refine wp_of (f_X10_addEffect_25.eq_1 ..) ?_
          refine wp_of (f_X10_addEffect_30.eq_1 ..) ?_
          refine wp_bd ?_
          refine wp_of (f_X10_demand.eq_1 ..) ?_
          refine wp_ifn qf_19 ?_
          refine wp_ret_bd ?_
          refine wp_bd ?_
          refine wp_of (f_X10_isIn.eq_1 ..) ?_
          refine wp_if (fun c4 => ?_) (fun c4 => ?_)
          · skip
            refine wp_of (f_X10_isIn_14.eq_1 ..) ?_
            refine wp_of (f_X10_isIn_15.eq_1 ..) ?_
            refine wp_gd qf_14 ?_
            refine wp_ret_bd ?_
            refine wp_bd ?_
            refine wp_of (f_X10_demand.eq_1 ..) ?_
            refine wp_ifp qf_15 ?_
            refine wp_rs_bd ?_
            refine wp_rs_bdc ?_
            refine wp_ifn qf_113 ?_
            refine wp_ifp qf_16 ?_
            refine wp_ret_bd ?_
            refine wp_gd qf_0 ?_
            refine wp_lt (xsk qf_1 hy1) ?_
            refine wp_gd qf_2 ?_
            refine wp_lt (xsk qf_3 hy2) ?_
            refine wp_lt hwy2 ?_
            refine wp_gd qf_4 ?_
            refine wp_lt (xsk qf_5 hy3) ?_
            refine wp_gd ql_K_149 ?_
            refine wp_bd ?_
            refine wp_of (f2_X13_addEffect.eq_1 ..) ?_
            refine wp_bd ?_
            refine wp_of (f_X13_isDeck.eq_1 ..) ?_
            refine wp_bd ?_
            refine wp_of (f_X13_isBetween.eq_1 ..) ?_
            refine wp_ifn qf_38 ?_
            refine wp_ifn qf_104 ?_
            refine wp_of (f_X13_isBetween_15.eq_1 ..) ?_
            refine wp_gd qf_18 ?_
            refine wp_ret_bd ?_
            refine wp_gd qf_18 ?_
            refine wp_ret_bd ?_
            refine wp_ifn qf_19 ?_
            refine wp_gd (Or.inr qf_180) ?_
            refine wp_bd ?_
            refine wp_of (f2_J0_indexOf_0f7a4.eq_1 ..) ?_
            refine wp_gd (Or.inr qf_180) ?_
            refine wp_bd ?_
            refine wp_of (f2_J0_indexOf_7cf53.eq_1 ..) ?_
            refine wp_gd (Or.inr qf_180) ?_
            refine wp_bd ?_
            refine wp_of (f2_J0_isLatin1_aae02.eq_1 ..) ?_
            refine wp_ifn qf_19 ?_
            refine wp_gd (Or.inr qf_180) ?_
            refine wp_lt (ifR qf_181 rfl) ?_
            refine wp_ifp qf_15 ?_
            refine wp_of (f2_J0_isLatin1_aae02_18.eq_1 ..) ?_
            refine wp_gd qf_18 ?_
            refine wp_ret_bd ?_
            refine wp_ifn qf_19 ?_
            refine wp_gd (Or.inr qf_180) ?_
            refine wp_lt (ifR qf_181 qf_182) ?_
            refine wp_gd (Or.inr qf_180) ?_
            refine wp_bd ?_
            refine wp_of (f2_J0_length_8abf5.eq_1 ..) ?_
            refine wp_gd (Or.inr qf_180) ?_
            refine wp_lt (ifR qf_181 qf_182) ?_
            refine wp_gd (Or.inr qf_183) ?_
            refine wp_lt (zbo (zbK qf_184 qf_185) qf_121) ?_
            refine wp_gd (Or.inr qf_180) ?_
            refine wp_bd ?_
            refine wp_of (f2_J0_coder_7d493.eq_1 ..) ?_
            refine wp_ifn qf_19 ?_
            refine wp_gd (Or.inr qf_180) ?_
            refine wp_lt (ifR qf_181 rfl) ?_
            refine wp_of (f2_J0_coder_7d493_14.eq_1 ..) ?_
            refine wp_gd qf_138 ?_
            refine wp_ret_bd ?_
            refine wp_lt qf_139 ?_
            refine wp_ret_bd ?_
            refine wp_bd ?_
            refine wp_of (f2_J1_indexOf_4cfef.eq_1 ..) ?_
            refine wp_bd ?_
            refine wp_of (f_J1_canEncode_9a6ad.eq_1 ..) ?_
            refine wp_ifn qf_186 ?_
            refine wp_ifn qf_187 ?_
            refine wp_of (f_J1_canEncode_9a6ad_16.eq_1 ..) ?_
            refine wp_gd qf_18 ?_
            refine wp_ret_bd ?_
            refine wp_ifn qf_19 ?_
            refine wp_lt qf_142 ?_
            refine wp_gd (Or.inr qf_183) ?_
            refine wp_lt (zbo (zbK qf_184 qf_185) qf_121) ?_
            refine wp_lt qf_143 ?_
            refine wp_ifp qf_144 ?_
            refine wp_bd ?_
            refine wp_of (f2_J1_indexOfChar_4cfef.eq_1 ..) ?_
            refine wp_lt qf_188 ?_
            refine wp_of (f2_J1_indexOfChar_4cfef_7.eq_2 ..) ?_
            refine wp_ifn qf_115 ?_
            refine wp_gd (Or.inr qf_183) ?_
            refine wp_gd (zbi (zbK qf_184 qf_185) qf_122) ?_
            refine wp_lt (ibk qf_32 (ibK qf_184 qf_189)) ?_
            refine wp_ifp qf_190 ?_
            refine wp_ret_bd ?_
            refine wp_ret_bd ?_
            refine wp_of (f2_J0_indexOf_7cf53_36.eq_1 ..) ?_
            refine wp_ret_bd ?_
            refine wp_ret_bd ?_
            refine wp_ifn qf_28 ?_
            refine wp_bd ?_
            refine wp_of (f_X13_isBetween.eq_1 ..) ?_
            refine wp_ifp c4 ?_
            refine wp_of (f_X13_isBetween_14.eq_1 ..) ?_
            refine wp_of (f_X13_isBetween_15.eq_1 ..) ?_
            refine wp_gd qf_14 ?_
            refine wp_ret_bd ?_
            refine wp_ifp qf_15 ?_
            refine wp_of (f2_X13_addEffect_31.eq_1 ..) ?_
            refine wp_of (f2_X13_addEffect_58.eq_1 ..) ?_
            refine wp_gd ql_K_149 ?_
            refine wp_bd ?_
            refine wp_of (f_X13_isWrong.eq_1 ..) ?_
            refine wp_gd ql_K_149 ?_
            refine wp_zI ?_
            refine wp_ifn qf_110 ?_
            refine wp_of (f_X13_isWrong_14.eq_1 ..) ?_
            refine wp_gd qf_18 ?_
            refine wp_ret_bd ?_
            refine wp_ifn qf_19 ?_
            refine wp_ret_bd ?_
            refine wp_gd ql_K_149 ?_
            refine wp_bd ?_
            refine wp_of (f_X13_thrown.eq_1 ..) ?_
            refine wp_gd ql_K_149 ?_
            refine wp_lt gI_s ?_
            refine wp_ret_bd ?_
            refine wp_ifp qf_111 ?_
            refine wp_ifn qf_112 ?_
            refine wp_of (f_L_law_2104.eq_1 ..) ?_
            refine wp_of (f_L_law_3632.eq_1 ..) ?_
            refine wp_lt qf_21 ?_
            exact hrc _
          · skip
            refine wp_if (fun c5 => ?_) (fun c5 => ?_)
            · skip
              refine wp_of (f_X10_isIn_14.eq_1 ..) ?_
              refine wp_of (f_X10_isIn_15.eq_1 ..) ?_
              refine wp_gd qf_14 ?_
              refine wp_ret_bd ?_
              refine wp_bd ?_
              refine wp_of (f_X10_demand.eq_1 ..) ?_
              refine wp_ifp qf_15 ?_
              refine wp_rs_bd ?_
              refine wp_rs_bdc ?_
              refine wp_ifn qf_113 ?_
              refine wp_ifp qf_16 ?_
              refine wp_ret_bd ?_
              refine wp_gd qf_0 ?_
              refine wp_lt (xsk qf_1 hy1) ?_
              refine wp_gd qf_2 ?_
              refine wp_lt (xsk qf_3 hy2) ?_
              refine wp_lt hwy2 ?_
              refine wp_gd qf_4 ?_
              refine wp_lt (xsk qf_5 hy3) ?_
              refine wp_gd ql_K_149 ?_
              refine wp_bd ?_
              refine wp_of (f2_X13_addEffect.eq_1 ..) ?_
              refine wp_bd ?_
              refine wp_of (f_X13_isDeck.eq_1 ..) ?_
              refine wp_bd ?_
              refine wp_of (f_X13_isBetween.eq_1 ..) ?_
              refine wp_ifn qf_38 ?_
              refine wp_ifn qf_104 ?_
              refine wp_of (f_X13_isBetween_15.eq_1 ..) ?_
              refine wp_gd qf_18 ?_
              refine wp_ret_bd ?_
              refine wp_gd qf_18 ?_
              refine wp_ret_bd ?_
              refine wp_ifn qf_19 ?_
              refine wp_gd (Or.inr qf_180) ?_
              refine wp_bd ?_
              refine wp_of (f2_J0_indexOf_0f7a4.eq_1 ..) ?_
              refine wp_gd (Or.inr qf_180) ?_
              refine wp_bd ?_
              refine wp_of (f2_J0_indexOf_7cf53.eq_1 ..) ?_
              refine wp_gd (Or.inr qf_180) ?_
              refine wp_bd ?_
              refine wp_of (f2_J0_isLatin1_aae02.eq_1 ..) ?_
              refine wp_ifn qf_19 ?_
              refine wp_gd (Or.inr qf_180) ?_
              refine wp_lt (ifR qf_181 rfl) ?_
              refine wp_ifp qf_15 ?_
              refine wp_of (f2_J0_isLatin1_aae02_18.eq_1 ..) ?_
              refine wp_gd qf_18 ?_
              refine wp_ret_bd ?_
              refine wp_ifn qf_19 ?_
              refine wp_gd (Or.inr qf_180) ?_
              refine wp_lt (ifR qf_181 qf_182) ?_
              refine wp_gd (Or.inr qf_180) ?_
              refine wp_bd ?_
              refine wp_of (f2_J0_length_8abf5.eq_1 ..) ?_
              refine wp_gd (Or.inr qf_180) ?_
              refine wp_lt (ifR qf_181 qf_182) ?_
              refine wp_gd (Or.inr qf_183) ?_
              refine wp_lt (zbo (zbK qf_184 qf_185) qf_121) ?_
              refine wp_gd (Or.inr qf_180) ?_
              refine wp_bd ?_
              refine wp_of (f2_J0_coder_7d493.eq_1 ..) ?_
              refine wp_ifn qf_19 ?_
              refine wp_gd (Or.inr qf_180) ?_
              refine wp_lt (ifR qf_181 rfl) ?_
              refine wp_of (f2_J0_coder_7d493_14.eq_1 ..) ?_
              refine wp_gd qf_138 ?_
              refine wp_ret_bd ?_
              refine wp_lt qf_139 ?_
              refine wp_ret_bd ?_
              refine wp_bd ?_
              refine wp_of (f2_J1_indexOf_4cfef.eq_1 ..) ?_
              refine wp_bd ?_
              refine wp_of (f_J1_canEncode_9a6ad.eq_1 ..) ?_
              refine wp_ifn qf_186 ?_
              refine wp_ifn qf_187 ?_
              refine wp_of (f_J1_canEncode_9a6ad_16.eq_1 ..) ?_
              refine wp_gd qf_18 ?_
              refine wp_ret_bd ?_
              refine wp_ifn qf_19 ?_
              refine wp_lt qf_142 ?_
              refine wp_gd (Or.inr qf_183) ?_
              refine wp_lt (zbo (zbK qf_184 qf_185) qf_121) ?_
              refine wp_lt qf_143 ?_
              refine wp_ifp qf_144 ?_
              refine wp_bd ?_
              refine wp_of (f2_J1_indexOfChar_4cfef.eq_1 ..) ?_
              refine wp_lt qf_188 ?_
              refine wp_of (f2_J1_indexOfChar_4cfef_7.eq_2 ..) ?_
              refine wp_ifn qf_115 ?_
              refine wp_gd (Or.inr qf_183) ?_
              refine wp_gd (zbi (zbK qf_184 qf_185) qf_122) ?_
              refine wp_lt (ibk qf_32 (ibK qf_184 qf_189)) ?_
              refine wp_ifp qf_190 ?_
              refine wp_ret_bd ?_
              refine wp_ret_bd ?_
              refine wp_of (f2_J0_indexOf_7cf53_36.eq_1 ..) ?_
              refine wp_ret_bd ?_
              refine wp_ret_bd ?_
              refine wp_ifn qf_28 ?_
              refine wp_bd ?_
              refine wp_of (f_X13_isBetween.eq_1 ..) ?_
              refine wp_ifn c4 ?_
              refine wp_ifp c5 ?_
              refine wp_of (f_X13_isBetween_14.eq_1 ..) ?_
              refine wp_of (f_X13_isBetween_15.eq_1 ..) ?_
              refine wp_gd qf_14 ?_
              refine wp_ret_bd ?_
              refine wp_ifp qf_15 ?_
              refine wp_of (f2_X13_addEffect_31.eq_1 ..) ?_
              refine wp_of (f2_X13_addEffect_58.eq_1 ..) ?_
              refine wp_gd ql_K_149 ?_
              refine wp_bd ?_
              refine wp_of (f_X13_isWrong.eq_1 ..) ?_
              refine wp_gd ql_K_149 ?_
              refine wp_zI ?_
              refine wp_ifn qf_110 ?_
              refine wp_of (f_X13_isWrong_14.eq_1 ..) ?_
              refine wp_gd qf_18 ?_
              refine wp_ret_bd ?_
              refine wp_ifn qf_19 ?_
              refine wp_ret_bd ?_
              refine wp_gd ql_K_149 ?_
              refine wp_bd ?_
              refine wp_of (f_X13_thrown.eq_1 ..) ?_
              refine wp_gd ql_K_149 ?_
              refine wp_lt gI_s ?_
              refine wp_ret_bd ?_
              refine wp_ifp qf_111 ?_
              refine wp_ifn qf_112 ?_
              refine wp_of (f_L_law_2104.eq_1 ..) ?_
              refine wp_of (f_L_law_3632.eq_1 ..) ?_
              refine wp_lt qf_21 ?_
              exact hrc _
            · skip
              refine wp_of (f_X10_isIn_15.eq_1 ..) ?_
              refine wp_gd qf_18 ?_
              refine wp_ret_bd ?_
              refine wp_bd ?_
              refine wp_of (f_X10_demand.eq_1 ..) ?_
              refine wp_ifn qf_19 ?_
              refine wp_ret_bd ?_
              refine wp_gd ql_K_33 ?_
              refine wp_lt ql_R_33_0 ?_
              refine wp_gd ql_K_34 ?_
              refine wp_lt ql_I_34_2 ?_
              refine wp_lt ql_R_33_0 ?_
              refine wp_gd ql_K_34 ?_
              refine wp_lt ql_R_34_1 ?_
              refine wp_gd ql_K_36 ?_
              refine wp_lt (gZo ql_Z_36 qf_121) ?_
              refine wp_ifp qf_144 ?_
              refine wp_gd ql_K_1 ?_
              refine wp_lt ql_R_1_2 ?_
              refine wp_gd ql_K_106 ?_
              refine wp_bd ?_
              refine wp_of (f_X6_note.eq_1 ..) ?_
              refine wp_gd ql_K_106 ?_
              refine wp_bd ?_
              refine wp_of (f_X6_open.eq_1 ..) ?_
              refine wp_gd ql_K_106 ?_
              refine wp_lt ql_I_106_2 ?_
              refine wp_lt qf_25 ?_
              refine wp_zI ?_
              refine wp_lt (Eq.trans (gI_b rfl) ql_I_106_2) ?_
              refine wp_ifn qf_26 ?_
              refine wp_lt (Eq.trans (gI_b rfl) ql_I_106_2) ?_
              refine wp_lt qf_27 ?_
              refine wp_zI ?_
              refine wp_of (f_X6_open_31.eq_1 ..) ?_
              refine wp_gd ql_K_106 ?_
              refine wp_bd ?_
              refine wp_of (f_X6_put.eq_1 ..) ?_
              refine wp_gd ql_K_106 ?_
              refine wp_lt (Eq.trans (gI_b rfl) gI_s) ?_
              refine wp_ifn qf_28 ?_
              refine wp_lt (Eq.trans (gI_b rfl) gI_s) ?_
              refine wp_lt ql_R_106_0 ?_
              refine wp_gd ql_K_107 ?_
              refine wp_lt (gZo ql_Z_107 qf_29) ?_
              refine wp_ifn qf_30 ?_
              refine wp_lt ql_R_106_0 ?_
              refine wp_lt (Eq.trans (gI_b rfl) gI_s) ?_
              refine wp_gd ql_K_107 ?_
              refine wp_gd (gZi ql_Z_107 qf_31) ?_
              refine wp_zIk qf_32 ?_
              refine wp_lt (Eq.trans (gI_a rfl) (Eq.trans (gI_b rfl) gI_s)) ?_
              refine wp_lt qf_27 ?_
              refine wp_zI ?_
              refine wp_of (f_X6_put_39.eq_1 ..) ?_
              refine wp_ret_bd ?_
              refine wp_ret_bd ?_
              refine wp_gd ql_K_106 ?_
              refine wp_bd ?_
              refine wp_of (f_X6_put.eq_1 ..) ?_
              refine wp_gd ql_K_106 ?_
              refine wp_lt gI_s ?_
              refine wp_ifn qf_33 ?_
              refine wp_lt gI_s ?_
              refine wp_lt ql_R_106_0 ?_
              refine wp_gd ql_K_107 ?_
              refine wp_lt (gZo ql_Z_107 qf_29) ?_
              refine wp_ifn qf_34 ?_
              refine wp_lt ql_R_106_0 ?_
              refine wp_lt gI_s ?_
              refine wp_gd ql_K_107 ?_
              refine wp_gd (gZi ql_Z_107 qf_35) ?_
              refine wp_zIk qf_36 ?_
              refine wp_lt (Eq.trans (gI_a rfl) gI_s) ?_
              refine wp_lt qf_37 ?_
              refine wp_zI ?_
              refine wp_of (f_X6_put_39.eq_1 ..) ?_
              refine wp_ret_bd ?_
              refine wp_gd ql_K_106 ?_
              refine wp_bd ?_
              refine wp_of (f_X6_put.eq_1 ..) ?_
              refine wp_gd ql_K_106 ?_
              refine wp_lt gI_s ?_
              refine wp_ifn qf_38 ?_
              refine wp_lt gI_s ?_
              refine wp_lt ql_R_106_0 ?_
              refine wp_gd ql_K_107 ?_
              refine wp_lt (gZo ql_Z_107 qf_29) ?_
              refine wp_ifn qf_39 ?_
              refine wp_lt ql_R_106_0 ?_
              refine wp_lt gI_s ?_
              refine wp_gd ql_K_107 ?_
              refine wp_gd (gZi ql_Z_107 qf_40) ?_
              refine wp_zIk qf_41 ?_
              refine wp_lt (Eq.trans (gI_a rfl) gI_s) ?_
              refine wp_lt qf_42 ?_
              refine wp_zI ?_
              refine wp_of (f_X6_put_39.eq_1 ..) ?_
              refine wp_ret_bd ?_
              refine wp_gd ql_K_106 ?_
              refine wp_bd ?_
              refine wp_of (f_X6_put.eq_1 ..) ?_
              refine wp_gd ql_K_106 ?_
              refine wp_lt gI_s ?_
              refine wp_ifn qf_43 ?_
              refine wp_lt gI_s ?_
              refine wp_lt ql_R_106_0 ?_
              refine wp_gd ql_K_107 ?_
              refine wp_lt (gZo ql_Z_107 qf_29) ?_
              refine wp_ifn qf_44 ?_
              refine wp_lt ql_R_106_0 ?_
              refine wp_lt gI_s ?_
              refine wp_gd ql_K_107 ?_
              refine wp_gd (gZi ql_Z_107 qf_45) ?_
              refine wp_zIk qf_46 ?_
              refine wp_lt (Eq.trans (gI_a rfl) gI_s) ?_
              refine wp_lt qf_47 ?_
              refine wp_zI ?_
              refine wp_of (f_X6_put_39.eq_1 ..) ?_
              refine wp_ret_bd ?_
              refine wp_ret_bd ?_
              refine wp_gd ql_K_33 ?_
              refine wp_lt ql_R_33_0 ?_
              refine wp_gd ql_K_34 ?_
              refine wp_bd ?_
              refine wp_of (f_X0_plugIn.eq_1 ..) ?_
              refine wp_gd ql_K_34 ?_
              refine wp_lt (Eq.trans (gI_a rfl) (Eq.trans (gI_a rfl) (Eq.trans (gI_a rfl) (Eq.trans (gI_a rfl) (Eq.trans (gI_a rfl) (Eq.trans (gI_a rfl) (Eq.trans (gI_a rfl) (Eq.trans (gI_a rfl) (Eq.trans (gI_a rfl) (Eq.trans (gI_a rfl) ql_I_34_2)))))))))) ?_
              refine wp_ifn qf_28 ?_
              refine wp_lt (Eq.trans (gI_a rfl) (Eq.trans (gI_a rfl) (Eq.trans (gI_a rfl) (Eq.trans (gI_a rfl) (Eq.trans (gI_a rfl) (Eq.trans (gI_a rfl) (Eq.trans (gI_a rfl) (Eq.trans (gI_a rfl) (Eq.trans (gI_a rfl) (Eq.trans (gI_a rfl) ql_I_34_2)))))))))) ?_
              refine wp_lt ql_R_34_1 ?_
              refine wp_gd ql_K_36 ?_
              refine wp_lt (gZo ql_Z_36 qf_121) ?_
              refine wp_ifn qf_115 ?_
              refine wp_lt ql_R_34_1 ?_
              refine wp_lt (Eq.trans (gI_a rfl) (Eq.trans (gI_a rfl) (Eq.trans (gI_a rfl) (Eq.trans (gI_a rfl) (Eq.trans (gI_a rfl) (Eq.trans (gI_a rfl) (Eq.trans (gI_a rfl) (Eq.trans (gI_a rfl) (Eq.trans (gI_a rfl) (Eq.trans (gI_a rfl) ql_I_34_2)))))))))) ?_
              refine wp_gd ql_K_36 ?_
              refine wp_gd (gZi ql_Z_36 qf_122) ?_
              refine wp_lt (gRk qf_32 ql_R_36_0) ?_
              refine wp_gd ql_K_37 ?_
              refine wp_bd ?_
              refine wp_of (f_X3_begin.eq_1 ..) ?_
              refine wp_gd ql_K_37 ?_
              refine wp_gd qf_191 ?_
              refine wp_zI ?_
              refine wp_zI ?_
              refine wp_zI ?_
              refine wp_ret_bd ?_
              refine wp_gd ql_K_34 ?_
              refine wp_lt (Eq.trans (gI_a rfl) (Eq.trans (gI_a rfl) (Eq.trans (gI_a rfl) (Eq.trans (gI_a rfl) (Eq.trans (gI_a rfl) (Eq.trans (gI_a rfl) (Eq.trans (gI_a rfl) (Eq.trans (gI_a rfl) (Eq.trans (gI_a rfl) (Eq.trans (gI_a rfl) (Eq.trans (gI_a rfl) (Eq.trans (gI_a rfl) (Eq.trans (gI_a rfl) ql_I_34_2))))))))))))) ?_
              refine wp_lt qf_27 ?_
              refine wp_zI ?_
              refine wp_of (f_X0_plugIn_43.eq_1 ..) ?_
              refine wp_gd ql_K_34 ?_
              refine wp_lt gI_s ?_
              refine wp_ret_bd ?_
              refine wp_ret_bdc ?_
              refine wp_lt qf_192 ?_
              refine wp_gd ql_K_173 ?_
              refine wp_gd (gZi ql_Z_173 qf_71) ?_
              refine wp_zLk qf_32 ?_
              refine wp_ret_bd ?_
              refine wp_gd qf_0 ?_
              refine wp_lt (xsk qf_1 hy1) ?_
              refine wp_gd qf_2 ?_
              refine wp_lt (xsk qf_3 hy2) ?_
              refine wp_lt hwy2 ?_
              refine wp_gd qf_4 ?_
              refine wp_lt (xsk qf_5 hy3) ?_
              refine wp_gd ql_K_149 ?_
              refine wp_bd ?_
              refine wp_of (f2_X13_addEffect.eq_1 ..) ?_
              refine wp_bd ?_
              refine wp_of (f_X13_isDeck.eq_1 ..) ?_
              refine wp_bd ?_
              refine wp_of (f_X13_isBetween.eq_1 ..) ?_
              refine wp_ifn qf_38 ?_
              refine wp_ifn qf_104 ?_
              refine wp_of (f_X13_isBetween_15.eq_1 ..) ?_
              refine wp_gd qf_18 ?_
              refine wp_ret_bd ?_
              refine wp_gd qf_18 ?_
              refine wp_ret_bd ?_
              refine wp_ifn qf_19 ?_
              refine wp_gd (Or.inr qf_180) ?_
              refine wp_bd ?_
              refine wp_of (f2_J0_indexOf_0f7a4.eq_1 ..) ?_
              refine wp_gd (Or.inr qf_180) ?_
              refine wp_bd ?_
              refine wp_of (f2_J0_indexOf_7cf53.eq_1 ..) ?_
              refine wp_gd (Or.inr qf_180) ?_
              refine wp_bd ?_
              refine wp_of (f2_J0_isLatin1_aae02.eq_1 ..) ?_
              refine wp_ifn qf_19 ?_
              refine wp_gd (Or.inr qf_180) ?_
              refine wp_lt (ifR qf_181 rfl) ?_
              refine wp_ifp qf_15 ?_
              refine wp_of (f2_J0_isLatin1_aae02_18.eq_1 ..) ?_
              refine wp_gd qf_18 ?_
              refine wp_ret_bd ?_
              refine wp_ifn qf_19 ?_
              refine wp_gd (Or.inr qf_180) ?_
              refine wp_lt (ifR qf_181 qf_182) ?_
              refine wp_gd (Or.inr qf_180) ?_
              refine wp_bd ?_
              refine wp_of (f2_J0_length_8abf5.eq_1 ..) ?_
              refine wp_gd (Or.inr qf_180) ?_
              refine wp_lt (ifR qf_181 qf_182) ?_
              refine wp_gd (Or.inr qf_183) ?_
              refine wp_lt (zbo (zbK qf_184 qf_185) qf_121) ?_
              refine wp_gd (Or.inr qf_180) ?_
              refine wp_bd ?_
              refine wp_of (f2_J0_coder_7d493.eq_1 ..) ?_
              refine wp_ifn qf_19 ?_
              refine wp_gd (Or.inr qf_180) ?_
              refine wp_lt (ifR qf_181 rfl) ?_
              refine wp_of (f2_J0_coder_7d493_14.eq_1 ..) ?_
              refine wp_gd qf_138 ?_
              refine wp_ret_bd ?_
              refine wp_lt qf_139 ?_
              refine wp_ret_bd ?_
              refine wp_bd ?_
              refine wp_of (f2_J1_indexOf_4cfef.eq_1 ..) ?_
              refine wp_bd ?_
              refine wp_of (f_J1_canEncode_9a6ad.eq_1 ..) ?_
              refine wp_ifn qf_186 ?_
              refine wp_ifn qf_187 ?_
              refine wp_of (f_J1_canEncode_9a6ad_16.eq_1 ..) ?_
              refine wp_gd qf_18 ?_
              refine wp_ret_bd ?_
              refine wp_ifn qf_19 ?_
              refine wp_lt qf_142 ?_
              refine wp_gd (Or.inr qf_183) ?_
              refine wp_lt (zbo (zbK qf_184 qf_185) qf_121) ?_
              refine wp_lt qf_143 ?_
              refine wp_ifp qf_144 ?_
              refine wp_bd ?_
              refine wp_of (f2_J1_indexOfChar_4cfef.eq_1 ..) ?_
              refine wp_lt qf_188 ?_
              refine wp_of (f2_J1_indexOfChar_4cfef_7.eq_2 ..) ?_
              refine wp_ifn qf_115 ?_
              refine wp_gd (Or.inr qf_183) ?_
              refine wp_gd (zbi (zbK qf_184 qf_185) qf_122) ?_
              refine wp_lt (ibk qf_32 (ibK qf_184 qf_189)) ?_
              refine wp_ifp qf_190 ?_
              refine wp_ret_bd ?_
              refine wp_ret_bd ?_
              refine wp_of (f2_J0_indexOf_7cf53_36.eq_1 ..) ?_
              refine wp_ret_bd ?_
              refine wp_ret_bd ?_
              refine wp_ifn qf_28 ?_
              refine wp_bd ?_
              refine wp_of (f_X13_isBetween.eq_1 ..) ?_
              refine wp_ifn c4 ?_
              refine wp_ifn c5 ?_
              refine wp_of (f_X13_isBetween_15.eq_1 ..) ?_
              refine wp_gd qf_18 ?_
              refine wp_ret_bd ?_
              refine wp_ifn qf_19 ?_
              refine wp_gd ql_K_149 ?_
              refine wp_lt ql_R_149_2 ?_
              refine wp_gd ql_K_151 ?_
              refine wp_gd (gZi ql_Z_151 qf_102) ?_
              refine wp_lt (gRk qf_41 ql_R_151_2) ?_
              refine wp_gd ql_K_160 ?_
              refine wp_lt ql_R_160_8 ?_
              refine wp_gd ql_K_163 ?_
              refine wp_bd ?_
              refine wp_of (f_Jx4a65c_size_8abf5.eq_1 ..) ?_
              refine wp_gd ql_K_163 ?_
              refine wp_lt (Eq.trans (gI_a rfl) (Eq.trans (gI_a rfl) (Eq.trans (gI_a rfl) (Eq.trans (gI_a rfl) (Eq.trans (gI_a rfl) (Eq.trans (gI_a rfl) (Eq.trans (gI_a rfl) (Eq.trans (gI_a rfl) (Eq.trans (gI_a rfl) (Eq.trans (gI_a rfl) (Eq.trans (gI_a rfl) (Eq.trans (gI_a rfl) (Eq.trans (gI_a rfl) (Eq.trans (gI_a rfl) ql_I_163_2)))))))))))))) ?_
              refine wp_ret_bd ?_
              refine wp_ifn qf_193 ?_
              refine wp_of (f2_X13_addEffect_58.eq_1 ..) ?_
              refine wp_gd ql_K_149 ?_
              refine wp_bd ?_
              refine wp_of (f_X13_isWrong.eq_1 ..) ?_
              refine wp_gd ql_K_149 ?_
              refine wp_zI ?_
              refine wp_ifp qf_73 ?_
              refine wp_of (f_X13_isWrong_14.eq_1 ..) ?_
              refine wp_gd qf_14 ?_
              refine wp_ret_bd ?_
              refine wp_ifp qf_15 ?_
              refine wp_gd ql_K_149 ?_
              refine wp_lt ql_R_149_2 ?_
              refine wp_gd ql_K_151 ?_
              refine wp_gd (gZi ql_Z_151 qf_102) ?_
              refine wp_lt (gRk qf_41 ql_R_151_2) ?_
              refine wp_gd ql_K_160 ?_
              refine wp_lt ql_R_160_8 ?_
              refine wp_gd (gNk (n := 174) qf_74) ?_
              refine wp_zW (m := 175) rfl ?_
              refine wp_lt (show _ = 175 from rfl) ?_
              refine wp_gd (gZi gZ_n qf_122) ?_
              refine wp_zIk qf_32 ?_
              refine wp_gd (gZi gZ_n qf_125) ?_
              refine wp_zIk qf_36 ?_
              refine wp_gd (gZi gZ_n qf_127) ?_
              refine wp_zIk qf_41 ?_
              refine wp_gd (Eq.trans (gK_w rfl) ql_K_163) ?_
              refine wp_bd ?_
              refine wp_of (f2_Jx4a65c_add_9ea2d.eq_1 ..) ?_
              refine wp_gd (Eq.trans (gK_w rfl) ql_K_163) ?_
              refine wp_lt (Eq.trans (gI_a rfl) (Eq.trans (gI_a rfl) (Eq.trans (gI_a rfl) (Eq.trans (gI_w rfl) (Eq.trans (gI_a rfl) (Eq.trans (gI_a rfl) (Eq.trans (gI_a rfl) (Eq.trans (gI_a rfl) (Eq.trans (gI_a rfl) (Eq.trans (gI_a rfl) (Eq.trans (gI_a rfl) (Eq.trans (gI_a rfl) (Eq.trans (gI_a rfl) (Eq.trans (gI_a rfl) (Eq.trans (gI_a rfl) (Eq.trans (gI_a rfl) (Eq.trans (gI_a rfl) (Eq.trans (gI_a rfl) (Eq.trans (gI_a rfl) ql_I_163_0))))))))))))))))))) ?_
              refine wp_lt qf_27 ?_
              refine wp_zI ?_
              refine wp_lt (Eq.trans (gR_w rfl) ql_R_163_1) ?_
              refine wp_lt (Eq.trans (gI_b rfl) (Eq.trans (gI_a rfl) (Eq.trans (gI_a rfl) (Eq.trans (gI_a rfl) (Eq.trans (gI_w rfl) (Eq.trans (gI_a rfl) (Eq.trans (gI_a rfl) (Eq.trans (gI_a rfl) (Eq.trans (gI_a rfl) (Eq.trans (gI_a rfl) (Eq.trans (gI_a rfl) (Eq.trans (gI_a rfl) (Eq.trans (gI_a rfl) (Eq.trans (gI_a rfl) (Eq.trans (gI_a rfl) (Eq.trans (gI_a rfl) (Eq.trans (gI_a rfl) (Eq.trans (gI_a rfl) (Eq.trans (gI_a rfl) (Eq.trans (gI_a rfl) ql_I_163_2)))))))))))))))))))) ?_
              refine wp_bd ?_
              refine wp_of (f2_Jx4a65c_add_72be8.eq_1 ..) ?_
              refine wp_ifp qf_75 ?_
              refine wp_ifp qf_15 ?_
              refine wp_gd (Eq.trans (gK_w rfl) ql_K_163) ?_
              refine wp_bd ?_
              refine wp_of (f2_Jx4a65c_grow_d5877.eq_1 ..) ?_
              refine wp_gd (Eq.trans (gK_w rfl) ql_K_163) ?_
              refine wp_lt (Eq.trans (gI_b rfl) (Eq.trans (gI_a rfl) (Eq.trans (gI_a rfl) (Eq.trans (gI_a rfl) (Eq.trans (gI_w rfl) (Eq.trans (gI_a rfl) (Eq.trans (gI_a rfl) (Eq.trans (gI_a rfl) (Eq.trans (gI_a rfl) (Eq.trans (gI_a rfl) (Eq.trans (gI_a rfl) (Eq.trans (gI_a rfl) (Eq.trans (gI_a rfl) (Eq.trans (gI_a rfl) (Eq.trans (gI_a rfl) (Eq.trans (gI_a rfl) (Eq.trans (gI_a rfl) (Eq.trans (gI_a rfl) (Eq.trans (gI_a rfl) (Eq.trans (gI_a rfl) ql_I_163_2)))))))))))))))))))) ?_
              refine wp_lt qf_27 ?_
              refine wp_bd ?_
              refine wp_of (f2_Jx4a65c_grow_92f84.eq_1 ..) ?_
              refine wp_gd (Eq.trans (gK_w rfl) ql_K_163) ?_
              refine wp_lt (Eq.trans (gR_w rfl) ql_R_163_1) ?_
              refine wp_ifp qf_75 ?_
              refine wp_ifn qf_28 ?_
              refine wp_lt (Eq.trans (gR_w rfl) ql_R_163_1) ?_
              refine wp_gd qf_76 ?_
              refine wp_ifp qf_75 ?_
              refine wp_lt qf_77 ?_
              refine wp_ifp qf_78 ?_
              refine wp_gd (gNk (n := 175) qf_79) ?_
              refine wp_zW (m := 176) rfl ?_
              refine wp_lt (show _ = 176 from rfl) ?_
              refine wp_gd (Eq.trans (gK_w rfl) (Eq.trans (gK_w rfl) ql_K_163)) ?_
              refine wp_zR ?_
              refine wp_ret_bd ?_
              refine wp_ret_bd ?_
              refine wp_of (f2_Jx4a65c_add_72be8_11.eq_1 ..) ?_
              refine wp_gd gK_n ?_
              refine wp_gd (gZi gZ_n qf_80) ?_
              refine wp_ifn (neK (Eq.trans (gK_w rfl) gK_n) qf_194) ?_
              refine wp_gd (Eq.trans (gK_w rfl) gK_n) ?_
              refine wp_zRk qf_32 ?_
              refine wp_lt qf_27 ?_
              refine wp_gd (Eq.trans (gK_w rfl) (Eq.trans (gK_w rfl) ql_K_163)) ?_
              refine wp_zI ?_
              refine wp_ret_bd ?_
              refine wp_ret_bd ?_
              refine wp_gd (Eq.trans (gK_w rfl) (Eq.trans (gK_w rfl) ql_K_149)) ?_
              refine wp_bd ?_
              refine wp_of (f_X13_logs.eq_1 ..) ?_
              refine wp_gd (Eq.trans (gK_w rfl) (Eq.trans (gK_w rfl) ql_K_149)) ?_
              refine wp_lt (Eq.trans (gI_a rfl) (Eq.trans (gI_w rfl) (Eq.trans (gI_a rfl) (Eq.trans (gI_a rfl) (Eq.trans (gI_a rfl) (Eq.trans (gI_a rfl) (Eq.trans (gI_w rfl) (Eq.trans (gI_b rfl) (Eq.trans (gI_a rfl) (Eq.trans (gI_a rfl) (Eq.trans (gI_a rfl) (Eq.trans (gI_a rfl) (Eq.trans (gI_a rfl) (Eq.trans (gI_a rfl) (Eq.trans (gI_a rfl) (Eq.trans (gI_a rfl) (Eq.trans (gI_a rfl) (Eq.trans (gI_a rfl) (Eq.trans (gI_a rfl) (Eq.trans (gI_a rfl) (Eq.trans (gI_a rfl) (Eq.trans (gI_a rfl) ql_I_149_16)))))))))))))))))))))) ?_
              refine wp_lt qf_27 ?_
              refine wp_zI ?_
              refine wp_ret_bd ?_
              refine wp_gd (Eq.trans (gK_w rfl) (Eq.trans (gK_w rfl) ql_K_149)) ?_
              refine wp_lt (Eq.trans (gR_a rfl) (Eq.trans (gR_a rfl) (Eq.trans (gR_w rfl) (Eq.trans (gR_w rfl) ql_R_149_2)))) ?_
              refine wp_gd (Eq.trans (gK_w rfl) (Eq.trans (gK_w rfl) ql_K_151)) ?_
              refine wp_gd (gZi (Eq.trans (gZ_w rfl) (Eq.trans (gZ_w rfl) ql_Z_151)) qf_102) ?_
              refine wp_lt (gRk qf_41 (Eq.trans (gR_a rfl) (Eq.trans (gR_a rfl) (Eq.trans (gR_w rfl) (Eq.trans (gR_w rfl) ql_R_151_2))))) ?_
              refine wp_gd (Eq.trans (gK_w rfl) (Eq.trans (gK_w rfl) ql_K_160)) ?_
              refine wp_lt (Eq.trans (gR_a rfl) (Eq.trans (gR_a rfl) (Eq.trans (gR_w rfl) (Eq.trans (gR_w rfl) ql_R_160_8)))) ?_
              refine wp_gd (Eq.trans (gK_w rfl) (Eq.trans (gK_w rfl) ql_K_163)) ?_
              refine wp_bd ?_
              refine wp_of (f_Jx4a65c_size_8abf5.eq_1 ..) ?_
              refine wp_gd (Eq.trans (gK_w rfl) (Eq.trans (gK_w rfl) ql_K_163)) ?_
              refine wp_lt (Eq.trans (gI_a rfl) gI_s) ?_
              refine wp_ret_bd ?_
              refine wp_ret_bd ?_
              refine wp_gd (Eq.trans (gK_w rfl) (Eq.trans (gK_w rfl) ql_K_149)) ?_
              refine wp_bd ?_
              refine wp_of (f_X13_thrown.eq_1 ..) ?_
              refine wp_gd (Eq.trans (gK_w rfl) (Eq.trans (gK_w rfl) ql_K_149)) ?_
              refine wp_lt (Eq.trans (gI_b rfl) (Eq.trans (gI_a rfl) (Eq.trans (gI_w rfl) (Eq.trans (gI_a rfl) (Eq.trans (gI_a rfl) (Eq.trans (gI_a rfl) (Eq.trans (gI_a rfl) (Eq.trans (gI_w rfl) gI_s)))))))) ?_
              refine wp_ret_bd ?_
              refine wp_ifp qf_15 ?_
              refine wp_ifp qf_15 ?_
              refine wp_gd (Eq.trans (gK_w rfl) (Eq.trans (gK_w rfl) ql_K_173)) ?_
              refine wp_gd (gZi (Eq.trans (gZ_w rfl) (Eq.trans (gZ_w rfl) ql_Z_173)) qf_71) ?_
              refine wp_lt (gLk qf_32 (Eq.trans (gL_w rfl) (Eq.trans (gL_w rfl) gL_s))) ?_
              refine wp_lt qf_192 ?_
              refine wp_lt qf_195 ?_
              refine wp_ifp qf_15 ?_
              refine wp_of (f_L_law_2104.eq_1 ..) ?_
              refine wp_of (f_L_law_3632.eq_1 ..) ?_
              refine wp_lt qf_21 ?_
              exact hrc _
        · skip
          refine wp_if (fun c4 => ?_) (fun c4 => ?_)
          · skip
            subst c4
            refine wp_of (f_X10_addEffect_25.eq_1 ..) ?_
            refine wp_of (f_X10_addEffect_30.eq_1 ..) ?_
            refine wp_bd ?_
            refine wp_of (f_X10_demand.eq_1 ..) ?_
            refine wp_ifn qf_19 ?_
            refine wp_ret_bd ?_
            refine wp_bd ?_
            refine wp_of (f_X10_isIn.eq_1 ..) ?_
            refine wp_if (fun c5 => ?_) (fun c5 => ?_)
            · skip
              refine wp_of (f_X10_isIn_14.eq_1 ..) ?_
              refine wp_of (f_X10_isIn_15.eq_1 ..) ?_
              refine wp_gd qf_14 ?_
              refine wp_ret_bd ?_
              refine wp_bd ?_
              refine wp_of (f_X10_demand.eq_1 ..) ?_
              refine wp_ifp qf_15 ?_
              refine wp_rs_bd ?_
              refine wp_rs_bdc ?_
              refine wp_ifn qf_113 ?_
              refine wp_ifp qf_16 ?_
              refine wp_ret_bd ?_
              refine wp_gd qf_0 ?_
              refine wp_lt (xsk qf_1 hy1) ?_
              refine wp_gd qf_2 ?_
              refine wp_lt (xsk qf_3 hy2) ?_
              refine wp_lt hwy2 ?_
              refine wp_gd qf_4 ?_
              refine wp_lt (xsk qf_5 hy3) ?_
              refine wp_gd ql_K_149 ?_
              refine wp_bd ?_
              refine wp_of (f2_X13_addEffect.eq_1 ..) ?_
              refine wp_bd ?_
              refine wp_of (f_X13_isDeck.eq_1 ..) ?_
              refine wp_bd ?_
              refine wp_of (f_X13_isBetween.eq_1 ..) ?_
              refine wp_ifn qf_38 ?_
              refine wp_ifn qf_104 ?_
              refine wp_of (f_X13_isBetween_15.eq_1 ..) ?_
              refine wp_gd qf_18 ?_
              refine wp_ret_bd ?_
              refine wp_gd qf_18 ?_
              refine wp_ret_bd ?_
              refine wp_ifn qf_19 ?_
              refine wp_gd (Or.inr qf_180) ?_
              refine wp_bd ?_
              refine wp_of (f2_J0_indexOf_0f7a4.eq_1 ..) ?_
              refine wp_gd (Or.inr qf_180) ?_
              refine wp_bd ?_
              refine wp_of (f2_J0_indexOf_7cf53.eq_1 ..) ?_
              refine wp_gd (Or.inr qf_180) ?_
              refine wp_bd ?_
              refine wp_of (f2_J0_isLatin1_aae02.eq_1 ..) ?_
              refine wp_ifn qf_19 ?_
              refine wp_gd (Or.inr qf_180) ?_
              refine wp_lt (ifR qf_181 rfl) ?_
              refine wp_ifp qf_15 ?_
              refine wp_of (f2_J0_isLatin1_aae02_18.eq_1 ..) ?_
              refine wp_gd qf_18 ?_
              refine wp_ret_bd ?_
              refine wp_ifn qf_19 ?_
              refine wp_gd (Or.inr qf_180) ?_
              refine wp_lt (ifR qf_181 qf_182) ?_
              refine wp_gd (Or.inr qf_180) ?_
              refine wp_bd ?_
              refine wp_of (f2_J0_length_8abf5.eq_1 ..) ?_
              refine wp_gd (Or.inr qf_180) ?_
              refine wp_lt (ifR qf_181 qf_182) ?_
              refine wp_gd (Or.inr qf_183) ?_
              refine wp_lt (zbo (zbK qf_184 qf_185) qf_121) ?_
              refine wp_gd (Or.inr qf_180) ?_
              refine wp_bd ?_
              refine wp_of (f2_J0_coder_7d493.eq_1 ..) ?_
              refine wp_ifn qf_19 ?_
              refine wp_gd (Or.inr qf_180) ?_
              refine wp_lt (ifR qf_181 rfl) ?_
              refine wp_of (f2_J0_coder_7d493_14.eq_1 ..) ?_
              refine wp_gd qf_138 ?_
              refine wp_ret_bd ?_
              refine wp_lt qf_139 ?_
              refine wp_ret_bd ?_
              refine wp_bd ?_
              refine wp_of (f2_J1_indexOf_4cfef.eq_1 ..) ?_
              refine wp_bd ?_
              refine wp_of (f_J1_canEncode_9a6ad.eq_1 ..) ?_
              refine wp_ifn qf_159 ?_
              refine wp_ifn qf_160 ?_
              refine wp_of (f_J1_canEncode_9a6ad_16.eq_1 ..) ?_
              refine wp_gd qf_18 ?_
              refine wp_ret_bd ?_
              refine wp_ifn qf_19 ?_
              refine wp_lt qf_142 ?_
              refine wp_gd (Or.inr qf_183) ?_
              refine wp_lt (zbo (zbK qf_184 qf_185) qf_121) ?_
              refine wp_lt qf_143 ?_
              refine wp_ifp qf_144 ?_
              refine wp_bd ?_
              refine wp_of (f2_J1_indexOfChar_4cfef.eq_1 ..) ?_
              refine wp_lt qf_161 ?_
              refine wp_of (f2_J1_indexOfChar_4cfef_7.eq_2 ..) ?_
              refine wp_ifn qf_115 ?_
              refine wp_gd (Or.inr qf_183) ?_
              refine wp_gd (zbi (zbK qf_184 qf_185) qf_122) ?_
              refine wp_lt (ibk qf_32 (ibK qf_184 qf_189)) ?_
              refine wp_ifn qf_196 ?_
              refine wp_lt qf_153 ?_
              refine wp_of (f2_J1_indexOfChar_4cfef_7.eq_2 ..) ?_
              refine wp_ifn qf_154 ?_
              refine wp_gd (Or.inr qf_183) ?_
              refine wp_gd (zbi (zbK qf_184 qf_185) qf_125) ?_
              refine wp_lt (ibk qf_36 (ibK qf_184 qf_197)) ?_
              refine wp_ifp qf_167 ?_
              refine wp_ret_bd ?_
              refine wp_ret_bd ?_
              refine wp_of (f2_J0_indexOf_7cf53_36.eq_1 ..) ?_
              refine wp_ret_bd ?_
              refine wp_ret_bd ?_
              refine wp_ifn qf_33 ?_
              refine wp_bd ?_
              refine wp_of (f_X13_isBetween.eq_1 ..) ?_
              refine wp_ifp c5 ?_
              refine wp_of (f_X13_isBetween_14.eq_1 ..) ?_
              refine wp_of (f_X13_isBetween_15.eq_1 ..) ?_
              refine wp_gd qf_14 ?_
              refine wp_ret_bd ?_
              refine wp_ifp qf_15 ?_
              refine wp_of (f2_X13_addEffect_31.eq_1 ..) ?_
              refine wp_of (f2_X13_addEffect_58.eq_1 ..) ?_
              refine wp_gd ql_K_149 ?_
              refine wp_bd ?_
              refine wp_of (f_X13_isWrong.eq_1 ..) ?_
              refine wp_gd ql_K_149 ?_
              refine wp_zI ?_
              refine wp_ifn qf_110 ?_
              refine wp_of (f_X13_isWrong_14.eq_1 ..) ?_
              refine wp_gd qf_18 ?_
              refine wp_ret_bd ?_
              refine wp_ifn qf_19 ?_
              refine wp_ret_bd ?_
              refine wp_gd ql_K_149 ?_
              refine wp_bd ?_
              refine wp_of (f_X13_thrown.eq_1 ..) ?_
              refine wp_gd ql_K_149 ?_
              refine wp_lt gI_s ?_
              refine wp_ret_bd ?_
              refine wp_ifp qf_111 ?_
              refine wp_ifn qf_112 ?_
              refine wp_of (f_L_law_2104.eq_1 ..) ?_
              refine wp_of (f_L_law_3632.eq_1 ..) ?_
              refine wp_lt qf_21 ?_
              exact hrc _
            · skip
              refine wp_if (fun c6 => ?_) (fun c6 => ?_)
              · skip
                refine wp_of (f_X10_isIn_14.eq_1 ..) ?_
                refine wp_of (f_X10_isIn_15.eq_1 ..) ?_
                refine wp_gd qf_14 ?_
                refine wp_ret_bd ?_
                refine wp_bd ?_
                refine wp_of (f_X10_demand.eq_1 ..) ?_
                refine wp_ifp qf_15 ?_
                refine wp_rs_bd ?_
                refine wp_rs_bdc ?_
                refine wp_ifn qf_113 ?_
                refine wp_ifp qf_16 ?_
                refine wp_ret_bd ?_
                refine wp_gd qf_0 ?_
                refine wp_lt (xsk qf_1 hy1) ?_
                refine wp_gd qf_2 ?_
                refine wp_lt (xsk qf_3 hy2) ?_
                refine wp_lt hwy2 ?_
                refine wp_gd qf_4 ?_
                refine wp_lt (xsk qf_5 hy3) ?_
                refine wp_gd ql_K_149 ?_
                refine wp_bd ?_
                refine wp_of (f2_X13_addEffect.eq_1 ..) ?_
                refine wp_bd ?_
                refine wp_of (f_X13_isDeck.eq_1 ..) ?_
                refine wp_bd ?_
                refine wp_of (f_X13_isBetween.eq_1 ..) ?_
                refine wp_ifn qf_38 ?_
                refine wp_ifn qf_104 ?_
                refine wp_of (f_X13_isBetween_15.eq_1 ..) ?_
                refine wp_gd qf_18 ?_
                refine wp_ret_bd ?_
                refine wp_gd qf_18 ?_
                refine wp_ret_bd ?_
                refine wp_ifn qf_19 ?_
                refine wp_gd (Or.inr qf_180) ?_
                refine wp_bd ?_
                refine wp_of (f2_J0_indexOf_0f7a4.eq_1 ..) ?_
                refine wp_gd (Or.inr qf_180) ?_
                refine wp_bd ?_
                refine wp_of (f2_J0_indexOf_7cf53.eq_1 ..) ?_
                refine wp_gd (Or.inr qf_180) ?_
                refine wp_bd ?_
                refine wp_of (f2_J0_isLatin1_aae02.eq_1 ..) ?_
                refine wp_ifn qf_19 ?_
                refine wp_gd (Or.inr qf_180) ?_
                refine wp_lt (ifR qf_181 rfl) ?_
                refine wp_ifp qf_15 ?_
                refine wp_of (f2_J0_isLatin1_aae02_18.eq_1 ..) ?_
                refine wp_gd qf_18 ?_
                refine wp_ret_bd ?_
                refine wp_ifn qf_19 ?_
                refine wp_gd (Or.inr qf_180) ?_
                refine wp_lt (ifR qf_181 qf_182) ?_
                refine wp_gd (Or.inr qf_180) ?_
                refine wp_bd ?_
                refine wp_of (f2_J0_length_8abf5.eq_1 ..) ?_
                refine wp_gd (Or.inr qf_180) ?_
                refine wp_lt (ifR qf_181 qf_182) ?_
                refine wp_gd (Or.inr qf_183) ?_
                refine wp_lt (zbo (zbK qf_184 qf_185) qf_121) ?_
                refine wp_gd (Or.inr qf_180) ?_
                refine wp_bd ?_
                refine wp_of (f2_J0_coder_7d493.eq_1 ..) ?_
                refine wp_ifn qf_19 ?_
                refine wp_gd (Or.inr qf_180) ?_
                refine wp_lt (ifR qf_181 rfl) ?_
                refine wp_of (f2_J0_coder_7d493_14.eq_1 ..) ?_
                refine wp_gd qf_138 ?_
                refine wp_ret_bd ?_
                refine wp_lt qf_139 ?_
                refine wp_ret_bd ?_
                refine wp_bd ?_
                refine wp_of (f2_J1_indexOf_4cfef.eq_1 ..) ?_
                refine wp_bd ?_
                refine wp_of (f_J1_canEncode_9a6ad.eq_1 ..) ?_
                refine wp_ifn qf_159 ?_
                refine wp_ifn qf_160 ?_
                refine wp_of (f_J1_canEncode_9a6ad_16.eq_1 ..) ?_
                refine wp_gd qf_18 ?_
                refine wp_ret_bd ?_
                refine wp_ifn qf_19 ?_
                refine wp_lt qf_142 ?_
                refine wp_gd (Or.inr qf_183) ?_
                refine wp_lt (zbo (zbK qf_184 qf_185) qf_121) ?_
                refine wp_lt qf_143 ?_
                refine wp_ifp qf_144 ?_
                refine wp_bd ?_
                refine wp_of (f2_J1_indexOfChar_4cfef.eq_1 ..) ?_
                refine wp_lt qf_161 ?_
                refine wp_of (f2_J1_indexOfChar_4cfef_7.eq_2 ..) ?_
                refine wp_ifn qf_115 ?_
                refine wp_gd (Or.inr qf_183) ?_
                refine wp_gd (zbi (zbK qf_184 qf_185) qf_122) ?_
                refine wp_lt (ibk qf_32 (ibK qf_184 qf_189)) ?_
                refine wp_ifn qf_196 ?_
                refine wp_lt qf_153 ?_
                refine wp_of (f2_J1_indexOfChar_4cfef_7.eq_2 ..) ?_
                refine wp_ifn qf_154 ?_
                refine wp_gd (Or.inr qf_183) ?_
                refine wp_gd (zbi (zbK qf_184 qf_185) qf_125) ?_
                refine wp_lt (ibk qf_36 (ibK qf_184 qf_197)) ?_
                refine wp_ifp qf_167 ?_
                refine wp_ret_bd ?_
                refine wp_ret_bd ?_
                refine wp_of (f2_J0_indexOf_7cf53_36.eq_1 ..) ?_
                refine wp_ret_bd ?_
                refine wp_ret_bd ?_
                refine wp_ifn qf_33 ?_
                refine wp_bd ?_
                refine wp_of (f_X13_isBetween.eq_1 ..) ?_
                refine wp_ifn c5 ?_
                refine wp_ifp c6 ?_
                refine wp_of (f_X13_isBetween_14.eq_1 ..) ?_
                refine wp_of (f_X13_isBetween_15.eq_1 ..) ?_
                refine wp_gd qf_14 ?_
                refine wp_ret_bd ?_
                refine wp_ifp qf_15 ?_
                refine wp_of (f2_X13_addEffect_31.eq_1 ..) ?_
                refine wp_of (f2_X13_addEffect_58.eq_1 ..) ?_
                refine wp_gd ql_K_149 ?_
                refine wp_bd ?_
                refine wp_of (f_X13_isWrong.eq_1 ..) ?_
                refine wp_gd ql_K_149 ?_
                refine wp_zI ?_
                refine wp_ifn qf_110 ?_
                refine wp_of (f_X13_isWrong_14.eq_1 ..) ?_
                refine wp_gd qf_18 ?_
                refine wp_ret_bd ?_
                refine wp_ifn qf_19 ?_
                refine wp_ret_bd ?_
                refine wp_gd ql_K_149 ?_
                refine wp_bd ?_
                refine wp_of (f_X13_thrown.eq_1 ..) ?_
                refine wp_gd ql_K_149 ?_
                refine wp_lt gI_s ?_
                refine wp_ret_bd ?_
                refine wp_ifp qf_111 ?_
                refine wp_ifn qf_112 ?_
                refine wp_of (f_L_law_2104.eq_1 ..) ?_
                refine wp_of (f_L_law_3632.eq_1 ..) ?_
                refine wp_lt qf_21 ?_
                exact hrc _
              · skip
                refine wp_of (f_X10_isIn_15.eq_1 ..) ?_
                refine wp_gd qf_18 ?_
                refine wp_ret_bd ?_
                refine wp_bd ?_
                refine wp_of (f_X10_demand.eq_1 ..) ?_
                refine wp_ifn qf_19 ?_
                refine wp_ret_bd ?_
                refine wp_gd ql_K_33 ?_
                refine wp_lt ql_R_33_0 ?_
                refine wp_gd ql_K_34 ?_
                refine wp_lt ql_I_34_2 ?_
                refine wp_lt ql_R_33_0 ?_
                refine wp_gd ql_K_34 ?_
                refine wp_lt ql_R_34_1 ?_
                refine wp_gd ql_K_36 ?_
                refine wp_lt (gZo ql_Z_36 qf_121) ?_
                refine wp_ifp qf_144 ?_
                refine wp_gd ql_K_1 ?_
                refine wp_lt ql_R_1_2 ?_
                refine wp_gd ql_K_106 ?_
                refine wp_bd ?_
                refine wp_of (f_X6_note.eq_1 ..) ?_
                refine wp_gd ql_K_106 ?_
                refine wp_bd ?_
                refine wp_of (f_X6_open.eq_1 ..) ?_
                refine wp_gd ql_K_106 ?_
                refine wp_lt ql_I_106_2 ?_
                refine wp_lt qf_25 ?_
                refine wp_zI ?_
                refine wp_lt (Eq.trans (gI_b rfl) ql_I_106_2) ?_
                refine wp_ifn qf_26 ?_
                refine wp_lt (Eq.trans (gI_b rfl) ql_I_106_2) ?_
                refine wp_lt qf_27 ?_
                refine wp_zI ?_
                refine wp_of (f_X6_open_31.eq_1 ..) ?_
                refine wp_gd ql_K_106 ?_
                refine wp_bd ?_
                refine wp_of (f_X6_put.eq_1 ..) ?_
                refine wp_gd ql_K_106 ?_
                refine wp_lt (Eq.trans (gI_b rfl) gI_s) ?_
                refine wp_ifn qf_28 ?_
                refine wp_lt (Eq.trans (gI_b rfl) gI_s) ?_
                refine wp_lt ql_R_106_0 ?_
                refine wp_gd ql_K_107 ?_
                refine wp_lt (gZo ql_Z_107 qf_29) ?_
                refine wp_ifn qf_30 ?_
                refine wp_lt ql_R_106_0 ?_
                refine wp_lt (Eq.trans (gI_b rfl) gI_s) ?_
                refine wp_gd ql_K_107 ?_
                refine wp_gd (gZi ql_Z_107 qf_31) ?_
                refine wp_zIk qf_32 ?_
                refine wp_lt (Eq.trans (gI_a rfl) (Eq.trans (gI_b rfl) gI_s)) ?_
                refine wp_lt qf_27 ?_
                refine wp_zI ?_
                refine wp_of (f_X6_put_39.eq_1 ..) ?_
                refine wp_ret_bd ?_
                refine wp_ret_bd ?_
                refine wp_gd ql_K_106 ?_
                refine wp_bd ?_
                refine wp_of (f_X6_put.eq_1 ..) ?_
                refine wp_gd ql_K_106 ?_
                refine wp_lt gI_s ?_
                refine wp_ifn qf_33 ?_
                refine wp_lt gI_s ?_
                refine wp_lt ql_R_106_0 ?_
                refine wp_gd ql_K_107 ?_
                refine wp_lt (gZo ql_Z_107 qf_29) ?_
                refine wp_ifn qf_34 ?_
                refine wp_lt ql_R_106_0 ?_
                refine wp_lt gI_s ?_
                refine wp_gd ql_K_107 ?_
                refine wp_gd (gZi ql_Z_107 qf_35) ?_
                refine wp_zIk qf_36 ?_
                refine wp_lt (Eq.trans (gI_a rfl) gI_s) ?_
                refine wp_lt qf_37 ?_
                refine wp_zI ?_
                refine wp_of (f_X6_put_39.eq_1 ..) ?_
                refine wp_ret_bd ?_
                refine wp_gd ql_K_106 ?_
                refine wp_bd ?_
                refine wp_of (f_X6_put.eq_1 ..) ?_
                refine wp_gd ql_K_106 ?_
                refine wp_lt gI_s ?_
                refine wp_ifn qf_38 ?_
                refine wp_lt gI_s ?_
                refine wp_lt ql_R_106_0 ?_
                refine wp_gd ql_K_107 ?_
                refine wp_lt (gZo ql_Z_107 qf_29) ?_
                refine wp_ifn qf_39 ?_
                refine wp_lt ql_R_106_0 ?_
                refine wp_lt gI_s ?_
                refine wp_gd ql_K_107 ?_
                refine wp_gd (gZi ql_Z_107 qf_40) ?_
                refine wp_zIk qf_41 ?_
                refine wp_lt (Eq.trans (gI_a rfl) gI_s) ?_
                refine wp_lt qf_42 ?_
                refine wp_zI ?_
                refine wp_of (f_X6_put_39.eq_1 ..) ?_
                refine wp_ret_bd ?_
                refine wp_gd ql_K_106 ?_
                refine wp_bd ?_
                refine wp_of (f_X6_put.eq_1 ..) ?_
                refine wp_gd ql_K_106 ?_
                refine wp_lt gI_s ?_
                refine wp_ifn qf_43 ?_
                refine wp_lt gI_s ?_
                refine wp_lt ql_R_106_0 ?_
                refine wp_gd ql_K_107 ?_
                refine wp_lt (gZo ql_Z_107 qf_29) ?_
                refine wp_ifn qf_44 ?_
                refine wp_lt ql_R_106_0 ?_
                refine wp_lt gI_s ?_
                refine wp_gd ql_K_107 ?_
                refine wp_gd (gZi ql_Z_107 qf_45) ?_
                refine wp_zIk qf_46 ?_
                refine wp_lt (Eq.trans (gI_a rfl) gI_s) ?_
                refine wp_lt qf_47 ?_
                refine wp_zI ?_
                refine wp_of (f_X6_put_39.eq_1 ..) ?_
                refine wp_ret_bd ?_
                refine wp_ret_bd ?_
                refine wp_gd ql_K_33 ?_
                refine wp_lt ql_R_33_0 ?_
                refine wp_gd ql_K_34 ?_
                refine wp_bd ?_
                refine wp_of (f_X0_plugIn.eq_1 ..) ?_
                refine wp_gd ql_K_34 ?_
                refine wp_lt (Eq.trans (gI_a rfl) (Eq.trans (gI_a rfl) (Eq.trans (gI_a rfl) (Eq.trans (gI_a rfl) (Eq.trans (gI_a rfl) (Eq.trans (gI_a rfl) (Eq.trans (gI_a rfl) (Eq.trans (gI_a rfl) (Eq.trans (gI_a rfl) (Eq.trans (gI_a rfl) ql_I_34_2)))))))))) ?_
                refine wp_ifn qf_28 ?_
                refine wp_lt (Eq.trans (gI_a rfl) (Eq.trans (gI_a rfl) (Eq.trans (gI_a rfl) (Eq.trans (gI_a rfl) (Eq.trans (gI_a rfl) (Eq.trans (gI_a rfl) (Eq.trans (gI_a rfl) (Eq.trans (gI_a rfl) (Eq.trans (gI_a rfl) (Eq.trans (gI_a rfl) ql_I_34_2)))))))))) ?_
                refine wp_lt ql_R_34_1 ?_
                refine wp_gd ql_K_36 ?_
                refine wp_lt (gZo ql_Z_36 qf_121) ?_
                refine wp_ifn qf_115 ?_
                refine wp_lt ql_R_34_1 ?_
                refine wp_lt (Eq.trans (gI_a rfl) (Eq.trans (gI_a rfl) (Eq.trans (gI_a rfl) (Eq.trans (gI_a rfl) (Eq.trans (gI_a rfl) (Eq.trans (gI_a rfl) (Eq.trans (gI_a rfl) (Eq.trans (gI_a rfl) (Eq.trans (gI_a rfl) (Eq.trans (gI_a rfl) ql_I_34_2)))))))))) ?_
                refine wp_gd ql_K_36 ?_
                refine wp_gd (gZi ql_Z_36 qf_122) ?_
                refine wp_lt (gRk qf_32 ql_R_36_0) ?_
                refine wp_gd ql_K_37 ?_
                refine wp_bd ?_
                refine wp_of (f_X3_begin.eq_1 ..) ?_
                refine wp_gd ql_K_37 ?_
                refine wp_gd qf_158 ?_
                refine wp_zI ?_
                refine wp_zI ?_
                refine wp_zI ?_
                refine wp_ret_bd ?_
                refine wp_gd ql_K_34 ?_
                refine wp_lt (Eq.trans (gI_a rfl) (Eq.trans (gI_a rfl) (Eq.trans (gI_a rfl) (Eq.trans (gI_a rfl) (Eq.trans (gI_a rfl) (Eq.trans (gI_a rfl) (Eq.trans (gI_a rfl) (Eq.trans (gI_a rfl) (Eq.trans (gI_a rfl) (Eq.trans (gI_a rfl) (Eq.trans (gI_a rfl) (Eq.trans (gI_a rfl) (Eq.trans (gI_a rfl) ql_I_34_2))))))))))))) ?_
                refine wp_lt qf_27 ?_
                refine wp_zI ?_
                refine wp_of (f_X0_plugIn_43.eq_1 ..) ?_
                refine wp_gd ql_K_34 ?_
                refine wp_lt gI_s ?_
                refine wp_ret_bd ?_
                refine wp_ret_bdc ?_
                refine wp_lt qf_192 ?_
                refine wp_gd ql_K_173 ?_
                refine wp_gd (gZi ql_Z_173 qf_71) ?_
                refine wp_zLk qf_32 ?_
                refine wp_ret_bd ?_
                refine wp_gd qf_0 ?_
                refine wp_lt (xsk qf_1 hy1) ?_
                refine wp_gd qf_2 ?_
                refine wp_lt (xsk qf_3 hy2) ?_
                refine wp_lt hwy2 ?_
                refine wp_gd qf_4 ?_
                refine wp_lt (xsk qf_5 hy3) ?_
                refine wp_gd ql_K_149 ?_
                refine wp_bd ?_
                refine wp_of (f2_X13_addEffect.eq_1 ..) ?_
                refine wp_bd ?_
                refine wp_of (f_X13_isDeck.eq_1 ..) ?_
                refine wp_bd ?_
                refine wp_of (f_X13_isBetween.eq_1 ..) ?_
                refine wp_ifn qf_38 ?_
                refine wp_ifn qf_104 ?_
                refine wp_of (f_X13_isBetween_15.eq_1 ..) ?_
                refine wp_gd qf_18 ?_
                refine wp_ret_bd ?_
                refine wp_gd qf_18 ?_
                refine wp_ret_bd ?_
                refine wp_ifn qf_19 ?_
                refine wp_gd (Or.inr qf_180) ?_
                refine wp_bd ?_
                refine wp_of (f2_J0_indexOf_0f7a4.eq_1 ..) ?_
                refine wp_gd (Or.inr qf_180) ?_
                refine wp_bd ?_
                refine wp_of (f2_J0_indexOf_7cf53.eq_1 ..) ?_
                refine wp_gd (Or.inr qf_180) ?_
                refine wp_bd ?_
                refine wp_of (f2_J0_isLatin1_aae02.eq_1 ..) ?_
                refine wp_ifn qf_19 ?_
                refine wp_gd (Or.inr qf_180) ?_
                refine wp_lt (ifR qf_181 rfl) ?_
                refine wp_ifp qf_15 ?_
                refine wp_of (f2_J0_isLatin1_aae02_18.eq_1 ..) ?_
                refine wp_gd qf_18 ?_
                refine wp_ret_bd ?_
                refine wp_ifn qf_19 ?_
                refine wp_gd (Or.inr qf_180) ?_
                refine wp_lt (ifR qf_181 qf_182) ?_
                refine wp_gd (Or.inr qf_180) ?_
                refine wp_bd ?_
                refine wp_of (f2_J0_length_8abf5.eq_1 ..) ?_
                refine wp_gd (Or.inr qf_180) ?_
                refine wp_lt (ifR qf_181 qf_182) ?_
                refine wp_gd (Or.inr qf_183) ?_
                refine wp_lt (zbo (zbK qf_184 qf_185) qf_121) ?_
                refine wp_gd (Or.inr qf_180) ?_
                refine wp_bd ?_
                refine wp_of (f2_J0_coder_7d493.eq_1 ..) ?_
                refine wp_ifn qf_19 ?_
                refine wp_gd (Or.inr qf_180) ?_
                refine wp_lt (ifR qf_181 rfl) ?_
                refine wp_of (f2_J0_coder_7d493_14.eq_1 ..) ?_
                refine wp_gd qf_138 ?_
                refine wp_ret_bd ?_
                refine wp_lt qf_139 ?_
                refine wp_ret_bd ?_
                refine wp_bd ?_
                refine wp_of (f2_J1_indexOf_4cfef.eq_1 ..) ?_
                refine wp_bd ?_
                refine wp_of (f_J1_canEncode_9a6ad.eq_1 ..) ?_
                refine wp_ifn qf_159 ?_
                refine wp_ifn qf_160 ?_
                refine wp_of (f_J1_canEncode_9a6ad_16.eq_1 ..) ?_
                refine wp_gd qf_18 ?_
                refine wp_ret_bd ?_
                refine wp_ifn qf_19 ?_
                refine wp_lt qf_142 ?_
                refine wp_gd (Or.inr qf_183) ?_
                refine wp_lt (zbo (zbK qf_184 qf_185) qf_121) ?_
                refine wp_lt qf_143 ?_
                refine wp_ifp qf_144 ?_
                refine wp_bd ?_
                refine wp_of (f2_J1_indexOfChar_4cfef.eq_1 ..) ?_
                refine wp_lt qf_161 ?_
                refine wp_of (f2_J1_indexOfChar_4cfef_7.eq_2 ..) ?_
                refine wp_ifn qf_115 ?_
                refine wp_gd (Or.inr qf_183) ?_
                refine wp_gd (zbi (zbK qf_184 qf_185) qf_122) ?_
                refine wp_lt (ibk qf_32 (ibK qf_184 qf_189)) ?_
                refine wp_ifn qf_196 ?_
                refine wp_lt qf_153 ?_
                refine wp_of (f2_J1_indexOfChar_4cfef_7.eq_2 ..) ?_
                refine wp_ifn qf_154 ?_
                refine wp_gd (Or.inr qf_183) ?_
                refine wp_gd (zbi (zbK qf_184 qf_185) qf_125) ?_
                refine wp_lt (ibk qf_36 (ibK qf_184 qf_197)) ?_
                refine wp_ifp qf_167 ?_
                refine wp_ret_bd ?_
                refine wp_ret_bd ?_
                refine wp_of (f2_J0_indexOf_7cf53_36.eq_1 ..) ?_
                refine wp_ret_bd ?_
                refine wp_ret_bd ?_
                refine wp_ifn qf_33 ?_
                refine wp_bd ?_
                refine wp_of (f_X13_isBetween.eq_1 ..) ?_
                refine wp_ifn c5 ?_
                refine wp_ifn c6 ?_
                refine wp_of (f_X13_isBetween_15.eq_1 ..) ?_
                refine wp_gd qf_18 ?_
                refine wp_ret_bd ?_
                refine wp_ifn qf_19 ?_
                refine wp_gd ql_K_149 ?_
                refine wp_lt ql_R_149_2 ?_
                refine wp_gd ql_K_151 ?_
                refine wp_gd (gZi ql_Z_151 qf_102) ?_
                refine wp_lt (gRk qf_41 ql_R_151_2) ?_
                refine wp_gd ql_K_160 ?_
                refine wp_lt ql_R_160_8 ?_
                refine wp_gd ql_K_163 ?_
                refine wp_bd ?_
                refine wp_of (f_Jx4a65c_size_8abf5.eq_1 ..) ?_
                refine wp_gd ql_K_163 ?_
                refine wp_lt (Eq.trans (gI_a rfl) (Eq.trans (gI_a rfl) (Eq.trans (gI_a rfl) (Eq.trans (gI_a rfl) (Eq.trans (gI_a rfl) (Eq.trans (gI_a rfl) (Eq.trans (gI_a rfl) (Eq.trans (gI_a rfl) (Eq.trans (gI_a rfl) (Eq.trans (gI_a rfl) (Eq.trans (gI_a rfl) (Eq.trans (gI_a rfl) (Eq.trans (gI_a rfl) (Eq.trans (gI_a rfl) ql_I_163_2)))))))))))))) ?_
                refine wp_ret_bd ?_
                refine wp_ifn qf_193 ?_
                refine wp_of (f2_X13_addEffect_58.eq_1 ..) ?_
                refine wp_gd ql_K_149 ?_
                refine wp_bd ?_
                refine wp_of (f_X13_isWrong.eq_1 ..) ?_
                refine wp_gd ql_K_149 ?_
                refine wp_zI ?_
                refine wp_ifp qf_73 ?_
                refine wp_of (f_X13_isWrong_14.eq_1 ..) ?_
                refine wp_gd qf_14 ?_
                refine wp_ret_bd ?_
                refine wp_ifp qf_15 ?_
                refine wp_gd ql_K_149 ?_
                refine wp_lt ql_R_149_2 ?_
                refine wp_gd ql_K_151 ?_
                refine wp_gd (gZi ql_Z_151 qf_102) ?_
                refine wp_lt (gRk qf_41 ql_R_151_2) ?_
                refine wp_gd ql_K_160 ?_
                refine wp_lt ql_R_160_8 ?_
                refine wp_gd (gNk (n := 174) qf_74) ?_
                refine wp_zW (m := 175) rfl ?_
                refine wp_lt (show _ = 175 from rfl) ?_
                refine wp_gd (gZi gZ_n qf_122) ?_
                refine wp_zIk qf_32 ?_
                refine wp_gd (gZi gZ_n qf_125) ?_
                refine wp_zIk qf_36 ?_
                refine wp_gd (gZi gZ_n qf_127) ?_
                refine wp_zIk qf_41 ?_
                refine wp_gd (Eq.trans (gK_w rfl) ql_K_163) ?_
                refine wp_bd ?_
                refine wp_of (f2_Jx4a65c_add_9ea2d.eq_1 ..) ?_
                refine wp_gd (Eq.trans (gK_w rfl) ql_K_163) ?_
                refine wp_lt (Eq.trans (gI_a rfl) (Eq.trans (gI_a rfl) (Eq.trans (gI_a rfl) (Eq.trans (gI_w rfl) (Eq.trans (gI_a rfl) (Eq.trans (gI_a rfl) (Eq.trans (gI_a rfl) (Eq.trans (gI_a rfl) (Eq.trans (gI_a rfl) (Eq.trans (gI_a rfl) (Eq.trans (gI_a rfl) (Eq.trans (gI_a rfl) (Eq.trans (gI_a rfl) (Eq.trans (gI_a rfl) (Eq.trans (gI_a rfl) (Eq.trans (gI_a rfl) (Eq.trans (gI_a rfl) (Eq.trans (gI_a rfl) (Eq.trans (gI_a rfl) ql_I_163_0))))))))))))))))))) ?_
                refine wp_lt qf_27 ?_
                refine wp_zI ?_
                refine wp_lt (Eq.trans (gR_w rfl) ql_R_163_1) ?_
                refine wp_lt (Eq.trans (gI_b rfl) (Eq.trans (gI_a rfl) (Eq.trans (gI_a rfl) (Eq.trans (gI_a rfl) (Eq.trans (gI_w rfl) (Eq.trans (gI_a rfl) (Eq.trans (gI_a rfl) (Eq.trans (gI_a rfl) (Eq.trans (gI_a rfl) (Eq.trans (gI_a rfl) (Eq.trans (gI_a rfl) (Eq.trans (gI_a rfl) (Eq.trans (gI_a rfl) (Eq.trans (gI_a rfl) (Eq.trans (gI_a rfl) (Eq.trans (gI_a rfl) (Eq.trans (gI_a rfl) (Eq.trans (gI_a rfl) (Eq.trans (gI_a rfl) (Eq.trans (gI_a rfl) ql_I_163_2)))))))))))))))))))) ?_
                refine wp_bd ?_
                refine wp_of (f2_Jx4a65c_add_72be8.eq_1 ..) ?_
                refine wp_ifp qf_75 ?_
                refine wp_ifp qf_15 ?_
                refine wp_gd (Eq.trans (gK_w rfl) ql_K_163) ?_
                refine wp_bd ?_
                refine wp_of (f2_Jx4a65c_grow_d5877.eq_1 ..) ?_
                refine wp_gd (Eq.trans (gK_w rfl) ql_K_163) ?_
                refine wp_lt (Eq.trans (gI_b rfl) (Eq.trans (gI_a rfl) (Eq.trans (gI_a rfl) (Eq.trans (gI_a rfl) (Eq.trans (gI_w rfl) (Eq.trans (gI_a rfl) (Eq.trans (gI_a rfl) (Eq.trans (gI_a rfl) (Eq.trans (gI_a rfl) (Eq.trans (gI_a rfl) (Eq.trans (gI_a rfl) (Eq.trans (gI_a rfl) (Eq.trans (gI_a rfl) (Eq.trans (gI_a rfl) (Eq.trans (gI_a rfl) (Eq.trans (gI_a rfl) (Eq.trans (gI_a rfl) (Eq.trans (gI_a rfl) (Eq.trans (gI_a rfl) (Eq.trans (gI_a rfl) ql_I_163_2)))))))))))))))))))) ?_
                refine wp_lt qf_27 ?_
                refine wp_bd ?_
                refine wp_of (f2_Jx4a65c_grow_92f84.eq_1 ..) ?_
                refine wp_gd (Eq.trans (gK_w rfl) ql_K_163) ?_
                refine wp_lt (Eq.trans (gR_w rfl) ql_R_163_1) ?_
                refine wp_ifp qf_75 ?_
                refine wp_ifn qf_28 ?_
                refine wp_lt (Eq.trans (gR_w rfl) ql_R_163_1) ?_
                refine wp_gd qf_76 ?_
                refine wp_ifp qf_75 ?_
                refine wp_lt qf_77 ?_
                refine wp_ifp qf_78 ?_
                refine wp_gd (gNk (n := 175) qf_79) ?_
                refine wp_zW (m := 176) rfl ?_
                refine wp_lt (show _ = 176 from rfl) ?_
                refine wp_gd (Eq.trans (gK_w rfl) (Eq.trans (gK_w rfl) ql_K_163)) ?_
                refine wp_zR ?_
                refine wp_ret_bd ?_
                refine wp_ret_bd ?_
                refine wp_of (f2_Jx4a65c_add_72be8_11.eq_1 ..) ?_
                refine wp_gd gK_n ?_
                refine wp_gd (gZi gZ_n qf_80) ?_
                refine wp_ifn (neK (Eq.trans (gK_w rfl) gK_n) qf_194) ?_
                refine wp_gd (Eq.trans (gK_w rfl) gK_n) ?_
                refine wp_zRk qf_32 ?_
                refine wp_lt qf_27 ?_
                refine wp_gd (Eq.trans (gK_w rfl) (Eq.trans (gK_w rfl) ql_K_163)) ?_
                refine wp_zI ?_
                refine wp_ret_bd ?_
                refine wp_ret_bd ?_
                refine wp_gd (Eq.trans (gK_w rfl) (Eq.trans (gK_w rfl) ql_K_149)) ?_
                refine wp_bd ?_
                refine wp_of (f_X13_logs.eq_1 ..) ?_
                refine wp_gd (Eq.trans (gK_w rfl) (Eq.trans (gK_w rfl) ql_K_149)) ?_
                refine wp_lt (Eq.trans (gI_a rfl) (Eq.trans (gI_w rfl) (Eq.trans (gI_a rfl) (Eq.trans (gI_a rfl) (Eq.trans (gI_a rfl) (Eq.trans (gI_a rfl) (Eq.trans (gI_w rfl) (Eq.trans (gI_b rfl) (Eq.trans (gI_a rfl) (Eq.trans (gI_a rfl) (Eq.trans (gI_a rfl) (Eq.trans (gI_a rfl) (Eq.trans (gI_a rfl) (Eq.trans (gI_a rfl) (Eq.trans (gI_a rfl) (Eq.trans (gI_a rfl) (Eq.trans (gI_a rfl) (Eq.trans (gI_a rfl) (Eq.trans (gI_a rfl) (Eq.trans (gI_a rfl) (Eq.trans (gI_a rfl) (Eq.trans (gI_a rfl) ql_I_149_16)))))))))))))))))))))) ?_
                refine wp_lt qf_27 ?_
                refine wp_zI ?_
                refine wp_ret_bd ?_
                refine wp_gd (Eq.trans (gK_w rfl) (Eq.trans (gK_w rfl) ql_K_149)) ?_
                refine wp_lt (Eq.trans (gR_a rfl) (Eq.trans (gR_a rfl) (Eq.trans (gR_w rfl) (Eq.trans (gR_w rfl) ql_R_149_2)))) ?_
                refine wp_gd (Eq.trans (gK_w rfl) (Eq.trans (gK_w rfl) ql_K_151)) ?_
                refine wp_gd (gZi (Eq.trans (gZ_w rfl) (Eq.trans (gZ_w rfl) ql_Z_151)) qf_102) ?_
                refine wp_lt (gRk qf_41 (Eq.trans (gR_a rfl) (Eq.trans (gR_a rfl) (Eq.trans (gR_w rfl) (Eq.trans (gR_w rfl) ql_R_151_2))))) ?_
                refine wp_gd (Eq.trans (gK_w rfl) (Eq.trans (gK_w rfl) ql_K_160)) ?_
                refine wp_lt (Eq.trans (gR_a rfl) (Eq.trans (gR_a rfl) (Eq.trans (gR_w rfl) (Eq.trans (gR_w rfl) ql_R_160_8)))) ?_
                refine wp_gd (Eq.trans (gK_w rfl) (Eq.trans (gK_w rfl) ql_K_163)) ?_
                refine wp_bd ?_
                refine wp_of (f_Jx4a65c_size_8abf5.eq_1 ..) ?_
                refine wp_gd (Eq.trans (gK_w rfl) (Eq.trans (gK_w rfl) ql_K_163)) ?_
                refine wp_lt (Eq.trans (gI_a rfl) gI_s) ?_
                refine wp_ret_bd ?_
                refine wp_ret_bd ?_
                refine wp_gd (Eq.trans (gK_w rfl) (Eq.trans (gK_w rfl) ql_K_149)) ?_
                refine wp_bd ?_
                refine wp_of (f_X13_thrown.eq_1 ..) ?_
                refine wp_gd (Eq.trans (gK_w rfl) (Eq.trans (gK_w rfl) ql_K_149)) ?_
                refine wp_lt (Eq.trans (gI_b rfl) (Eq.trans (gI_a rfl) (Eq.trans (gI_w rfl) (Eq.trans (gI_a rfl) (Eq.trans (gI_a rfl) (Eq.trans (gI_a rfl) (Eq.trans (gI_a rfl) (Eq.trans (gI_w rfl) gI_s)))))))) ?_
                refine wp_ret_bd ?_
                refine wp_ifp qf_15 ?_
                refine wp_ifp qf_15 ?_
                refine wp_gd (Eq.trans (gK_w rfl) (Eq.trans (gK_w rfl) ql_K_173)) ?_
                refine wp_gd (gZi (Eq.trans (gZ_w rfl) (Eq.trans (gZ_w rfl) ql_Z_173)) qf_71) ?_
                refine wp_lt (gLk qf_32 (Eq.trans (gL_w rfl) (Eq.trans (gL_w rfl) gL_s))) ?_
                refine wp_lt qf_192 ?_
                refine wp_lt qf_195 ?_
                refine wp_ifp qf_15 ?_
                refine wp_of (f_L_law_2104.eq_1 ..) ?_
                refine wp_of (f_L_law_3632.eq_1 ..) ?_
                refine wp_lt qf_21 ?_
                exact hrc _
          · skip
            refine wp_if (fun c5 => ?_) (fun c5 => ?_)
            · skip
              subst c5
              refine wp_of (f_X10_addEffect_25.eq_1 ..) ?_
              refine wp_of (f_X10_addEffect_30.eq_1 ..) ?_
              refine wp_bd ?_
              refine wp_of (f_X10_demand.eq_1 ..) ?_
              refine wp_ifn qf_19 ?_
              refine wp_ret_bd ?_
              refine wp_bd ?_
              refine wp_of (f_X10_isIn.eq_1 ..) ?_
              refine wp_if (fun c6 => ?_) (fun c6 => ?_)
              · skip
                refine wp_of (f_X10_isIn_14.eq_1 ..) ?_
                refine wp_of (f_X10_isIn_15.eq_1 ..) ?_
                refine wp_gd qf_14 ?_
                refine wp_ret_bd ?_
                refine wp_bd ?_
                refine wp_of (f_X10_demand.eq_1 ..) ?_
                refine wp_ifp qf_15 ?_
                refine wp_rs_bd ?_
                refine wp_rs_bdc ?_
                refine wp_ifn qf_113 ?_
                refine wp_ifp qf_16 ?_
                refine wp_ret_bd ?_
                refine wp_gd qf_0 ?_
                refine wp_lt (xsk qf_1 hy1) ?_
                refine wp_gd qf_2 ?_
                refine wp_lt (xsk qf_3 hy2) ?_
                refine wp_lt hwy2 ?_
                refine wp_gd qf_4 ?_
                refine wp_lt (xsk qf_5 hy3) ?_
                refine wp_gd ql_K_149 ?_
                refine wp_bd ?_
                refine wp_of (f2_X13_addEffect.eq_1 ..) ?_
                refine wp_bd ?_
                refine wp_of (f_X13_isDeck.eq_1 ..) ?_
                refine wp_bd ?_
                refine wp_of (f_X13_isBetween.eq_1 ..) ?_
                refine wp_ifn qf_38 ?_
                refine wp_ifn qf_104 ?_
                refine wp_of (f_X13_isBetween_15.eq_1 ..) ?_
                refine wp_gd qf_18 ?_
                refine wp_ret_bd ?_
                refine wp_gd qf_18 ?_
                refine wp_ret_bd ?_
                refine wp_ifn qf_19 ?_
                refine wp_gd (Or.inr qf_180) ?_
                refine wp_bd ?_
                refine wp_of (f2_J0_indexOf_0f7a4.eq_1 ..) ?_
                refine wp_gd (Or.inr qf_180) ?_
                refine wp_bd ?_
                refine wp_of (f2_J0_indexOf_7cf53.eq_1 ..) ?_
                refine wp_gd (Or.inr qf_180) ?_
                refine wp_bd ?_
                refine wp_of (f2_J0_isLatin1_aae02.eq_1 ..) ?_
                refine wp_ifn qf_19 ?_
                refine wp_gd (Or.inr qf_180) ?_
                refine wp_lt (ifR qf_181 rfl) ?_
                refine wp_ifp qf_15 ?_
                refine wp_of (f2_J0_isLatin1_aae02_18.eq_1 ..) ?_
                refine wp_gd qf_18 ?_
                refine wp_ret_bd ?_
                refine wp_ifn qf_19 ?_
                refine wp_gd (Or.inr qf_180) ?_
                refine wp_lt (ifR qf_181 qf_182) ?_
                refine wp_gd (Or.inr qf_180) ?_
                refine wp_bd ?_
                refine wp_of (f2_J0_length_8abf5.eq_1 ..) ?_
                refine wp_gd (Or.inr qf_180) ?_
                refine wp_lt (ifR qf_181 qf_182) ?_
                refine wp_gd (Or.inr qf_183) ?_
                refine wp_lt (zbo (zbK qf_184 qf_185) qf_121) ?_
                refine wp_gd (Or.inr qf_180) ?_
                refine wp_bd ?_
                refine wp_of (f2_J0_coder_7d493.eq_1 ..) ?_
                refine wp_ifn qf_19 ?_
                refine wp_gd (Or.inr qf_180) ?_
                refine wp_lt (ifR qf_181 rfl) ?_
                refine wp_of (f2_J0_coder_7d493_14.eq_1 ..) ?_
                refine wp_gd qf_138 ?_
                refine wp_ret_bd ?_
                refine wp_lt qf_139 ?_
                refine wp_ret_bd ?_
                refine wp_bd ?_
                refine wp_of (f2_J1_indexOf_4cfef.eq_1 ..) ?_
                refine wp_bd ?_
                refine wp_of (f_J1_canEncode_9a6ad.eq_1 ..) ?_
                refine wp_ifn qf_198 ?_
                refine wp_ifn qf_199 ?_
                refine wp_of (f_J1_canEncode_9a6ad_16.eq_1 ..) ?_
                refine wp_gd qf_18 ?_
                refine wp_ret_bd ?_
                refine wp_ifn qf_19 ?_
                refine wp_lt qf_142 ?_
                refine wp_gd (Or.inr qf_183) ?_
                refine wp_lt (zbo (zbK qf_184 qf_185) qf_121) ?_
                refine wp_lt qf_143 ?_
                refine wp_ifp qf_144 ?_
                refine wp_bd ?_
                refine wp_of (f2_J1_indexOfChar_4cfef.eq_1 ..) ?_
                refine wp_lt qf_200 ?_
                refine wp_of (f2_J1_indexOfChar_4cfef_7.eq_2 ..) ?_
                refine wp_ifn qf_115 ?_
                refine wp_gd (Or.inr qf_183) ?_
                refine wp_gd (zbi (zbK qf_184 qf_185) qf_122) ?_
                refine wp_lt (ibk qf_32 (ibK qf_184 qf_189)) ?_
                refine wp_ifn qf_201 ?_
                refine wp_lt qf_153 ?_
                refine wp_of (f2_J1_indexOfChar_4cfef_7.eq_2 ..) ?_
                refine wp_ifn qf_154 ?_
                refine wp_gd (Or.inr qf_183) ?_
                refine wp_gd (zbi (zbK qf_184 qf_185) qf_125) ?_
                refine wp_lt (ibk qf_36 (ibK qf_184 qf_197)) ?_
                refine wp_ifn qf_202 ?_
                refine wp_lt qf_164 ?_
                refine wp_of (f2_J1_indexOfChar_4cfef_7.eq_2 ..) ?_
                refine wp_ifn qf_165 ?_
                refine wp_gd (Or.inr qf_183) ?_
                refine wp_gd (zbi (zbK qf_184 qf_185) qf_127) ?_
                refine wp_lt (ibk qf_41 (ibK qf_184 qf_203)) ?_
                refine wp_ifp qf_204 ?_
                refine wp_ret_bd ?_
                refine wp_ret_bd ?_
                refine wp_of (f2_J0_indexOf_7cf53_36.eq_1 ..) ?_
                refine wp_ret_bd ?_
                refine wp_ret_bd ?_
                refine wp_ifn qf_38 ?_
                refine wp_bd ?_
                refine wp_of (f_X13_isBetween.eq_1 ..) ?_
                refine wp_ifp c6 ?_
                refine wp_of (f_X13_isBetween_14.eq_1 ..) ?_
                refine wp_of (f_X13_isBetween_15.eq_1 ..) ?_
                refine wp_gd qf_14 ?_
                refine wp_ret_bd ?_
                refine wp_ifp qf_15 ?_
                refine wp_of (f2_X13_addEffect_31.eq_1 ..) ?_
                refine wp_of (f2_X13_addEffect_58.eq_1 ..) ?_
                refine wp_gd ql_K_149 ?_
                refine wp_bd ?_
                refine wp_of (f_X13_isWrong.eq_1 ..) ?_
                refine wp_gd ql_K_149 ?_
                refine wp_zI ?_
                refine wp_ifn qf_110 ?_
                refine wp_of (f_X13_isWrong_14.eq_1 ..) ?_
                refine wp_gd qf_18 ?_
                refine wp_ret_bd ?_
                refine wp_ifn qf_19 ?_
                refine wp_ret_bd ?_
                refine wp_gd ql_K_149 ?_
                refine wp_bd ?_
                refine wp_of (f_X13_thrown.eq_1 ..) ?_
                refine wp_gd ql_K_149 ?_
                refine wp_lt gI_s ?_
                refine wp_ret_bd ?_
                refine wp_ifp qf_111 ?_
                refine wp_ifn qf_112 ?_
                refine wp_of (f_L_law_2104.eq_1 ..) ?_
                refine wp_of (f_L_law_3632.eq_1 ..) ?_
                refine wp_lt qf_21 ?_
                exact hrc _
              · skip
                refine wp_if (fun c7 => ?_) (fun c7 => ?_)
                · skip
                  refine wp_of (f_X10_isIn_14.eq_1 ..) ?_
                  refine wp_of (f_X10_isIn_15.eq_1 ..) ?_
                  refine wp_gd qf_14 ?_
                  refine wp_ret_bd ?_
                  refine wp_bd ?_
                  refine wp_of (f_X10_demand.eq_1 ..) ?_
                  refine wp_ifp qf_15 ?_
                  refine wp_rs_bd ?_
                  refine wp_rs_bdc ?_
                  refine wp_ifn qf_113 ?_
                  refine wp_ifp qf_16 ?_
                  refine wp_ret_bd ?_
                  refine wp_gd qf_0 ?_
                  refine wp_lt (xsk qf_1 hy1) ?_
                  refine wp_gd qf_2 ?_
                  refine wp_lt (xsk qf_3 hy2) ?_
                  refine wp_lt hwy2 ?_
                  refine wp_gd qf_4 ?_
                  refine wp_lt (xsk qf_5 hy3) ?_
                  refine wp_gd ql_K_149 ?_
                  refine wp_bd ?_
                  refine wp_of (f2_X13_addEffect.eq_1 ..) ?_
                  refine wp_bd ?_
                  refine wp_of (f_X13_isDeck.eq_1 ..) ?_
                  refine wp_bd ?_
                  refine wp_of (f_X13_isBetween.eq_1 ..) ?_
                  refine wp_ifn qf_38 ?_
                  refine wp_ifn qf_104 ?_
                  refine wp_of (f_X13_isBetween_15.eq_1 ..) ?_
                  refine wp_gd qf_18 ?_
                  refine wp_ret_bd ?_
                  refine wp_gd qf_18 ?_
                  refine wp_ret_bd ?_
                  refine wp_ifn qf_19 ?_
                  refine wp_gd (Or.inr qf_180) ?_
                  refine wp_bd ?_
                  refine wp_of (f2_J0_indexOf_0f7a4.eq_1 ..) ?_
                  refine wp_gd (Or.inr qf_180) ?_
                  refine wp_bd ?_
                  refine wp_of (f2_J0_indexOf_7cf53.eq_1 ..) ?_
                  refine wp_gd (Or.inr qf_180) ?_
                  refine wp_bd ?_
                  refine wp_of (f2_J0_isLatin1_aae02.eq_1 ..) ?_
                  refine wp_ifn qf_19 ?_
                  refine wp_gd (Or.inr qf_180) ?_
                  refine wp_lt (ifR qf_181 rfl) ?_
                  refine wp_ifp qf_15 ?_
                  refine wp_of (f2_J0_isLatin1_aae02_18.eq_1 ..) ?_
                  refine wp_gd qf_18 ?_
                  refine wp_ret_bd ?_
                  refine wp_ifn qf_19 ?_
                  refine wp_gd (Or.inr qf_180) ?_
                  refine wp_lt (ifR qf_181 qf_182) ?_
                  refine wp_gd (Or.inr qf_180) ?_
                  refine wp_bd ?_
                  refine wp_of (f2_J0_length_8abf5.eq_1 ..) ?_
                  refine wp_gd (Or.inr qf_180) ?_
                  refine wp_lt (ifR qf_181 qf_182) ?_
                  refine wp_gd (Or.inr qf_183) ?_
                  refine wp_lt (zbo (zbK qf_184 qf_185) qf_121) ?_
                  refine wp_gd (Or.inr qf_180) ?_
                  refine wp_bd ?_
                  refine wp_of (f2_J0_coder_7d493.eq_1 ..) ?_
                  refine wp_ifn qf_19 ?_
                  refine wp_gd (Or.inr qf_180) ?_
                  refine wp_lt (ifR qf_181 rfl) ?_
                  refine wp_of (f2_J0_coder_7d493_14.eq_1 ..) ?_
                  refine wp_gd qf_138 ?_
                  refine wp_ret_bd ?_
                  refine wp_lt qf_139 ?_
                  refine wp_ret_bd ?_
                  refine wp_bd ?_
                  refine wp_of (f2_J1_indexOf_4cfef.eq_1 ..) ?_
                  refine wp_bd ?_
                  refine wp_of (f_J1_canEncode_9a6ad.eq_1 ..) ?_
                  refine wp_ifn qf_198 ?_
                  refine wp_ifn qf_199 ?_
                  refine wp_of (f_J1_canEncode_9a6ad_16.eq_1 ..) ?_
                  refine wp_gd qf_18 ?_
                  refine wp_ret_bd ?_
                  refine wp_ifn qf_19 ?_
                  refine wp_lt qf_142 ?_
                  refine wp_gd (Or.inr qf_183) ?_
                  refine wp_lt (zbo (zbK qf_184 qf_185) qf_121) ?_
                  refine wp_lt qf_143 ?_
                  refine wp_ifp qf_144 ?_
                  refine wp_bd ?_
                  refine wp_of (f2_J1_indexOfChar_4cfef.eq_1 ..) ?_
                  refine wp_lt qf_200 ?_
                  refine wp_of (f2_J1_indexOfChar_4cfef_7.eq_2 ..) ?_
                  refine wp_ifn qf_115 ?_
                  refine wp_gd (Or.inr qf_183) ?_
                  refine wp_gd (zbi (zbK qf_184 qf_185) qf_122) ?_
                  refine wp_lt (ibk qf_32 (ibK qf_184 qf_189)) ?_
                  refine wp_ifn qf_201 ?_
                  refine wp_lt qf_153 ?_
                  refine wp_of (f2_J1_indexOfChar_4cfef_7.eq_2 ..) ?_
                  refine wp_ifn qf_154 ?_
                  refine wp_gd (Or.inr qf_183) ?_
                  refine wp_gd (zbi (zbK qf_184 qf_185) qf_125) ?_
                  refine wp_lt (ibk qf_36 (ibK qf_184 qf_197)) ?_
                  refine wp_ifn qf_202 ?_
                  refine wp_lt qf_164 ?_
                  refine wp_of (f2_J1_indexOfChar_4cfef_7.eq_2 ..) ?_
                  refine wp_ifn qf_165 ?_
                  refine wp_gd (Or.inr qf_183) ?_
                  refine wp_gd (zbi (zbK qf_184 qf_185) qf_127) ?_
                  refine wp_lt (ibk qf_41 (ibK qf_184 qf_203)) ?_
                  refine wp_ifp qf_204 ?_
                  refine wp_ret_bd ?_
                  refine wp_ret_bd ?_
                  refine wp_of (f2_J0_indexOf_7cf53_36.eq_1 ..) ?_
                  refine wp_ret_bd ?_
                  refine wp_ret_bd ?_
                  refine wp_ifn qf_38 ?_
                  refine wp_bd ?_
                  refine wp_of (f_X13_isBetween.eq_1 ..) ?_
                  refine wp_ifn c6 ?_
                  refine wp_ifp c7 ?_
                  refine wp_of (f_X13_isBetween_14.eq_1 ..) ?_
                  refine wp_of (f_X13_isBetween_15.eq_1 ..) ?_
                  refine wp_gd qf_14 ?_
                  refine wp_ret_bd ?_
                  refine wp_ifp qf_15 ?_
                  refine wp_of (f2_X13_addEffect_31.eq_1 ..) ?_
                  refine wp_of (f2_X13_addEffect_58.eq_1 ..) ?_
                  refine wp_gd ql_K_149 ?_
                  refine wp_bd ?_
                  refine wp_of (f_X13_isWrong.eq_1 ..) ?_
                  refine wp_gd ql_K_149 ?_
                  refine wp_zI ?_
                  refine wp_ifn qf_110 ?_
                  refine wp_of (f_X13_isWrong_14.eq_1 ..) ?_
                  refine wp_gd qf_18 ?_
                  refine wp_ret_bd ?_
                  refine wp_ifn qf_19 ?_
                  refine wp_ret_bd ?_
                  refine wp_gd ql_K_149 ?_
                  refine wp_bd ?_
                  refine wp_of (f_X13_thrown.eq_1 ..) ?_
                  refine wp_gd ql_K_149 ?_
                  refine wp_lt gI_s ?_
                  refine wp_ret_bd ?_
                  refine wp_ifp qf_111 ?_
                  refine wp_ifn qf_112 ?_
                  refine wp_of (f_L_law_2104.eq_1 ..) ?_
                  refine wp_of (f_L_law_3632.eq_1 ..) ?_
                  refine wp_lt qf_21 ?_
                  exact hrc _
                · skip
                  refine wp_of (f_X10_isIn_15.eq_1 ..) ?_
                  refine wp_gd qf_18 ?_
                  refine wp_ret_bd ?_
                  refine wp_bd ?_
                  refine wp_of (f_X10_demand.eq_1 ..) ?_
                  refine wp_ifn qf_19 ?_
                  refine wp_ret_bd ?_
                  refine wp_gd ql_K_33 ?_
                  refine wp_lt ql_R_33_0 ?_
                  refine wp_gd ql_K_34 ?_
                  refine wp_lt ql_I_34_2 ?_
                  refine wp_lt ql_R_33_0 ?_
                  refine wp_gd ql_K_34 ?_
                  refine wp_lt ql_R_34_1 ?_
                  refine wp_gd ql_K_36 ?_
                  refine wp_lt (gZo ql_Z_36 qf_121) ?_
                  refine wp_ifp qf_144 ?_
                  refine wp_gd ql_K_1 ?_
                  refine wp_lt ql_R_1_2 ?_
                  refine wp_gd ql_K_106 ?_
                  refine wp_bd ?_
                  refine wp_of (f_X6_note.eq_1 ..) ?_
                  refine wp_gd ql_K_106 ?_
                  refine wp_bd ?_
                  refine wp_of (f_X6_open.eq_1 ..) ?_
                  refine wp_gd ql_K_106 ?_
                  refine wp_lt ql_I_106_2 ?_
                  refine wp_lt qf_25 ?_
                  refine wp_zI ?_
                  refine wp_lt (Eq.trans (gI_b rfl) ql_I_106_2) ?_
                  refine wp_ifn qf_26 ?_
                  refine wp_lt (Eq.trans (gI_b rfl) ql_I_106_2) ?_
                  refine wp_lt qf_27 ?_
                  refine wp_zI ?_
                  refine wp_of (f_X6_open_31.eq_1 ..) ?_
                  refine wp_gd ql_K_106 ?_
                  refine wp_bd ?_
                  refine wp_of (f_X6_put.eq_1 ..) ?_
                  refine wp_gd ql_K_106 ?_
                  refine wp_lt (Eq.trans (gI_b rfl) gI_s) ?_
                  refine wp_ifn qf_28 ?_
                  refine wp_lt (Eq.trans (gI_b rfl) gI_s) ?_
                  refine wp_lt ql_R_106_0 ?_
                  refine wp_gd ql_K_107 ?_
                  refine wp_lt (gZo ql_Z_107 qf_29) ?_
                  refine wp_ifn qf_30 ?_
                  refine wp_lt ql_R_106_0 ?_
                  refine wp_lt (Eq.trans (gI_b rfl) gI_s) ?_
                  refine wp_gd ql_K_107 ?_
                  refine wp_gd (gZi ql_Z_107 qf_31) ?_
                  refine wp_zIk qf_32 ?_
                  refine wp_lt (Eq.trans (gI_a rfl) (Eq.trans (gI_b rfl) gI_s)) ?_
                  refine wp_lt qf_27 ?_
                  refine wp_zI ?_
                  refine wp_of (f_X6_put_39.eq_1 ..) ?_
                  refine wp_ret_bd ?_
                  refine wp_ret_bd ?_
                  refine wp_gd ql_K_106 ?_
                  refine wp_bd ?_
                  refine wp_of (f_X6_put.eq_1 ..) ?_
                  refine wp_gd ql_K_106 ?_
                  refine wp_lt gI_s ?_
                  refine wp_ifn qf_33 ?_
                  refine wp_lt gI_s ?_
                  refine wp_lt ql_R_106_0 ?_
                  refine wp_gd ql_K_107 ?_
                  refine wp_lt (gZo ql_Z_107 qf_29) ?_
                  refine wp_ifn qf_34 ?_
                  refine wp_lt ql_R_106_0 ?_
                  refine wp_lt gI_s ?_
                  refine wp_gd ql_K_107 ?_
                  refine wp_gd (gZi ql_Z_107 qf_35) ?_
                  refine wp_zIk qf_36 ?_
                  refine wp_lt (Eq.trans (gI_a rfl) gI_s) ?_
                  refine wp_lt qf_37 ?_
                  refine wp_zI ?_
                  refine wp_of (f_X6_put_39.eq_1 ..) ?_
                  refine wp_ret_bd ?_
                  refine wp_gd ql_K_106 ?_
                  refine wp_bd ?_
                  refine wp_of (f_X6_put.eq_1 ..) ?_
                  refine wp_gd ql_K_106 ?_
                  refine wp_lt gI_s ?_
                  refine wp_ifn qf_38 ?_
                  refine wp_lt gI_s ?_
                  refine wp_lt ql_R_106_0 ?_
                  refine wp_gd ql_K_107 ?_
                  refine wp_lt (gZo ql_Z_107 qf_29) ?_
                  refine wp_ifn qf_39 ?_
                  refine wp_lt ql_R_106_0 ?_
                  refine wp_lt gI_s ?_
                  refine wp_gd ql_K_107 ?_
                  refine wp_gd (gZi ql_Z_107 qf_40) ?_
                  refine wp_zIk qf_41 ?_
                  refine wp_lt (Eq.trans (gI_a rfl) gI_s) ?_
                  refine wp_lt qf_42 ?_
                  refine wp_zI ?_
                  refine wp_of (f_X6_put_39.eq_1 ..) ?_
                  refine wp_ret_bd ?_
                  refine wp_gd ql_K_106 ?_
                  refine wp_bd ?_
                  refine wp_of (f_X6_put.eq_1 ..) ?_
                  refine wp_gd ql_K_106 ?_
                  refine wp_lt gI_s ?_
                  refine wp_ifn qf_43 ?_
                  refine wp_lt gI_s ?_
                  refine wp_lt ql_R_106_0 ?_
                  refine wp_gd ql_K_107 ?_
                  refine wp_lt (gZo ql_Z_107 qf_29) ?_
                  refine wp_ifn qf_44 ?_
                  refine wp_lt ql_R_106_0 ?_
                  refine wp_lt gI_s ?_
                  refine wp_gd ql_K_107 ?_
                  refine wp_gd (gZi ql_Z_107 qf_45) ?_
                  refine wp_zIk qf_46 ?_
                  refine wp_lt (Eq.trans (gI_a rfl) gI_s) ?_
                  refine wp_lt qf_47 ?_
                  refine wp_zI ?_
                  refine wp_of (f_X6_put_39.eq_1 ..) ?_
                  refine wp_ret_bd ?_
                  refine wp_ret_bd ?_
                  refine wp_gd ql_K_33 ?_
                  refine wp_lt ql_R_33_0 ?_
                  refine wp_gd ql_K_34 ?_
                  refine wp_bd ?_
                  refine wp_of (f_X0_plugIn.eq_1 ..) ?_
                  refine wp_gd ql_K_34 ?_
                  refine wp_lt (Eq.trans (gI_a rfl) (Eq.trans (gI_a rfl) (Eq.trans (gI_a rfl) (Eq.trans (gI_a rfl) (Eq.trans (gI_a rfl) (Eq.trans (gI_a rfl) (Eq.trans (gI_a rfl) (Eq.trans (gI_a rfl) (Eq.trans (gI_a rfl) (Eq.trans (gI_a rfl) ql_I_34_2)))))))))) ?_
                  refine wp_ifn qf_28 ?_
                  refine wp_lt (Eq.trans (gI_a rfl) (Eq.trans (gI_a rfl) (Eq.trans (gI_a rfl) (Eq.trans (gI_a rfl) (Eq.trans (gI_a rfl) (Eq.trans (gI_a rfl) (Eq.trans (gI_a rfl) (Eq.trans (gI_a rfl) (Eq.trans (gI_a rfl) (Eq.trans (gI_a rfl) ql_I_34_2)))))))))) ?_
                  refine wp_lt ql_R_34_1 ?_
                  refine wp_gd ql_K_36 ?_
                  refine wp_lt (gZo ql_Z_36 qf_121) ?_
                  refine wp_ifn qf_115 ?_
                  refine wp_lt ql_R_34_1 ?_
                  refine wp_lt (Eq.trans (gI_a rfl) (Eq.trans (gI_a rfl) (Eq.trans (gI_a rfl) (Eq.trans (gI_a rfl) (Eq.trans (gI_a rfl) (Eq.trans (gI_a rfl) (Eq.trans (gI_a rfl) (Eq.trans (gI_a rfl) (Eq.trans (gI_a rfl) (Eq.trans (gI_a rfl) ql_I_34_2)))))))))) ?_
                  refine wp_gd ql_K_36 ?_
                  refine wp_gd (gZi ql_Z_36 qf_122) ?_
                  refine wp_lt (gRk qf_32 ql_R_36_0) ?_
                  refine wp_gd ql_K_37 ?_
                  refine wp_bd ?_
                  refine wp_of (f_X3_begin.eq_1 ..) ?_
                  refine wp_gd ql_K_37 ?_
                  refine wp_gd qf_205 ?_
                  refine wp_zI ?_
                  refine wp_zI ?_
                  refine wp_zI ?_
                  refine wp_ret_bd ?_
                  refine wp_gd ql_K_34 ?_
                  refine wp_lt (Eq.trans (gI_a rfl) (Eq.trans (gI_a rfl) (Eq.trans (gI_a rfl) (Eq.trans (gI_a rfl) (Eq.trans (gI_a rfl) (Eq.trans (gI_a rfl) (Eq.trans (gI_a rfl) (Eq.trans (gI_a rfl) (Eq.trans (gI_a rfl) (Eq.trans (gI_a rfl) (Eq.trans (gI_a rfl) (Eq.trans (gI_a rfl) (Eq.trans (gI_a rfl) ql_I_34_2))))))))))))) ?_
                  refine wp_lt qf_27 ?_
                  refine wp_zI ?_
                  refine wp_of (f_X0_plugIn_43.eq_1 ..) ?_
                  refine wp_gd ql_K_34 ?_
                  refine wp_lt gI_s ?_
                  refine wp_ret_bd ?_
                  refine wp_ret_bdc ?_
                  refine wp_lt qf_192 ?_
                  refine wp_gd ql_K_173 ?_
                  refine wp_gd (gZi ql_Z_173 qf_71) ?_
                  refine wp_zLk qf_32 ?_
                  refine wp_ret_bd ?_
                  refine wp_gd qf_0 ?_
                  refine wp_lt (xsk qf_1 hy1) ?_
                  refine wp_gd qf_2 ?_
                  refine wp_lt (xsk qf_3 hy2) ?_
                  refine wp_lt hwy2 ?_
                  refine wp_gd qf_4 ?_
                  refine wp_lt (xsk qf_5 hy3) ?_
                  refine wp_gd ql_K_149 ?_
                  refine wp_bd ?_
                  refine wp_of (f2_X13_addEffect.eq_1 ..) ?_
                  refine wp_bd ?_
                  refine wp_of (f_X13_isDeck.eq_1 ..) ?_
                  refine wp_bd ?_
                  refine wp_of (f_X13_isBetween.eq_1 ..) ?_
                  refine wp_ifn qf_38 ?_
                  refine wp_ifn qf_104 ?_
                  refine wp_of (f_X13_isBetween_15.eq_1 ..) ?_
                  refine wp_gd qf_18 ?_
                  refine wp_ret_bd ?_
                  refine wp_gd qf_18 ?_
                  refine wp_ret_bd ?_
                  refine wp_ifn qf_19 ?_
                  refine wp_gd (Or.inr qf_180) ?_
                  refine wp_bd ?_
                  refine wp_of (f2_J0_indexOf_0f7a4.eq_1 ..) ?_
                  refine wp_gd (Or.inr qf_180) ?_
                  refine wp_bd ?_
                  refine wp_of (f2_J0_indexOf_7cf53.eq_1 ..) ?_
                  refine wp_gd (Or.inr qf_180) ?_
                  refine wp_bd ?_
                  refine wp_of (f2_J0_isLatin1_aae02.eq_1 ..) ?_
                  refine wp_ifn qf_19 ?_
                  refine wp_gd (Or.inr qf_180) ?_
                  refine wp_lt (ifR qf_181 rfl) ?_
                  refine wp_ifp qf_15 ?_
                  refine wp_of (f2_J0_isLatin1_aae02_18.eq_1 ..) ?_
                  refine wp_gd qf_18 ?_
                  refine wp_ret_bd ?_
                  refine wp_ifn qf_19 ?_
                  refine wp_gd (Or.inr qf_180) ?_
                  refine wp_lt (ifR qf_181 qf_182) ?_
                  refine wp_gd (Or.inr qf_180) ?_
                  refine wp_bd ?_
                  refine wp_of (f2_J0_length_8abf5.eq_1 ..) ?_
                  refine wp_gd (Or.inr qf_180) ?_
                  refine wp_lt (ifR qf_181 qf_182) ?_
                  refine wp_gd (Or.inr qf_183) ?_
                  refine wp_lt (zbo (zbK qf_184 qf_185) qf_121) ?_
                  refine wp_gd (Or.inr qf_180) ?_
                  refine wp_bd ?_
                  refine wp_of (f2_J0_coder_7d493.eq_1 ..) ?_
                  refine wp_ifn qf_19 ?_
                  refine wp_gd (Or.inr qf_180) ?_
                  refine wp_lt (ifR qf_181 rfl) ?_
                  refine wp_of (f2_J0_coder_7d493_14.eq_1 ..) ?_
                  refine wp_gd qf_138 ?_
                  refine wp_ret_bd ?_
                  refine wp_lt qf_139 ?_
                  refine wp_ret_bd ?_
                  refine wp_bd ?_
                  refine wp_of (f2_J1_indexOf_4cfef.eq_1 ..) ?_
                  refine wp_bd ?_
                  refine wp_of (f_J1_canEncode_9a6ad.eq_1 ..) ?_
                  refine wp_ifn qf_198 ?_
                  refine wp_ifn qf_199 ?_
                  refine wp_of (f_J1_canEncode_9a6ad_16.eq_1 ..) ?_
                  refine wp_gd qf_18 ?_
                  refine wp_ret_bd ?_
                  refine wp_ifn qf_19 ?_
                  refine wp_lt qf_142 ?_
                  refine wp_gd (Or.inr qf_183) ?_
                  refine wp_lt (zbo (zbK qf_184 qf_185) qf_121) ?_
                  refine wp_lt qf_143 ?_
                  refine wp_ifp qf_144 ?_
                  refine wp_bd ?_
                  refine wp_of (f2_J1_indexOfChar_4cfef.eq_1 ..) ?_
                  refine wp_lt qf_200 ?_
                  refine wp_of (f2_J1_indexOfChar_4cfef_7.eq_2 ..) ?_
                  refine wp_ifn qf_115 ?_
                  refine wp_gd (Or.inr qf_183) ?_
                  refine wp_gd (zbi (zbK qf_184 qf_185) qf_122) ?_
                  refine wp_lt (ibk qf_32 (ibK qf_184 qf_189)) ?_
                  refine wp_ifn qf_201 ?_
                  refine wp_lt qf_153 ?_
                  refine wp_of (f2_J1_indexOfChar_4cfef_7.eq_2 ..) ?_
                  refine wp_ifn qf_154 ?_
                  refine wp_gd (Or.inr qf_183) ?_
                  refine wp_gd (zbi (zbK qf_184 qf_185) qf_125) ?_
                  refine wp_lt (ibk qf_36 (ibK qf_184 qf_197)) ?_
                  refine wp_ifn qf_202 ?_
                  refine wp_lt qf_164 ?_
                  refine wp_of (f2_J1_indexOfChar_4cfef_7.eq_2 ..) ?_
                  refine wp_ifn qf_165 ?_
                  refine wp_gd (Or.inr qf_183) ?_
                  refine wp_gd (zbi (zbK qf_184 qf_185) qf_127) ?_
                  refine wp_lt (ibk qf_41 (ibK qf_184 qf_203)) ?_
                  refine wp_ifp qf_204 ?_
                  refine wp_ret_bd ?_
                  refine wp_ret_bd ?_
                  refine wp_of (f2_J0_indexOf_7cf53_36.eq_1 ..) ?_
                  refine wp_ret_bd ?_
                  refine wp_ret_bd ?_
                  refine wp_ifn qf_38 ?_
                  refine wp_bd ?_
                  refine wp_of (f_X13_isBetween.eq_1 ..) ?_
                  refine wp_ifn c6 ?_
                  refine wp_ifn c7 ?_
                  refine wp_of (f_X13_isBetween_15.eq_1 ..) ?_
                  refine wp_gd qf_18 ?_
                  refine wp_ret_bd ?_
                  refine wp_ifn qf_19 ?_
                  refine wp_gd ql_K_149 ?_
                  refine wp_lt ql_R_149_2 ?_
                  refine wp_gd ql_K_151 ?_
                  refine wp_gd (gZi ql_Z_151 qf_102) ?_
                  refine wp_lt (gRk qf_41 ql_R_151_2) ?_
                  refine wp_gd ql_K_160 ?_
                  refine wp_lt ql_R_160_8 ?_
                  refine wp_gd ql_K_163 ?_
                  refine wp_bd ?_
                  refine wp_of (f_Jx4a65c_size_8abf5.eq_1 ..) ?_
                  refine wp_gd ql_K_163 ?_
                  refine wp_lt (Eq.trans (gI_a rfl) (Eq.trans (gI_a rfl) (Eq.trans (gI_a rfl) (Eq.trans (gI_a rfl) (Eq.trans (gI_a rfl) (Eq.trans (gI_a rfl) (Eq.trans (gI_a rfl) (Eq.trans (gI_a rfl) (Eq.trans (gI_a rfl) (Eq.trans (gI_a rfl) (Eq.trans (gI_a rfl) (Eq.trans (gI_a rfl) (Eq.trans (gI_a rfl) (Eq.trans (gI_a rfl) ql_I_163_2)))))))))))))) ?_
                  refine wp_ret_bd ?_
                  refine wp_ifn qf_193 ?_
                  refine wp_of (f2_X13_addEffect_58.eq_1 ..) ?_
                  refine wp_gd ql_K_149 ?_
                  refine wp_bd ?_
                  refine wp_of (f_X13_isWrong.eq_1 ..) ?_
                  refine wp_gd ql_K_149 ?_
                  refine wp_zI ?_
                  refine wp_ifp qf_73 ?_
                  refine wp_of (f_X13_isWrong_14.eq_1 ..) ?_
                  refine wp_gd qf_14 ?_
                  refine wp_ret_bd ?_
                  refine wp_ifp qf_15 ?_
                  refine wp_gd ql_K_149 ?_
                  refine wp_lt ql_R_149_2 ?_
                  refine wp_gd ql_K_151 ?_
                  refine wp_gd (gZi ql_Z_151 qf_102) ?_
                  refine wp_lt (gRk qf_41 ql_R_151_2) ?_
                  refine wp_gd ql_K_160 ?_
                  refine wp_lt ql_R_160_8 ?_
                  refine wp_gd (gNk (n := 174) qf_74) ?_
                  refine wp_zW (m := 175) rfl ?_
                  refine wp_lt (show _ = 175 from rfl) ?_
                  refine wp_gd (gZi gZ_n qf_122) ?_
                  refine wp_zIk qf_32 ?_
                  refine wp_gd (gZi gZ_n qf_125) ?_
                  refine wp_zIk qf_36 ?_
                  refine wp_gd (gZi gZ_n qf_127) ?_
                  refine wp_zIk qf_41 ?_
                  refine wp_gd (Eq.trans (gK_w rfl) ql_K_163) ?_
                  refine wp_bd ?_
                  refine wp_of (f2_Jx4a65c_add_9ea2d.eq_1 ..) ?_
                  refine wp_gd (Eq.trans (gK_w rfl) ql_K_163) ?_
                  refine wp_lt (Eq.trans (gI_a rfl) (Eq.trans (gI_a rfl) (Eq.trans (gI_a rfl) (Eq.trans (gI_w rfl) (Eq.trans (gI_a rfl) (Eq.trans (gI_a rfl) (Eq.trans (gI_a rfl) (Eq.trans (gI_a rfl) (Eq.trans (gI_a rfl) (Eq.trans (gI_a rfl) (Eq.trans (gI_a rfl) (Eq.trans (gI_a rfl) (Eq.trans (gI_a rfl) (Eq.trans (gI_a rfl) (Eq.trans (gI_a rfl) (Eq.trans (gI_a rfl) (Eq.trans (gI_a rfl) (Eq.trans (gI_a rfl) (Eq.trans (gI_a rfl) ql_I_163_0))))))))))))))))))) ?_
                  refine wp_lt qf_27 ?_
                  refine wp_zI ?_
                  refine wp_lt (Eq.trans (gR_w rfl) ql_R_163_1) ?_
                  refine wp_lt (Eq.trans (gI_b rfl) (Eq.trans (gI_a rfl) (Eq.trans (gI_a rfl) (Eq.trans (gI_a rfl) (Eq.trans (gI_w rfl) (Eq.trans (gI_a rfl) (Eq.trans (gI_a rfl) (Eq.trans (gI_a rfl) (Eq.trans (gI_a rfl) (Eq.trans (gI_a rfl) (Eq.trans (gI_a rfl) (Eq.trans (gI_a rfl) (Eq.trans (gI_a rfl) (Eq.trans (gI_a rfl) (Eq.trans (gI_a rfl) (Eq.trans (gI_a rfl) (Eq.trans (gI_a rfl) (Eq.trans (gI_a rfl) (Eq.trans (gI_a rfl) (Eq.trans (gI_a rfl) ql_I_163_2)))))))))))))))))))) ?_
                  refine wp_bd ?_
                  refine wp_of (f2_Jx4a65c_add_72be8.eq_1 ..) ?_
                  refine wp_ifp qf_75 ?_
                  refine wp_ifp qf_15 ?_
                  refine wp_gd (Eq.trans (gK_w rfl) ql_K_163) ?_
                  refine wp_bd ?_
                  refine wp_of (f2_Jx4a65c_grow_d5877.eq_1 ..) ?_
                  refine wp_gd (Eq.trans (gK_w rfl) ql_K_163) ?_
                  refine wp_lt (Eq.trans (gI_b rfl) (Eq.trans (gI_a rfl) (Eq.trans (gI_a rfl) (Eq.trans (gI_a rfl) (Eq.trans (gI_w rfl) (Eq.trans (gI_a rfl) (Eq.trans (gI_a rfl) (Eq.trans (gI_a rfl) (Eq.trans (gI_a rfl) (Eq.trans (gI_a rfl) (Eq.trans (gI_a rfl) (Eq.trans (gI_a rfl) (Eq.trans (gI_a rfl) (Eq.trans (gI_a rfl) (Eq.trans (gI_a rfl) (Eq.trans (gI_a rfl) (Eq.trans (gI_a rfl) (Eq.trans (gI_a rfl) (Eq.trans (gI_a rfl) (Eq.trans (gI_a rfl) ql_I_163_2)))))))))))))))))))) ?_
                  refine wp_lt qf_27 ?_
                  refine wp_bd ?_
                  refine wp_of (f2_Jx4a65c_grow_92f84.eq_1 ..) ?_
                  refine wp_gd (Eq.trans (gK_w rfl) ql_K_163) ?_
                  refine wp_lt (Eq.trans (gR_w rfl) ql_R_163_1) ?_
                  refine wp_ifp qf_75 ?_
                  refine wp_ifn qf_28 ?_
                  refine wp_lt (Eq.trans (gR_w rfl) ql_R_163_1) ?_
                  refine wp_gd qf_76 ?_
                  refine wp_ifp qf_75 ?_
                  refine wp_lt qf_77 ?_
                  refine wp_ifp qf_78 ?_
                  refine wp_gd (gNk (n := 175) qf_79) ?_
                  refine wp_zW (m := 176) rfl ?_
                  refine wp_lt (show _ = 176 from rfl) ?_
                  refine wp_gd (Eq.trans (gK_w rfl) (Eq.trans (gK_w rfl) ql_K_163)) ?_
                  refine wp_zR ?_
                  refine wp_ret_bd ?_
                  refine wp_ret_bd ?_
                  refine wp_of (f2_Jx4a65c_add_72be8_11.eq_1 ..) ?_
                  refine wp_gd gK_n ?_
                  refine wp_gd (gZi gZ_n qf_80) ?_
                  refine wp_ifn (neK (Eq.trans (gK_w rfl) gK_n) qf_194) ?_
                  refine wp_gd (Eq.trans (gK_w rfl) gK_n) ?_
                  refine wp_zRk qf_32 ?_
                  refine wp_lt qf_27 ?_
                  refine wp_gd (Eq.trans (gK_w rfl) (Eq.trans (gK_w rfl) ql_K_163)) ?_
                  refine wp_zI ?_
                  refine wp_ret_bd ?_
                  refine wp_ret_bd ?_
                  refine wp_gd (Eq.trans (gK_w rfl) (Eq.trans (gK_w rfl) ql_K_149)) ?_
                  refine wp_bd ?_
                  refine wp_of (f_X13_logs.eq_1 ..) ?_
                  refine wp_gd (Eq.trans (gK_w rfl) (Eq.trans (gK_w rfl) ql_K_149)) ?_
                  refine wp_lt (Eq.trans (gI_a rfl) (Eq.trans (gI_w rfl) (Eq.trans (gI_a rfl) (Eq.trans (gI_a rfl) (Eq.trans (gI_a rfl) (Eq.trans (gI_a rfl) (Eq.trans (gI_w rfl) (Eq.trans (gI_b rfl) (Eq.trans (gI_a rfl) (Eq.trans (gI_a rfl) (Eq.trans (gI_a rfl) (Eq.trans (gI_a rfl) (Eq.trans (gI_a rfl) (Eq.trans (gI_a rfl) (Eq.trans (gI_a rfl) (Eq.trans (gI_a rfl) (Eq.trans (gI_a rfl) (Eq.trans (gI_a rfl) (Eq.trans (gI_a rfl) (Eq.trans (gI_a rfl) (Eq.trans (gI_a rfl) (Eq.trans (gI_a rfl) ql_I_149_16)))))))))))))))))))))) ?_
                  refine wp_lt qf_27 ?_
                  refine wp_zI ?_
                  refine wp_ret_bd ?_
                  refine wp_gd (Eq.trans (gK_w rfl) (Eq.trans (gK_w rfl) ql_K_149)) ?_
                  refine wp_lt (Eq.trans (gR_a rfl) (Eq.trans (gR_a rfl) (Eq.trans (gR_w rfl) (Eq.trans (gR_w rfl) ql_R_149_2)))) ?_
                  refine wp_gd (Eq.trans (gK_w rfl) (Eq.trans (gK_w rfl) ql_K_151)) ?_
                  refine wp_gd (gZi (Eq.trans (gZ_w rfl) (Eq.trans (gZ_w rfl) ql_Z_151)) qf_102) ?_
                  refine wp_lt (gRk qf_41 (Eq.trans (gR_a rfl) (Eq.trans (gR_a rfl) (Eq.trans (gR_w rfl) (Eq.trans (gR_w rfl) ql_R_151_2))))) ?_
                  refine wp_gd (Eq.trans (gK_w rfl) (Eq.trans (gK_w rfl) ql_K_160)) ?_
                  refine wp_lt (Eq.trans (gR_a rfl) (Eq.trans (gR_a rfl) (Eq.trans (gR_w rfl) (Eq.trans (gR_w rfl) ql_R_160_8)))) ?_
                  refine wp_gd (Eq.trans (gK_w rfl) (Eq.trans (gK_w rfl) ql_K_163)) ?_
                  refine wp_bd ?_
                  refine wp_of (f_Jx4a65c_size_8abf5.eq_1 ..) ?_
                  refine wp_gd (Eq.trans (gK_w rfl) (Eq.trans (gK_w rfl) ql_K_163)) ?_
                  refine wp_lt (Eq.trans (gI_a rfl) gI_s) ?_
                  refine wp_ret_bd ?_
                  refine wp_ret_bd ?_
                  refine wp_gd (Eq.trans (gK_w rfl) (Eq.trans (gK_w rfl) ql_K_149)) ?_
                  refine wp_bd ?_
                  refine wp_of (f_X13_thrown.eq_1 ..) ?_
                  refine wp_gd (Eq.trans (gK_w rfl) (Eq.trans (gK_w rfl) ql_K_149)) ?_
                  refine wp_lt (Eq.trans (gI_b rfl) (Eq.trans (gI_a rfl) (Eq.trans (gI_w rfl) (Eq.trans (gI_a rfl) (Eq.trans (gI_a rfl) (Eq.trans (gI_a rfl) (Eq.trans (gI_a rfl) (Eq.trans (gI_w rfl) gI_s)))))))) ?_
                  refine wp_ret_bd ?_
                  refine wp_ifp qf_15 ?_
                  refine wp_ifp qf_15 ?_
                  refine wp_gd (Eq.trans (gK_w rfl) (Eq.trans (gK_w rfl) ql_K_173)) ?_
                  refine wp_gd (gZi (Eq.trans (gZ_w rfl) (Eq.trans (gZ_w rfl) ql_Z_173)) qf_71) ?_
                  refine wp_lt (gLk qf_32 (Eq.trans (gL_w rfl) (Eq.trans (gL_w rfl) gL_s))) ?_
                  refine wp_lt qf_192 ?_
                  refine wp_lt qf_195 ?_
                  refine wp_ifp qf_15 ?_
                  refine wp_of (f_L_law_2104.eq_1 ..) ?_
                  refine wp_of (f_L_law_3632.eq_1 ..) ?_
                  refine wp_lt qf_21 ?_
                  exact hrc _
            · skip
              refine wp_of (f_X10_addEffect_30.eq_1 ..) ?_
              refine wp_bd ?_
              refine wp_of (f_X10_demand.eq_1 ..) ?_
              refine wp_ifp qf_15 ?_
              refine wp_rs_bd ?_
              refine wp_rs_bdc ?_
              refine wp_ifn qf_113 ?_
              refine wp_ifp qf_16 ?_
              refine wp_ret_bd ?_
              refine wp_gd qf_0 ?_
              refine wp_lt (xsk qf_1 hy1) ?_
              refine wp_gd qf_2 ?_
              refine wp_lt (xsk qf_3 hy2) ?_
              refine wp_lt hwy2 ?_
              refine wp_gd qf_4 ?_
              refine wp_lt (xsk qf_5 hy3) ?_
              refine wp_gd ql_K_149 ?_
              refine wp_bd ?_
              refine wp_of (f2_X13_addEffect.eq_1 ..) ?_
              refine wp_bd ?_
              refine wp_of (f_X13_isDeck.eq_1 ..) ?_
              refine wp_bd ?_
              refine wp_of (f_X13_isBetween.eq_1 ..) ?_
              refine wp_ifn qf_38 ?_
              refine wp_ifn qf_104 ?_
              refine wp_of (f_X13_isBetween_15.eq_1 ..) ?_
              refine wp_gd qf_18 ?_
              refine wp_ret_bd ?_
              refine wp_gd qf_18 ?_
              refine wp_ret_bd ?_
              refine wp_ifn qf_19 ?_
              refine wp_gd (Or.inr qf_180) ?_
              refine wp_bd ?_
              refine wp_of (f2_J0_indexOf_0f7a4.eq_1 ..) ?_
              refine wp_gd (Or.inr qf_180) ?_
              refine wp_bd ?_
              refine wp_of (f2_J0_indexOf_7cf53.eq_1 ..) ?_
              refine wp_gd (Or.inr qf_180) ?_
              refine wp_bd ?_
              refine wp_of (f2_J0_isLatin1_aae02.eq_1 ..) ?_
              refine wp_ifn qf_19 ?_
              refine wp_gd (Or.inr qf_180) ?_
              refine wp_lt (ifR qf_181 rfl) ?_
              refine wp_ifp qf_15 ?_
              refine wp_of (f2_J0_isLatin1_aae02_18.eq_1 ..) ?_
              refine wp_gd qf_18 ?_
              refine wp_ret_bd ?_
              refine wp_ifn qf_19 ?_
              refine wp_gd (Or.inr qf_180) ?_
              refine wp_lt (ifR qf_181 qf_182) ?_
              refine wp_gd (Or.inr qf_180) ?_
              refine wp_bd ?_
              refine wp_of (f2_J0_length_8abf5.eq_1 ..) ?_
              refine wp_gd (Or.inr qf_180) ?_
              refine wp_lt (ifR qf_181 qf_182) ?_
              refine wp_gd (Or.inr qf_183) ?_
              refine wp_lt (zbo (zbK qf_184 qf_185) qf_121) ?_
              refine wp_gd (Or.inr qf_180) ?_
              refine wp_bd ?_
              refine wp_of (f2_J0_coder_7d493.eq_1 ..) ?_
              refine wp_ifn qf_19 ?_
              refine wp_gd (Or.inr qf_180) ?_
              refine wp_lt (ifR qf_181 rfl) ?_
              refine wp_of (f2_J0_coder_7d493_14.eq_1 ..) ?_
              refine wp_gd qf_138 ?_
              refine wp_ret_bd ?_
              refine wp_lt qf_139 ?_
              refine wp_ret_bd ?_
              refine wp_bd ?_
              refine wp_of (f2_J1_indexOf_4cfef.eq_1 ..) ?_
              refine wp_bd ?_
              refine wp_of (f_J1_canEncode_9a6ad.eq_1 ..) ?_
              refine wp_ifn (show ¬ (wy2 < (0 : Int32)) from by have e0 := qf_90; have e1 := qf_206; have e2 := qf_207; have e3 := qf_171; have e4 := qf_172; simp only [Int32.lt_iff_toInt_lt, Int32.le_iff_toInt_le, ← Int32.toInt_inj] at hwy2a hwy2b ⊢; omega) ?_
              refine wp_if (fun c6 => ?_) (fun c6 => ?_)
              · skip
                refine wp_of (f_J1_canEncode_9a6ad_15.eq_1 ..) ?_
                refine wp_of (f_J1_canEncode_9a6ad_16.eq_1 ..) ?_
                refine wp_gd qf_14 ?_
                refine wp_ret_bd ?_
                refine wp_ifp qf_15 ?_
                refine wp_ret_bd ?_
                refine wp_of (f2_J0_indexOf_7cf53_36.eq_1 ..) ?_
                refine wp_ret_bd ?_
                refine wp_ret_bd ?_
                refine wp_ifp qf_208 ?_
                refine wp_of (f2_X13_addEffect_31.eq_1 ..) ?_
                refine wp_of (f2_X13_addEffect_58.eq_1 ..) ?_
                refine wp_gd ql_K_149 ?_
                refine wp_bd ?_
                refine wp_of (f_X13_isWrong.eq_1 ..) ?_
                refine wp_gd ql_K_149 ?_
                refine wp_zI ?_
                refine wp_ifn qf_110 ?_
                refine wp_of (f_X13_isWrong_14.eq_1 ..) ?_
                refine wp_gd qf_18 ?_
                refine wp_ret_bd ?_
                refine wp_ifn qf_19 ?_
                refine wp_ret_bd ?_
                refine wp_gd ql_K_149 ?_
                refine wp_bd ?_
                refine wp_of (f_X13_thrown.eq_1 ..) ?_
                refine wp_gd ql_K_149 ?_
                refine wp_lt gI_s ?_
                refine wp_ret_bd ?_
                refine wp_ifp qf_111 ?_
                refine wp_ifn qf_112 ?_
                refine wp_of (f_L_law_2104.eq_1 ..) ?_
                refine wp_of (f_L_law_3632.eq_1 ..) ?_
                refine wp_lt qf_21 ?_
                exact hrc _
              · skip
                refine wp_of (f_J1_canEncode_9a6ad_16.eq_1 ..) ?_
                refine wp_gd qf_18 ?_
                refine wp_ret_bd ?_
                refine wp_ifn qf_19 ?_
                refine wp_lt qf_142 ?_
                refine wp_gd (Or.inr qf_183) ?_
                refine wp_lt (zbo (zbK qf_184 qf_185) qf_121) ?_
                refine wp_lt qf_143 ?_
                refine wp_ifp qf_144 ?_
                refine wp_bd ?_
                refine wp_of (f2_J1_indexOfChar_4cfef.eq_1 ..) ?_
                refine wp_ltr ?_
                refine wp_of (f2_J1_indexOfChar_4cfef_7.eq_2 ..) ?_
                refine wp_ifn qf_115 ?_
                refine wp_gd (Or.inr qf_183) ?_
                refine wp_gd (zbi (zbK qf_184 qf_185) qf_122) ?_
                refine wp_lt (ibk qf_32 (ibK qf_184 qf_189)) ?_
                refine wp_ifn (Ne.symm (i2b_ne hwy2a c6 qf_209 c3)) ?_
                refine wp_lt qf_153 ?_
                refine wp_of (f2_J1_indexOfChar_4cfef_7.eq_2 ..) ?_
                refine wp_ifn qf_154 ?_
                refine wp_gd (Or.inr qf_183) ?_
                refine wp_gd (zbi (zbK qf_184 qf_185) qf_125) ?_
                refine wp_lt (ibk qf_36 (ibK qf_184 qf_197)) ?_
                refine wp_ifn (Ne.symm (i2b_ne hwy2a c6 qf_176 c4)) ?_
                refine wp_lt qf_164 ?_
                refine wp_of (f2_J1_indexOfChar_4cfef_7.eq_2 ..) ?_
                refine wp_ifn qf_165 ?_
                refine wp_gd (Or.inr qf_183) ?_
                refine wp_gd (zbi (zbK qf_184 qf_185) qf_127) ?_
                refine wp_lt (ibk qf_41 (ibK qf_184 qf_203)) ?_
                refine wp_ifn (Ne.symm (i2b_ne hwy2a c6 qf_210 c5)) ?_
                refine wp_lt qf_177 ?_
                refine wp_of (f2_J1_indexOfChar_4cfef_7.eq_2 ..) ?_
                refine wp_ifp qf_178 ?_
                refine wp_ret_bd ?_
                refine wp_ret_bd ?_
                refine wp_of (f2_J0_indexOf_7cf53_36.eq_1 ..) ?_
                refine wp_ret_bd ?_
                refine wp_ret_bd ?_
                refine wp_ifp qf_208 ?_
                refine wp_of (f2_X13_addEffect_31.eq_1 ..) ?_
                refine wp_of (f2_X13_addEffect_58.eq_1 ..) ?_
                refine wp_gd ql_K_149 ?_
                refine wp_bd ?_
                refine wp_of (f_X13_isWrong.eq_1 ..) ?_
                refine wp_gd ql_K_149 ?_
                refine wp_zI ?_
                refine wp_ifn qf_110 ?_
                refine wp_of (f_X13_isWrong_14.eq_1 ..) ?_
                refine wp_gd qf_18 ?_
                refine wp_ret_bd ?_
                refine wp_ifn qf_19 ?_
                refine wp_ret_bd ?_
                refine wp_gd ql_K_149 ?_
                refine wp_bd ?_
                refine wp_of (f_X13_thrown.eq_1 ..) ?_
                refine wp_gd ql_K_149 ?_
                refine wp_lt gI_s ?_
                refine wp_ret_bd ?_
                refine wp_ifp qf_111 ?_
                refine wp_ifn qf_112 ?_
                refine wp_of (f_L_law_2104.eq_1 ..) ?_
                refine wp_of (f_L_law_3632.eq_1 ..) ?_
                refine wp_lt qf_21 ?_
                exact hrc _
      · skip
        refine wp_gd (gZi ql_Z_16 qf_105) ?_
        refine wp_lt (gRk qf_46 ql_R_16_3) ?_
        refine wp_of (f_X8_deckAt_23.eq_1 ..) ?_
        refine wp_ret_bd ?_
        refine wp_ifn qf_106 ?_
        refine wp_ret_bd ?_
        refine wp_if (fun c3 => ?_) (fun c3 => ?_)
        · skip
          subst c3
          refine wp_of (f_X10_addEffect_25.eq_1 ..) ?_
          refine wp_of (f_X10_addEffect_30.eq_1 ..) ?_
          refine wp_bd ?_
          refine wp_of (f_X10_demand.eq_1 ..) ?_
          refine wp_ifn qf_19 ?_
          refine wp_ret_bd ?_
          refine wp_bd ?_
          refine wp_of (f_X10_isIn.eq_1 ..) ?_
          refine wp_if (fun c4 => ?_) (fun c4 => ?_)
          · skip
            refine wp_of (f_X10_isIn_14.eq_1 ..) ?_
            refine wp_of (f_X10_isIn_15.eq_1 ..) ?_
            refine wp_gd qf_14 ?_
            refine wp_ret_bd ?_
            refine wp_bd ?_
            refine wp_of (f_X10_demand.eq_1 ..) ?_
            refine wp_ifp qf_15 ?_
            refine wp_rs_bd ?_
            refine wp_rs_bdc ?_
            refine wp_ifn qf_113 ?_
            refine wp_ifp qf_16 ?_
            refine wp_ret_bd ?_
            refine wp_gd qf_0 ?_
            refine wp_lt (xsk qf_1 hy1) ?_
            refine wp_gd qf_2 ?_
            refine wp_lt (xsk qf_3 hy2) ?_
            refine wp_lt hwy2 ?_
            refine wp_gd qf_4 ?_
            refine wp_lt (xsk qf_5 hy3) ?_
            refine wp_gd ql_K_149 ?_
            refine wp_bd ?_
            refine wp_of (f2_X13_addEffect.eq_1 ..) ?_
            refine wp_bd ?_
            refine wp_of (f_X13_isDeck.eq_1 ..) ?_
            refine wp_bd ?_
            refine wp_of (f_X13_isBetween.eq_1 ..) ?_
            refine wp_ifn qf_43 ?_
            refine wp_ifn qf_107 ?_
            refine wp_of (f_X13_isBetween_15.eq_1 ..) ?_
            refine wp_gd qf_18 ?_
            refine wp_ret_bd ?_
            refine wp_gd qf_18 ?_
            refine wp_ret_bd ?_
            refine wp_ifn qf_19 ?_
            refine wp_gd (Or.inr qf_180) ?_
            refine wp_bd ?_
            refine wp_of (f2_J0_indexOf_0f7a4.eq_1 ..) ?_
            refine wp_gd (Or.inr qf_180) ?_
            refine wp_bd ?_
            refine wp_of (f2_J0_indexOf_7cf53.eq_1 ..) ?_
            refine wp_gd (Or.inr qf_180) ?_
            refine wp_bd ?_
            refine wp_of (f2_J0_isLatin1_aae02.eq_1 ..) ?_
            refine wp_ifn qf_19 ?_
            refine wp_gd (Or.inr qf_180) ?_
            refine wp_lt (ifR qf_181 rfl) ?_
            refine wp_ifp qf_15 ?_
            refine wp_of (f2_J0_isLatin1_aae02_18.eq_1 ..) ?_
            refine wp_gd qf_18 ?_
            refine wp_ret_bd ?_
            refine wp_ifn qf_19 ?_
            refine wp_gd (Or.inr qf_180) ?_
            refine wp_lt (ifR qf_181 qf_182) ?_
            refine wp_gd (Or.inr qf_180) ?_
            refine wp_bd ?_
            refine wp_of (f2_J0_length_8abf5.eq_1 ..) ?_
            refine wp_gd (Or.inr qf_180) ?_
            refine wp_lt (ifR qf_181 qf_182) ?_
            refine wp_gd (Or.inr qf_183) ?_
            refine wp_lt (zbo (zbK qf_184 qf_185) qf_121) ?_
            refine wp_gd (Or.inr qf_180) ?_
            refine wp_bd ?_
            refine wp_of (f2_J0_coder_7d493.eq_1 ..) ?_
            refine wp_ifn qf_19 ?_
            refine wp_gd (Or.inr qf_180) ?_
            refine wp_lt (ifR qf_181 rfl) ?_
            refine wp_of (f2_J0_coder_7d493_14.eq_1 ..) ?_
            refine wp_gd qf_138 ?_
            refine wp_ret_bd ?_
            refine wp_lt qf_139 ?_
            refine wp_ret_bd ?_
            refine wp_bd ?_
            refine wp_of (f2_J1_indexOf_4cfef.eq_1 ..) ?_
            refine wp_bd ?_
            refine wp_of (f_J1_canEncode_9a6ad.eq_1 ..) ?_
            refine wp_ifn qf_186 ?_
            refine wp_ifn qf_187 ?_
            refine wp_of (f_J1_canEncode_9a6ad_16.eq_1 ..) ?_
            refine wp_gd qf_18 ?_
            refine wp_ret_bd ?_
            refine wp_ifn qf_19 ?_
            refine wp_lt qf_142 ?_
            refine wp_gd (Or.inr qf_183) ?_
            refine wp_lt (zbo (zbK qf_184 qf_185) qf_121) ?_
            refine wp_lt qf_143 ?_
            refine wp_ifp qf_144 ?_
            refine wp_bd ?_
            refine wp_of (f2_J1_indexOfChar_4cfef.eq_1 ..) ?_
            refine wp_lt qf_188 ?_
            refine wp_of (f2_J1_indexOfChar_4cfef_7.eq_2 ..) ?_
            refine wp_ifn qf_115 ?_
            refine wp_gd (Or.inr qf_183) ?_
            refine wp_gd (zbi (zbK qf_184 qf_185) qf_122) ?_
            refine wp_lt (ibk qf_32 (ibK qf_184 qf_189)) ?_
            refine wp_ifp qf_190 ?_
            refine wp_ret_bd ?_
            refine wp_ret_bd ?_
            refine wp_of (f2_J0_indexOf_7cf53_36.eq_1 ..) ?_
            refine wp_ret_bd ?_
            refine wp_ret_bd ?_
            refine wp_ifn qf_28 ?_
            refine wp_bd ?_
            refine wp_of (f_X13_isBetween.eq_1 ..) ?_
            refine wp_ifp c4 ?_
            refine wp_of (f_X13_isBetween_14.eq_1 ..) ?_
            refine wp_of (f_X13_isBetween_15.eq_1 ..) ?_
            refine wp_gd qf_14 ?_
            refine wp_ret_bd ?_
            refine wp_ifp qf_15 ?_
            refine wp_of (f2_X13_addEffect_31.eq_1 ..) ?_
            refine wp_of (f2_X13_addEffect_58.eq_1 ..) ?_
            refine wp_gd ql_K_149 ?_
            refine wp_bd ?_
            refine wp_of (f_X13_isWrong.eq_1 ..) ?_
            refine wp_gd ql_K_149 ?_
            refine wp_zI ?_
            refine wp_ifn qf_110 ?_
            refine wp_of (f_X13_isWrong_14.eq_1 ..) ?_
            refine wp_gd qf_18 ?_
            refine wp_ret_bd ?_
            refine wp_ifn qf_19 ?_
            refine wp_ret_bd ?_
            refine wp_gd ql_K_149 ?_
            refine wp_bd ?_
            refine wp_of (f_X13_thrown.eq_1 ..) ?_
            refine wp_gd ql_K_149 ?_
            refine wp_lt gI_s ?_
            refine wp_ret_bd ?_
            refine wp_ifp qf_111 ?_
            refine wp_ifn qf_112 ?_
            refine wp_of (f_L_law_2104.eq_1 ..) ?_
            refine wp_of (f_L_law_3632.eq_1 ..) ?_
            refine wp_lt qf_21 ?_
            exact hrc _
          · skip
            refine wp_if (fun c5 => ?_) (fun c5 => ?_)
            · skip
              refine wp_of (f_X10_isIn_14.eq_1 ..) ?_
              refine wp_of (f_X10_isIn_15.eq_1 ..) ?_
              refine wp_gd qf_14 ?_
              refine wp_ret_bd ?_
              refine wp_bd ?_
              refine wp_of (f_X10_demand.eq_1 ..) ?_
              refine wp_ifp qf_15 ?_
              refine wp_rs_bd ?_
              refine wp_rs_bdc ?_
              refine wp_ifn qf_113 ?_
              refine wp_ifp qf_16 ?_
              refine wp_ret_bd ?_
              refine wp_gd qf_0 ?_
              refine wp_lt (xsk qf_1 hy1) ?_
              refine wp_gd qf_2 ?_
              refine wp_lt (xsk qf_3 hy2) ?_
              refine wp_lt hwy2 ?_
              refine wp_gd qf_4 ?_
              refine wp_lt (xsk qf_5 hy3) ?_
              refine wp_gd ql_K_149 ?_
              refine wp_bd ?_
              refine wp_of (f2_X13_addEffect.eq_1 ..) ?_
              refine wp_bd ?_
              refine wp_of (f_X13_isDeck.eq_1 ..) ?_
              refine wp_bd ?_
              refine wp_of (f_X13_isBetween.eq_1 ..) ?_
              refine wp_ifn qf_43 ?_
              refine wp_ifn qf_107 ?_
              refine wp_of (f_X13_isBetween_15.eq_1 ..) ?_
              refine wp_gd qf_18 ?_
              refine wp_ret_bd ?_
              refine wp_gd qf_18 ?_
              refine wp_ret_bd ?_
              refine wp_ifn qf_19 ?_
              refine wp_gd (Or.inr qf_180) ?_
              refine wp_bd ?_
              refine wp_of (f2_J0_indexOf_0f7a4.eq_1 ..) ?_
              refine wp_gd (Or.inr qf_180) ?_
              refine wp_bd ?_
              refine wp_of (f2_J0_indexOf_7cf53.eq_1 ..) ?_
              refine wp_gd (Or.inr qf_180) ?_
              refine wp_bd ?_
              refine wp_of (f2_J0_isLatin1_aae02.eq_1 ..) ?_
              refine wp_ifn qf_19 ?_
              refine wp_gd (Or.inr qf_180) ?_
              refine wp_lt (ifR qf_181 rfl) ?_
              refine wp_ifp qf_15 ?_
              refine wp_of (f2_J0_isLatin1_aae02_18.eq_1 ..) ?_
              refine wp_gd qf_18 ?_
              refine wp_ret_bd ?_
              refine wp_ifn qf_19 ?_
              refine wp_gd (Or.inr qf_180) ?_
              refine wp_lt (ifR qf_181 qf_182) ?_
              refine wp_gd (Or.inr qf_180) ?_
              refine wp_bd ?_
              refine wp_of (f2_J0_length_8abf5.eq_1 ..) ?_
              refine wp_gd (Or.inr qf_180) ?_
              refine wp_lt (ifR qf_181 qf_182) ?_
              refine wp_gd (Or.inr qf_183) ?_
              refine wp_lt (zbo (zbK qf_184 qf_185) qf_121) ?_
              refine wp_gd (Or.inr qf_180) ?_
              refine wp_bd ?_
              refine wp_of (f2_J0_coder_7d493.eq_1 ..) ?_
              refine wp_ifn qf_19 ?_
              refine wp_gd (Or.inr qf_180) ?_
              refine wp_lt (ifR qf_181 rfl) ?_
              refine wp_of (f2_J0_coder_7d493_14.eq_1 ..) ?_
              refine wp_gd qf_138 ?_
              refine wp_ret_bd ?_
              refine wp_lt qf_139 ?_
              refine wp_ret_bd ?_
              refine wp_bd ?_
              refine wp_of (f2_J1_indexOf_4cfef.eq_1 ..) ?_
              refine wp_bd ?_
              refine wp_of (f_J1_canEncode_9a6ad.eq_1 ..) ?_
              refine wp_ifn qf_186 ?_
              refine wp_ifn qf_187 ?_
              refine wp_of (f_J1_canEncode_9a6ad_16.eq_1 ..) ?_
              refine wp_gd qf_18 ?_
              refine wp_ret_bd ?_
              refine wp_ifn qf_19 ?_
              refine wp_lt qf_142 ?_
              refine wp_gd (Or.inr qf_183) ?_
              refine wp_lt (zbo (zbK qf_184 qf_185) qf_121) ?_
              refine wp_lt qf_143 ?_
              refine wp_ifp qf_144 ?_
              refine wp_bd ?_
              refine wp_of (f2_J1_indexOfChar_4cfef.eq_1 ..) ?_
              refine wp_lt qf_188 ?_
              refine wp_of (f2_J1_indexOfChar_4cfef_7.eq_2 ..) ?_
              refine wp_ifn qf_115 ?_
              refine wp_gd (Or.inr qf_183) ?_
              refine wp_gd (zbi (zbK qf_184 qf_185) qf_122) ?_
              refine wp_lt (ibk qf_32 (ibK qf_184 qf_189)) ?_
              refine wp_ifp qf_190 ?_
              refine wp_ret_bd ?_
              refine wp_ret_bd ?_
              refine wp_of (f2_J0_indexOf_7cf53_36.eq_1 ..) ?_
              refine wp_ret_bd ?_
              refine wp_ret_bd ?_
              refine wp_ifn qf_28 ?_
              refine wp_bd ?_
              refine wp_of (f_X13_isBetween.eq_1 ..) ?_
              refine wp_ifn c4 ?_
              refine wp_ifp c5 ?_
              refine wp_of (f_X13_isBetween_14.eq_1 ..) ?_
              refine wp_of (f_X13_isBetween_15.eq_1 ..) ?_
              refine wp_gd qf_14 ?_
              refine wp_ret_bd ?_
              refine wp_ifp qf_15 ?_
              refine wp_of (f2_X13_addEffect_31.eq_1 ..) ?_
              refine wp_of (f2_X13_addEffect_58.eq_1 ..) ?_
              refine wp_gd ql_K_149 ?_
              refine wp_bd ?_
              refine wp_of (f_X13_isWrong.eq_1 ..) ?_
              refine wp_gd ql_K_149 ?_
              refine wp_zI ?_
              refine wp_ifn qf_110 ?_
              refine wp_of (f_X13_isWrong_14.eq_1 ..) ?_
              refine wp_gd qf_18 ?_
              refine wp_ret_bd ?_
              refine wp_ifn qf_19 ?_
              refine wp_ret_bd ?_
              refine wp_gd ql_K_149 ?_
              refine wp_bd ?_
              refine wp_of (f_X13_thrown.eq_1 ..) ?_
              refine wp_gd ql_K_149 ?_
              refine wp_lt gI_s ?_
              refine wp_ret_bd ?_
              refine wp_ifp qf_111 ?_
              refine wp_ifn qf_112 ?_
              refine wp_of (f_L_law_2104.eq_1 ..) ?_
              refine wp_of (f_L_law_3632.eq_1 ..) ?_
              refine wp_lt qf_21 ?_
              exact hrc _
            · skip
              refine wp_of (f_X10_isIn_15.eq_1 ..) ?_
              refine wp_gd qf_18 ?_
              refine wp_ret_bd ?_
              refine wp_bd ?_
              refine wp_of (f_X10_demand.eq_1 ..) ?_
              refine wp_ifn qf_19 ?_
              refine wp_ret_bd ?_
              refine wp_gd ql_K_41 ?_
              refine wp_lt ql_R_41_0 ?_
              refine wp_gd ql_K_42 ?_
              refine wp_lt ql_I_42_2 ?_
              refine wp_lt ql_R_41_0 ?_
              refine wp_gd ql_K_42 ?_
              refine wp_lt ql_R_42_1 ?_
              refine wp_gd ql_K_44 ?_
              refine wp_lt (gZo ql_Z_44 qf_121) ?_
              refine wp_ifp qf_144 ?_
              refine wp_gd ql_K_1 ?_
              refine wp_lt ql_R_1_2 ?_
              refine wp_gd ql_K_106 ?_
              refine wp_bd ?_
              refine wp_of (f_X6_note.eq_1 ..) ?_
              refine wp_gd ql_K_106 ?_
              refine wp_bd ?_
              refine wp_of (f_X6_open.eq_1 ..) ?_
              refine wp_gd ql_K_106 ?_
              refine wp_lt ql_I_106_2 ?_
              refine wp_lt qf_25 ?_
              refine wp_zI ?_
              refine wp_lt (Eq.trans (gI_b rfl) ql_I_106_2) ?_
              refine wp_ifn qf_26 ?_
              refine wp_lt (Eq.trans (gI_b rfl) ql_I_106_2) ?_
              refine wp_lt qf_27 ?_
              refine wp_zI ?_
              refine wp_of (f_X6_open_31.eq_1 ..) ?_
              refine wp_gd ql_K_106 ?_
              refine wp_bd ?_
              refine wp_of (f_X6_put.eq_1 ..) ?_
              refine wp_gd ql_K_106 ?_
              refine wp_lt (Eq.trans (gI_b rfl) gI_s) ?_
              refine wp_ifn qf_28 ?_
              refine wp_lt (Eq.trans (gI_b rfl) gI_s) ?_
              refine wp_lt ql_R_106_0 ?_
              refine wp_gd ql_K_107 ?_
              refine wp_lt (gZo ql_Z_107 qf_29) ?_
              refine wp_ifn qf_30 ?_
              refine wp_lt ql_R_106_0 ?_
              refine wp_lt (Eq.trans (gI_b rfl) gI_s) ?_
              refine wp_gd ql_K_107 ?_
              refine wp_gd (gZi ql_Z_107 qf_31) ?_
              refine wp_zIk qf_32 ?_
              refine wp_lt (Eq.trans (gI_a rfl) (Eq.trans (gI_b rfl) gI_s)) ?_
              refine wp_lt qf_27 ?_
              refine wp_zI ?_
              refine wp_of (f_X6_put_39.eq_1 ..) ?_
              refine wp_ret_bd ?_
              refine wp_ret_bd ?_
              refine wp_gd ql_K_106 ?_
              refine wp_bd ?_
              refine wp_of (f_X6_put.eq_1 ..) ?_
              refine wp_gd ql_K_106 ?_
              refine wp_lt gI_s ?_
              refine wp_ifn qf_33 ?_
              refine wp_lt gI_s ?_
              refine wp_lt ql_R_106_0 ?_
              refine wp_gd ql_K_107 ?_
              refine wp_lt (gZo ql_Z_107 qf_29) ?_
              refine wp_ifn qf_34 ?_
              refine wp_lt ql_R_106_0 ?_
              refine wp_lt gI_s ?_
              refine wp_gd ql_K_107 ?_
              refine wp_gd (gZi ql_Z_107 qf_35) ?_
              refine wp_zIk qf_36 ?_
              refine wp_lt (Eq.trans (gI_a rfl) gI_s) ?_
              refine wp_lt qf_37 ?_
              refine wp_zI ?_
              refine wp_of (f_X6_put_39.eq_1 ..) ?_
              refine wp_ret_bd ?_
              refine wp_gd ql_K_106 ?_
              refine wp_bd ?_
              refine wp_of (f_X6_put.eq_1 ..) ?_
              refine wp_gd ql_K_106 ?_
              refine wp_lt gI_s ?_
              refine wp_ifn qf_38 ?_
              refine wp_lt gI_s ?_
              refine wp_lt ql_R_106_0 ?_
              refine wp_gd ql_K_107 ?_
              refine wp_lt (gZo ql_Z_107 qf_29) ?_
              refine wp_ifn qf_39 ?_
              refine wp_lt ql_R_106_0 ?_
              refine wp_lt gI_s ?_
              refine wp_gd ql_K_107 ?_
              refine wp_gd (gZi ql_Z_107 qf_40) ?_
              refine wp_zIk qf_41 ?_
              refine wp_lt (Eq.trans (gI_a rfl) gI_s) ?_
              refine wp_lt qf_42 ?_
              refine wp_zI ?_
              refine wp_of (f_X6_put_39.eq_1 ..) ?_
              refine wp_ret_bd ?_
              refine wp_gd ql_K_106 ?_
              refine wp_bd ?_
              refine wp_of (f_X6_put.eq_1 ..) ?_
              refine wp_gd ql_K_106 ?_
              refine wp_lt gI_s ?_
              refine wp_ifn qf_43 ?_
              refine wp_lt gI_s ?_
              refine wp_lt ql_R_106_0 ?_
              refine wp_gd ql_K_107 ?_
              refine wp_lt (gZo ql_Z_107 qf_29) ?_
              refine wp_ifn qf_44 ?_
              refine wp_lt ql_R_106_0 ?_
              refine wp_lt gI_s ?_
              refine wp_gd ql_K_107 ?_
              refine wp_gd (gZi ql_Z_107 qf_45) ?_
              refine wp_zIk qf_46 ?_
              refine wp_lt (Eq.trans (gI_a rfl) gI_s) ?_
              refine wp_lt qf_47 ?_
              refine wp_zI ?_
              refine wp_of (f_X6_put_39.eq_1 ..) ?_
              refine wp_ret_bd ?_
              refine wp_ret_bd ?_
              refine wp_gd ql_K_41 ?_
              refine wp_lt ql_R_41_0 ?_
              refine wp_gd ql_K_42 ?_
              refine wp_bd ?_
              refine wp_of (f_X0_plugIn.eq_1 ..) ?_
              refine wp_gd ql_K_42 ?_
              refine wp_lt (Eq.trans (gI_a rfl) (Eq.trans (gI_a rfl) (Eq.trans (gI_a rfl) (Eq.trans (gI_a rfl) (Eq.trans (gI_a rfl) (Eq.trans (gI_a rfl) (Eq.trans (gI_a rfl) (Eq.trans (gI_a rfl) (Eq.trans (gI_a rfl) (Eq.trans (gI_a rfl) ql_I_42_2)))))))))) ?_
              refine wp_ifn qf_28 ?_
              refine wp_lt (Eq.trans (gI_a rfl) (Eq.trans (gI_a rfl) (Eq.trans (gI_a rfl) (Eq.trans (gI_a rfl) (Eq.trans (gI_a rfl) (Eq.trans (gI_a rfl) (Eq.trans (gI_a rfl) (Eq.trans (gI_a rfl) (Eq.trans (gI_a rfl) (Eq.trans (gI_a rfl) ql_I_42_2)))))))))) ?_
              refine wp_lt ql_R_42_1 ?_
              refine wp_gd ql_K_44 ?_
              refine wp_lt (gZo ql_Z_44 qf_121) ?_
              refine wp_ifn qf_115 ?_
              refine wp_lt ql_R_42_1 ?_
              refine wp_lt (Eq.trans (gI_a rfl) (Eq.trans (gI_a rfl) (Eq.trans (gI_a rfl) (Eq.trans (gI_a rfl) (Eq.trans (gI_a rfl) (Eq.trans (gI_a rfl) (Eq.trans (gI_a rfl) (Eq.trans (gI_a rfl) (Eq.trans (gI_a rfl) (Eq.trans (gI_a rfl) ql_I_42_2)))))))))) ?_
              refine wp_gd ql_K_44 ?_
              refine wp_gd (gZi ql_Z_44 qf_122) ?_
              refine wp_lt (gRk qf_32 ql_R_44_0) ?_
              refine wp_gd ql_K_45 ?_
              refine wp_bd ?_
              refine wp_of (f_X3_begin.eq_1 ..) ?_
              refine wp_gd ql_K_45 ?_
              refine wp_gd qf_191 ?_
              refine wp_zI ?_
              refine wp_zI ?_
              refine wp_zI ?_
              refine wp_ret_bd ?_
              refine wp_gd ql_K_42 ?_
              refine wp_lt (Eq.trans (gI_a rfl) (Eq.trans (gI_a rfl) (Eq.trans (gI_a rfl) (Eq.trans (gI_a rfl) (Eq.trans (gI_a rfl) (Eq.trans (gI_a rfl) (Eq.trans (gI_a rfl) (Eq.trans (gI_a rfl) (Eq.trans (gI_a rfl) (Eq.trans (gI_a rfl) (Eq.trans (gI_a rfl) (Eq.trans (gI_a rfl) (Eq.trans (gI_a rfl) ql_I_42_2))))))))))))) ?_
              refine wp_lt qf_27 ?_
              refine wp_zI ?_
              refine wp_of (f_X0_plugIn_43.eq_1 ..) ?_
              refine wp_gd ql_K_42 ?_
              refine wp_lt gI_s ?_
              refine wp_ret_bd ?_
              refine wp_ret_bdc ?_
              refine wp_lt qf_192 ?_
              refine wp_gd ql_K_173 ?_
              refine wp_gd (gZi ql_Z_173 qf_71) ?_
              refine wp_zLk qf_32 ?_
              refine wp_ret_bd ?_
              refine wp_gd qf_0 ?_
              refine wp_lt (xsk qf_1 hy1) ?_
              refine wp_gd qf_2 ?_
              refine wp_lt (xsk qf_3 hy2) ?_
              refine wp_lt hwy2 ?_
              refine wp_gd qf_4 ?_
              refine wp_lt (xsk qf_5 hy3) ?_
              refine wp_gd ql_K_149 ?_
              refine wp_bd ?_
              refine wp_of (f2_X13_addEffect.eq_1 ..) ?_
              refine wp_bd ?_
              refine wp_of (f_X13_isDeck.eq_1 ..) ?_
              refine wp_bd ?_
              refine wp_of (f_X13_isBetween.eq_1 ..) ?_
              refine wp_ifn qf_43 ?_
              refine wp_ifn qf_107 ?_
              refine wp_of (f_X13_isBetween_15.eq_1 ..) ?_
              refine wp_gd qf_18 ?_
              refine wp_ret_bd ?_
              refine wp_gd qf_18 ?_
              refine wp_ret_bd ?_
              refine wp_ifn qf_19 ?_
              refine wp_gd (Or.inr qf_180) ?_
              refine wp_bd ?_
              refine wp_of (f2_J0_indexOf_0f7a4.eq_1 ..) ?_
              refine wp_gd (Or.inr qf_180) ?_
              refine wp_bd ?_
              refine wp_of (f2_J0_indexOf_7cf53.eq_1 ..) ?_
              refine wp_gd (Or.inr qf_180) ?_
              refine wp_bd ?_
              refine wp_of (f2_J0_isLatin1_aae02.eq_1 ..) ?_
              refine wp_ifn qf_19 ?_
              refine wp_gd (Or.inr qf_180) ?_
              refine wp_lt (ifR qf_181 rfl) ?_
              refine wp_ifp qf_15 ?_
              refine wp_of (f2_J0_isLatin1_aae02_18.eq_1 ..) ?_
              refine wp_gd qf_18 ?_
              refine wp_ret_bd ?_
              refine wp_ifn qf_19 ?_
              refine wp_gd (Or.inr qf_180) ?_
              refine wp_lt (ifR qf_181 qf_182) ?_
              refine wp_gd (Or.inr qf_180) ?_
              refine wp_bd ?_
              refine wp_of (f2_J0_length_8abf5.eq_1 ..) ?_
              refine wp_gd (Or.inr qf_180) ?_
              refine wp_lt (ifR qf_181 qf_182) ?_
              refine wp_gd (Or.inr qf_183) ?_
              refine wp_lt (zbo (zbK qf_184 qf_185) qf_121) ?_
              refine wp_gd (Or.inr qf_180) ?_
              refine wp_bd ?_
              refine wp_of (f2_J0_coder_7d493.eq_1 ..) ?_
              refine wp_ifn qf_19 ?_
              refine wp_gd (Or.inr qf_180) ?_
              refine wp_lt (ifR qf_181 rfl) ?_
              refine wp_of (f2_J0_coder_7d493_14.eq_1 ..) ?_
              refine wp_gd qf_138 ?_
              refine wp_ret_bd ?_
              refine wp_lt qf_139 ?_
              refine wp_ret_bd ?_
              refine wp_bd ?_
              refine wp_of (f2_J1_indexOf_4cfef.eq_1 ..) ?_
              refine wp_bd ?_
              refine wp_of (f_J1_canEncode_9a6ad.eq_1 ..) ?_
              refine wp_ifn qf_186 ?_
              refine wp_ifn qf_187 ?_
              refine wp_of (f_J1_canEncode_9a6ad_16.eq_1 ..) ?_
              refine wp_gd qf_18 ?_
              refine wp_ret_bd ?_
              refine wp_ifn qf_19 ?_
              refine wp_lt qf_142 ?_
              refine wp_gd (Or.inr qf_183) ?_
              refine wp_lt (zbo (zbK qf_184 qf_185) qf_121) ?_
              refine wp_lt qf_143 ?_
              refine wp_ifp qf_144 ?_
              refine wp_bd ?_
              refine wp_of (f2_J1_indexOfChar_4cfef.eq_1 ..) ?_
              refine wp_lt qf_188 ?_
              refine wp_of (f2_J1_indexOfChar_4cfef_7.eq_2 ..) ?_
              refine wp_ifn qf_115 ?_
              refine wp_gd (Or.inr qf_183) ?_
              refine wp_gd (zbi (zbK qf_184 qf_185) qf_122) ?_
              refine wp_lt (ibk qf_32 (ibK qf_184 qf_189)) ?_
              refine wp_ifp qf_190 ?_
              refine wp_ret_bd ?_
              refine wp_ret_bd ?_
              refine wp_of (f2_J0_indexOf_7cf53_36.eq_1 ..) ?_
              refine wp_ret_bd ?_
              refine wp_ret_bd ?_
              refine wp_ifn qf_28 ?_
              refine wp_bd ?_
              refine wp_of (f_X13_isBetween.eq_1 ..) ?_
              refine wp_ifn c4 ?_
              refine wp_ifn c5 ?_
              refine wp_of (f_X13_isBetween_15.eq_1 ..) ?_
              refine wp_gd qf_18 ?_
              refine wp_ret_bd ?_
              refine wp_ifn qf_19 ?_
              refine wp_gd ql_K_149 ?_
              refine wp_lt ql_R_149_2 ?_
              refine wp_gd ql_K_151 ?_
              refine wp_gd (gZi ql_Z_151 qf_105) ?_
              refine wp_lt (gRk qf_46 ql_R_151_3) ?_
              refine wp_gd ql_K_164 ?_
              refine wp_lt ql_R_164_8 ?_
              refine wp_gd ql_K_167 ?_
              refine wp_bd ?_
              refine wp_of (f_Jx4a65c_size_8abf5.eq_1 ..) ?_
              refine wp_gd ql_K_167 ?_
              refine wp_lt (Eq.trans (gI_a rfl) (Eq.trans (gI_a rfl) (Eq.trans (gI_a rfl) (Eq.trans (gI_a rfl) (Eq.trans (gI_a rfl) (Eq.trans (gI_a rfl) (Eq.trans (gI_a rfl) (Eq.trans (gI_a rfl) (Eq.trans (gI_a rfl) (Eq.trans (gI_a rfl) (Eq.trans (gI_a rfl) (Eq.trans (gI_a rfl) (Eq.trans (gI_a rfl) (Eq.trans (gI_a rfl) ql_I_167_2)))))))))))))) ?_
              refine wp_ret_bd ?_
              refine wp_ifn qf_193 ?_
              refine wp_of (f2_X13_addEffect_58.eq_1 ..) ?_
              refine wp_gd ql_K_149 ?_
              refine wp_bd ?_
              refine wp_of (f_X13_isWrong.eq_1 ..) ?_
              refine wp_gd ql_K_149 ?_
              refine wp_zI ?_
              refine wp_ifp qf_73 ?_
              refine wp_of (f_X13_isWrong_14.eq_1 ..) ?_
              refine wp_gd qf_14 ?_
              refine wp_ret_bd ?_
              refine wp_ifp qf_15 ?_
              refine wp_gd ql_K_149 ?_
              refine wp_lt ql_R_149_2 ?_
              refine wp_gd ql_K_151 ?_
              refine wp_gd (gZi ql_Z_151 qf_105) ?_
              refine wp_lt (gRk qf_46 ql_R_151_3) ?_
              refine wp_gd ql_K_164 ?_
              refine wp_lt ql_R_164_8 ?_
              refine wp_gd (gNk (n := 174) qf_74) ?_
              refine wp_zW (m := 175) rfl ?_
              refine wp_lt (show _ = 175 from rfl) ?_
              refine wp_gd (gZi gZ_n qf_122) ?_
              refine wp_zIk qf_32 ?_
              refine wp_gd (gZi gZ_n qf_125) ?_
              refine wp_zIk qf_36 ?_
              refine wp_gd (gZi gZ_n qf_127) ?_
              refine wp_zIk qf_41 ?_
              refine wp_gd (Eq.trans (gK_w rfl) ql_K_167) ?_
              refine wp_bd ?_
              refine wp_of (f2_Jx4a65c_add_9ea2d.eq_1 ..) ?_
              refine wp_gd (Eq.trans (gK_w rfl) ql_K_167) ?_
              refine wp_lt (Eq.trans (gI_a rfl) (Eq.trans (gI_a rfl) (Eq.trans (gI_a rfl) (Eq.trans (gI_w rfl) (Eq.trans (gI_a rfl) (Eq.trans (gI_a rfl) (Eq.trans (gI_a rfl) (Eq.trans (gI_a rfl) (Eq.trans (gI_a rfl) (Eq.trans (gI_a rfl) (Eq.trans (gI_a rfl) (Eq.trans (gI_a rfl) (Eq.trans (gI_a rfl) (Eq.trans (gI_a rfl) (Eq.trans (gI_a rfl) (Eq.trans (gI_a rfl) (Eq.trans (gI_a rfl) (Eq.trans (gI_a rfl) (Eq.trans (gI_a rfl) ql_I_167_0))))))))))))))))))) ?_
              refine wp_lt qf_27 ?_
              refine wp_zI ?_
              refine wp_lt (Eq.trans (gR_w rfl) ql_R_167_1) ?_
              refine wp_lt (Eq.trans (gI_b rfl) (Eq.trans (gI_a rfl) (Eq.trans (gI_a rfl) (Eq.trans (gI_a rfl) (Eq.trans (gI_w rfl) (Eq.trans (gI_a rfl) (Eq.trans (gI_a rfl) (Eq.trans (gI_a rfl) (Eq.trans (gI_a rfl) (Eq.trans (gI_a rfl) (Eq.trans (gI_a rfl) (Eq.trans (gI_a rfl) (Eq.trans (gI_a rfl) (Eq.trans (gI_a rfl) (Eq.trans (gI_a rfl) (Eq.trans (gI_a rfl) (Eq.trans (gI_a rfl) (Eq.trans (gI_a rfl) (Eq.trans (gI_a rfl) (Eq.trans (gI_a rfl) ql_I_167_2)))))))))))))))))))) ?_
              refine wp_bd ?_
              refine wp_of (f2_Jx4a65c_add_72be8.eq_1 ..) ?_
              refine wp_ifp qf_75 ?_
              refine wp_ifp qf_15 ?_
              refine wp_gd (Eq.trans (gK_w rfl) ql_K_167) ?_
              refine wp_bd ?_
              refine wp_of (f2_Jx4a65c_grow_d5877.eq_1 ..) ?_
              refine wp_gd (Eq.trans (gK_w rfl) ql_K_167) ?_
              refine wp_lt (Eq.trans (gI_b rfl) (Eq.trans (gI_a rfl) (Eq.trans (gI_a rfl) (Eq.trans (gI_a rfl) (Eq.trans (gI_w rfl) (Eq.trans (gI_a rfl) (Eq.trans (gI_a rfl) (Eq.trans (gI_a rfl) (Eq.trans (gI_a rfl) (Eq.trans (gI_a rfl) (Eq.trans (gI_a rfl) (Eq.trans (gI_a rfl) (Eq.trans (gI_a rfl) (Eq.trans (gI_a rfl) (Eq.trans (gI_a rfl) (Eq.trans (gI_a rfl) (Eq.trans (gI_a rfl) (Eq.trans (gI_a rfl) (Eq.trans (gI_a rfl) (Eq.trans (gI_a rfl) ql_I_167_2)))))))))))))))))))) ?_
              refine wp_lt qf_27 ?_
              refine wp_bd ?_
              refine wp_of (f2_Jx4a65c_grow_92f84.eq_1 ..) ?_
              refine wp_gd (Eq.trans (gK_w rfl) ql_K_167) ?_
              refine wp_lt (Eq.trans (gR_w rfl) ql_R_167_1) ?_
              refine wp_ifp qf_75 ?_
              refine wp_ifn qf_28 ?_
              refine wp_lt (Eq.trans (gR_w rfl) ql_R_167_1) ?_
              refine wp_gd qf_76 ?_
              refine wp_ifp qf_75 ?_
              refine wp_lt qf_77 ?_
              refine wp_ifp qf_78 ?_
              refine wp_gd (gNk (n := 175) qf_79) ?_
              refine wp_zW (m := 176) rfl ?_
              refine wp_lt (show _ = 176 from rfl) ?_
              refine wp_gd (Eq.trans (gK_w rfl) (Eq.trans (gK_w rfl) ql_K_167)) ?_
              refine wp_zR ?_
              refine wp_ret_bd ?_
              refine wp_ret_bd ?_
              refine wp_of (f2_Jx4a65c_add_72be8_11.eq_1 ..) ?_
              refine wp_gd gK_n ?_
              refine wp_gd (gZi gZ_n qf_80) ?_
              refine wp_ifn (neK (Eq.trans (gK_w rfl) gK_n) qf_194) ?_
              refine wp_gd (Eq.trans (gK_w rfl) gK_n) ?_
              refine wp_zRk qf_32 ?_
              refine wp_lt qf_27 ?_
              refine wp_gd (Eq.trans (gK_w rfl) (Eq.trans (gK_w rfl) ql_K_167)) ?_
              refine wp_zI ?_
              refine wp_ret_bd ?_
              refine wp_ret_bd ?_
              refine wp_gd (Eq.trans (gK_w rfl) (Eq.trans (gK_w rfl) ql_K_149)) ?_
              refine wp_bd ?_
              refine wp_of (f_X13_logs.eq_1 ..) ?_
              refine wp_gd (Eq.trans (gK_w rfl) (Eq.trans (gK_w rfl) ql_K_149)) ?_
              refine wp_lt (Eq.trans (gI_a rfl) (Eq.trans (gI_w rfl) (Eq.trans (gI_a rfl) (Eq.trans (gI_a rfl) (Eq.trans (gI_a rfl) (Eq.trans (gI_a rfl) (Eq.trans (gI_w rfl) (Eq.trans (gI_b rfl) (Eq.trans (gI_a rfl) (Eq.trans (gI_a rfl) (Eq.trans (gI_a rfl) (Eq.trans (gI_a rfl) (Eq.trans (gI_a rfl) (Eq.trans (gI_a rfl) (Eq.trans (gI_a rfl) (Eq.trans (gI_a rfl) (Eq.trans (gI_a rfl) (Eq.trans (gI_a rfl) (Eq.trans (gI_a rfl) (Eq.trans (gI_a rfl) (Eq.trans (gI_a rfl) (Eq.trans (gI_a rfl) ql_I_149_16)))))))))))))))))))))) ?_
              refine wp_lt qf_27 ?_
              refine wp_zI ?_
              refine wp_ret_bd ?_
              refine wp_gd (Eq.trans (gK_w rfl) (Eq.trans (gK_w rfl) ql_K_149)) ?_
              refine wp_lt (Eq.trans (gR_a rfl) (Eq.trans (gR_a rfl) (Eq.trans (gR_w rfl) (Eq.trans (gR_w rfl) ql_R_149_2)))) ?_
              refine wp_gd (Eq.trans (gK_w rfl) (Eq.trans (gK_w rfl) ql_K_151)) ?_
              refine wp_gd (gZi (Eq.trans (gZ_w rfl) (Eq.trans (gZ_w rfl) ql_Z_151)) qf_105) ?_
              refine wp_lt (gRk qf_46 (Eq.trans (gR_a rfl) (Eq.trans (gR_a rfl) (Eq.trans (gR_w rfl) (Eq.trans (gR_w rfl) ql_R_151_3))))) ?_
              refine wp_gd (Eq.trans (gK_w rfl) (Eq.trans (gK_w rfl) ql_K_164)) ?_
              refine wp_lt (Eq.trans (gR_a rfl) (Eq.trans (gR_a rfl) (Eq.trans (gR_w rfl) (Eq.trans (gR_w rfl) ql_R_164_8)))) ?_
              refine wp_gd (Eq.trans (gK_w rfl) (Eq.trans (gK_w rfl) ql_K_167)) ?_
              refine wp_bd ?_
              refine wp_of (f_Jx4a65c_size_8abf5.eq_1 ..) ?_
              refine wp_gd (Eq.trans (gK_w rfl) (Eq.trans (gK_w rfl) ql_K_167)) ?_
              refine wp_lt (Eq.trans (gI_a rfl) gI_s) ?_
              refine wp_ret_bd ?_
              refine wp_ret_bd ?_
              refine wp_gd (Eq.trans (gK_w rfl) (Eq.trans (gK_w rfl) ql_K_149)) ?_
              refine wp_bd ?_
              refine wp_of (f_X13_thrown.eq_1 ..) ?_
              refine wp_gd (Eq.trans (gK_w rfl) (Eq.trans (gK_w rfl) ql_K_149)) ?_
              refine wp_lt (Eq.trans (gI_b rfl) (Eq.trans (gI_a rfl) (Eq.trans (gI_w rfl) (Eq.trans (gI_a rfl) (Eq.trans (gI_a rfl) (Eq.trans (gI_a rfl) (Eq.trans (gI_a rfl) (Eq.trans (gI_w rfl) gI_s)))))))) ?_
              refine wp_ret_bd ?_
              refine wp_ifp qf_15 ?_
              refine wp_ifp qf_15 ?_
              refine wp_gd (Eq.trans (gK_w rfl) (Eq.trans (gK_w rfl) ql_K_173)) ?_
              refine wp_gd (gZi (Eq.trans (gZ_w rfl) (Eq.trans (gZ_w rfl) ql_Z_173)) qf_71) ?_
              refine wp_lt (gLk qf_32 (Eq.trans (gL_w rfl) (Eq.trans (gL_w rfl) gL_s))) ?_
              refine wp_lt qf_192 ?_
              refine wp_lt qf_195 ?_
              refine wp_ifp qf_15 ?_
              refine wp_of (f_L_law_2104.eq_1 ..) ?_
              refine wp_of (f_L_law_3632.eq_1 ..) ?_
              refine wp_lt qf_21 ?_
              exact hrc _
        · skip
          refine wp_if (fun c4 => ?_) (fun c4 => ?_)
          · skip
            subst c4
            refine wp_of (f_X10_addEffect_25.eq_1 ..) ?_
            refine wp_of (f_X10_addEffect_30.eq_1 ..) ?_
            refine wp_bd ?_
            refine wp_of (f_X10_demand.eq_1 ..) ?_
            refine wp_ifn qf_19 ?_
            refine wp_ret_bd ?_
            refine wp_bd ?_
            refine wp_of (f_X10_isIn.eq_1 ..) ?_
            refine wp_if (fun c5 => ?_) (fun c5 => ?_)
            · skip
              refine wp_of (f_X10_isIn_14.eq_1 ..) ?_
              refine wp_of (f_X10_isIn_15.eq_1 ..) ?_
              refine wp_gd qf_14 ?_
              refine wp_ret_bd ?_
              refine wp_bd ?_
              refine wp_of (f_X10_demand.eq_1 ..) ?_
              refine wp_ifp qf_15 ?_
              refine wp_rs_bd ?_
              refine wp_rs_bdc ?_
              refine wp_ifn qf_113 ?_
              refine wp_ifp qf_16 ?_
              refine wp_ret_bd ?_
              refine wp_gd qf_0 ?_
              refine wp_lt (xsk qf_1 hy1) ?_
              refine wp_gd qf_2 ?_
              refine wp_lt (xsk qf_3 hy2) ?_
              refine wp_lt hwy2 ?_
              refine wp_gd qf_4 ?_
              refine wp_lt (xsk qf_5 hy3) ?_
              refine wp_gd ql_K_149 ?_
              refine wp_bd ?_
              refine wp_of (f2_X13_addEffect.eq_1 ..) ?_
              refine wp_bd ?_
              refine wp_of (f_X13_isDeck.eq_1 ..) ?_
              refine wp_bd ?_
              refine wp_of (f_X13_isBetween.eq_1 ..) ?_
              refine wp_ifn qf_43 ?_
              refine wp_ifn qf_107 ?_
              refine wp_of (f_X13_isBetween_15.eq_1 ..) ?_
              refine wp_gd qf_18 ?_
              refine wp_ret_bd ?_
              refine wp_gd qf_18 ?_
              refine wp_ret_bd ?_
              refine wp_ifn qf_19 ?_
              refine wp_gd (Or.inr qf_180) ?_
              refine wp_bd ?_
              refine wp_of (f2_J0_indexOf_0f7a4.eq_1 ..) ?_
              refine wp_gd (Or.inr qf_180) ?_
              refine wp_bd ?_
              refine wp_of (f2_J0_indexOf_7cf53.eq_1 ..) ?_
              refine wp_gd (Or.inr qf_180) ?_
              refine wp_bd ?_
              refine wp_of (f2_J0_isLatin1_aae02.eq_1 ..) ?_
              refine wp_ifn qf_19 ?_
              refine wp_gd (Or.inr qf_180) ?_
              refine wp_lt (ifR qf_181 rfl) ?_
              refine wp_ifp qf_15 ?_
              refine wp_of (f2_J0_isLatin1_aae02_18.eq_1 ..) ?_
              refine wp_gd qf_18 ?_
              refine wp_ret_bd ?_
              refine wp_ifn qf_19 ?_
              refine wp_gd (Or.inr qf_180) ?_
              refine wp_lt (ifR qf_181 qf_182) ?_
              refine wp_gd (Or.inr qf_180) ?_
              refine wp_bd ?_
              refine wp_of (f2_J0_length_8abf5.eq_1 ..) ?_
              refine wp_gd (Or.inr qf_180) ?_
              refine wp_lt (ifR qf_181 qf_182) ?_
              refine wp_gd (Or.inr qf_183) ?_
              refine wp_lt (zbo (zbK qf_184 qf_185) qf_121) ?_
              refine wp_gd (Or.inr qf_180) ?_
              refine wp_bd ?_
              refine wp_of (f2_J0_coder_7d493.eq_1 ..) ?_
              refine wp_ifn qf_19 ?_
              refine wp_gd (Or.inr qf_180) ?_
              refine wp_lt (ifR qf_181 rfl) ?_
              refine wp_of (f2_J0_coder_7d493_14.eq_1 ..) ?_
              refine wp_gd qf_138 ?_
              refine wp_ret_bd ?_
              refine wp_lt qf_139 ?_
              refine wp_ret_bd ?_
              refine wp_bd ?_
              refine wp_of (f2_J1_indexOf_4cfef.eq_1 ..) ?_
              refine wp_bd ?_
              refine wp_of (f_J1_canEncode_9a6ad.eq_1 ..) ?_
              refine wp_ifn qf_159 ?_
              refine wp_ifn qf_160 ?_
              refine wp_of (f_J1_canEncode_9a6ad_16.eq_1 ..) ?_
              refine wp_gd qf_18 ?_
              refine wp_ret_bd ?_
              refine wp_ifn qf_19 ?_
              refine wp_lt qf_142 ?_
              refine wp_gd (Or.inr qf_183) ?_
              refine wp_lt (zbo (zbK qf_184 qf_185) qf_121) ?_
              refine wp_lt qf_143 ?_
              refine wp_ifp qf_144 ?_
              refine wp_bd ?_
              refine wp_of (f2_J1_indexOfChar_4cfef.eq_1 ..) ?_
              refine wp_lt qf_161 ?_
              refine wp_of (f2_J1_indexOfChar_4cfef_7.eq_2 ..) ?_
              refine wp_ifn qf_115 ?_
              refine wp_gd (Or.inr qf_183) ?_
              refine wp_gd (zbi (zbK qf_184 qf_185) qf_122) ?_
              refine wp_lt (ibk qf_32 (ibK qf_184 qf_189)) ?_
              refine wp_ifn qf_196 ?_
              refine wp_lt qf_153 ?_
              refine wp_of (f2_J1_indexOfChar_4cfef_7.eq_2 ..) ?_
              refine wp_ifn qf_154 ?_
              refine wp_gd (Or.inr qf_183) ?_
              refine wp_gd (zbi (zbK qf_184 qf_185) qf_125) ?_
              refine wp_lt (ibk qf_36 (ibK qf_184 qf_197)) ?_
              refine wp_ifp qf_167 ?_
              refine wp_ret_bd ?_
              refine wp_ret_bd ?_
              refine wp_of (f2_J0_indexOf_7cf53_36.eq_1 ..) ?_
              refine wp_ret_bd ?_
              refine wp_ret_bd ?_
              refine wp_ifn qf_33 ?_
              refine wp_bd ?_
              refine wp_of (f_X13_isBetween.eq_1 ..) ?_
              refine wp_ifp c5 ?_
              refine wp_of (f_X13_isBetween_14.eq_1 ..) ?_
              refine wp_of (f_X13_isBetween_15.eq_1 ..) ?_
              refine wp_gd qf_14 ?_
              refine wp_ret_bd ?_
              refine wp_ifp qf_15 ?_
              refine wp_of (f2_X13_addEffect_31.eq_1 ..) ?_
              refine wp_of (f2_X13_addEffect_58.eq_1 ..) ?_
              refine wp_gd ql_K_149 ?_
              refine wp_bd ?_
              refine wp_of (f_X13_isWrong.eq_1 ..) ?_
              refine wp_gd ql_K_149 ?_
              refine wp_zI ?_
              refine wp_ifn qf_110 ?_
              refine wp_of (f_X13_isWrong_14.eq_1 ..) ?_
              refine wp_gd qf_18 ?_
              refine wp_ret_bd ?_
              refine wp_ifn qf_19 ?_
              refine wp_ret_bd ?_
              refine wp_gd ql_K_149 ?_
              refine wp_bd ?_
              refine wp_of (f_X13_thrown.eq_1 ..) ?_
              refine wp_gd ql_K_149 ?_
              refine wp_lt gI_s ?_
              refine wp_ret_bd ?_
              refine wp_ifp qf_111 ?_
              refine wp_ifn qf_112 ?_
              refine wp_of (f_L_law_2104.eq_1 ..) ?_
              refine wp_of (f_L_law_3632.eq_1 ..) ?_
              refine wp_lt qf_21 ?_
              exact hrc _
            · skip
              refine wp_if (fun c6 => ?_) (fun c6 => ?_)
              · skip
                refine wp_of (f_X10_isIn_14.eq_1 ..) ?_
                refine wp_of (f_X10_isIn_15.eq_1 ..) ?_
                refine wp_gd qf_14 ?_
                refine wp_ret_bd ?_
                refine wp_bd ?_
                refine wp_of (f_X10_demand.eq_1 ..) ?_
                refine wp_ifp qf_15 ?_
                refine wp_rs_bd ?_
                refine wp_rs_bdc ?_
                refine wp_ifn qf_113 ?_
                refine wp_ifp qf_16 ?_
                refine wp_ret_bd ?_
                refine wp_gd qf_0 ?_
                refine wp_lt (xsk qf_1 hy1) ?_
                refine wp_gd qf_2 ?_
                refine wp_lt (xsk qf_3 hy2) ?_
                refine wp_lt hwy2 ?_
                refine wp_gd qf_4 ?_
                refine wp_lt (xsk qf_5 hy3) ?_
                refine wp_gd ql_K_149 ?_
                refine wp_bd ?_
                refine wp_of (f2_X13_addEffect.eq_1 ..) ?_
                refine wp_bd ?_
                refine wp_of (f_X13_isDeck.eq_1 ..) ?_
                refine wp_bd ?_
                refine wp_of (f_X13_isBetween.eq_1 ..) ?_
                refine wp_ifn qf_43 ?_
                refine wp_ifn qf_107 ?_
                refine wp_of (f_X13_isBetween_15.eq_1 ..) ?_
                refine wp_gd qf_18 ?_
                refine wp_ret_bd ?_
                refine wp_gd qf_18 ?_
                refine wp_ret_bd ?_
                refine wp_ifn qf_19 ?_
                refine wp_gd (Or.inr qf_180) ?_
                refine wp_bd ?_
                refine wp_of (f2_J0_indexOf_0f7a4.eq_1 ..) ?_
                refine wp_gd (Or.inr qf_180) ?_
                refine wp_bd ?_
                refine wp_of (f2_J0_indexOf_7cf53.eq_1 ..) ?_
                refine wp_gd (Or.inr qf_180) ?_
                refine wp_bd ?_
                refine wp_of (f2_J0_isLatin1_aae02.eq_1 ..) ?_
                refine wp_ifn qf_19 ?_
                refine wp_gd (Or.inr qf_180) ?_
                refine wp_lt (ifR qf_181 rfl) ?_
                refine wp_ifp qf_15 ?_
                refine wp_of (f2_J0_isLatin1_aae02_18.eq_1 ..) ?_
                refine wp_gd qf_18 ?_
                refine wp_ret_bd ?_
                refine wp_ifn qf_19 ?_
                refine wp_gd (Or.inr qf_180) ?_
                refine wp_lt (ifR qf_181 qf_182) ?_
                refine wp_gd (Or.inr qf_180) ?_
                refine wp_bd ?_
                refine wp_of (f2_J0_length_8abf5.eq_1 ..) ?_
                refine wp_gd (Or.inr qf_180) ?_
                refine wp_lt (ifR qf_181 qf_182) ?_
                refine wp_gd (Or.inr qf_183) ?_
                refine wp_lt (zbo (zbK qf_184 qf_185) qf_121) ?_
                refine wp_gd (Or.inr qf_180) ?_
                refine wp_bd ?_
                refine wp_of (f2_J0_coder_7d493.eq_1 ..) ?_
                refine wp_ifn qf_19 ?_
                refine wp_gd (Or.inr qf_180) ?_
                refine wp_lt (ifR qf_181 rfl) ?_
                refine wp_of (f2_J0_coder_7d493_14.eq_1 ..) ?_
                refine wp_gd qf_138 ?_
                refine wp_ret_bd ?_
                refine wp_lt qf_139 ?_
                refine wp_ret_bd ?_
                refine wp_bd ?_
                refine wp_of (f2_J1_indexOf_4cfef.eq_1 ..) ?_
                refine wp_bd ?_
                refine wp_of (f_J1_canEncode_9a6ad.eq_1 ..) ?_
                refine wp_ifn qf_159 ?_
                refine wp_ifn qf_160 ?_
                refine wp_of (f_J1_canEncode_9a6ad_16.eq_1 ..) ?_
                refine wp_gd qf_18 ?_
                refine wp_ret_bd ?_
                refine wp_ifn qf_19 ?_
                refine wp_lt qf_142 ?_
                refine wp_gd (Or.inr qf_183) ?_
                refine wp_lt (zbo (zbK qf_184 qf_185) qf_121) ?_
                refine wp_lt qf_143 ?_
                refine wp_ifp qf_144 ?_
                refine wp_bd ?_
                refine wp_of (f2_J1_indexOfChar_4cfef.eq_1 ..) ?_
                refine wp_lt qf_161 ?_
                refine wp_of (f2_J1_indexOfChar_4cfef_7.eq_2 ..) ?_
                refine wp_ifn qf_115 ?_
                refine wp_gd (Or.inr qf_183) ?_
                refine wp_gd (zbi (zbK qf_184 qf_185) qf_122) ?_
                refine wp_lt (ibk qf_32 (ibK qf_184 qf_189)) ?_
                refine wp_ifn qf_196 ?_
                refine wp_lt qf_153 ?_
                refine wp_of (f2_J1_indexOfChar_4cfef_7.eq_2 ..) ?_
                refine wp_ifn qf_154 ?_
                refine wp_gd (Or.inr qf_183) ?_
                refine wp_gd (zbi (zbK qf_184 qf_185) qf_125) ?_
                refine wp_lt (ibk qf_36 (ibK qf_184 qf_197)) ?_
                refine wp_ifp qf_167 ?_
                refine wp_ret_bd ?_
                refine wp_ret_bd ?_
                refine wp_of (f2_J0_indexOf_7cf53_36.eq_1 ..) ?_
                refine wp_ret_bd ?_
                refine wp_ret_bd ?_
                refine wp_ifn qf_33 ?_
                refine wp_bd ?_
                refine wp_of (f_X13_isBetween.eq_1 ..) ?_
                refine wp_ifn c5 ?_
                refine wp_ifp c6 ?_
                refine wp_of (f_X13_isBetween_14.eq_1 ..) ?_
                refine wp_of (f_X13_isBetween_15.eq_1 ..) ?_
                refine wp_gd qf_14 ?_
                refine wp_ret_bd ?_
                refine wp_ifp qf_15 ?_
                refine wp_of (f2_X13_addEffect_31.eq_1 ..) ?_
                refine wp_of (f2_X13_addEffect_58.eq_1 ..) ?_
                refine wp_gd ql_K_149 ?_
                refine wp_bd ?_
                refine wp_of (f_X13_isWrong.eq_1 ..) ?_
                refine wp_gd ql_K_149 ?_
                refine wp_zI ?_
                refine wp_ifn qf_110 ?_
                refine wp_of (f_X13_isWrong_14.eq_1 ..) ?_
                refine wp_gd qf_18 ?_
                refine wp_ret_bd ?_
                refine wp_ifn qf_19 ?_
                refine wp_ret_bd ?_
                refine wp_gd ql_K_149 ?_
                refine wp_bd ?_
                refine wp_of (f_X13_thrown.eq_1 ..) ?_
                refine wp_gd ql_K_149 ?_
                refine wp_lt gI_s ?_
                refine wp_ret_bd ?_
                refine wp_ifp qf_111 ?_
                refine wp_ifn qf_112 ?_
                refine wp_of (f_L_law_2104.eq_1 ..) ?_
                refine wp_of (f_L_law_3632.eq_1 ..) ?_
                refine wp_lt qf_21 ?_
                exact hrc _
              · skip
                refine wp_of (f_X10_isIn_15.eq_1 ..) ?_
                refine wp_gd qf_18 ?_
                refine wp_ret_bd ?_
                refine wp_bd ?_
                refine wp_of (f_X10_demand.eq_1 ..) ?_
                refine wp_ifn qf_19 ?_
                refine wp_ret_bd ?_
                refine wp_gd ql_K_41 ?_
                refine wp_lt ql_R_41_0 ?_
                refine wp_gd ql_K_42 ?_
                refine wp_lt ql_I_42_2 ?_
                refine wp_lt ql_R_41_0 ?_
                refine wp_gd ql_K_42 ?_
                refine wp_lt ql_R_42_1 ?_
                refine wp_gd ql_K_44 ?_
                refine wp_lt (gZo ql_Z_44 qf_121) ?_
                refine wp_ifp qf_144 ?_
                refine wp_gd ql_K_1 ?_
                refine wp_lt ql_R_1_2 ?_
                refine wp_gd ql_K_106 ?_
                refine wp_bd ?_
                refine wp_of (f_X6_note.eq_1 ..) ?_
                refine wp_gd ql_K_106 ?_
                refine wp_bd ?_
                refine wp_of (f_X6_open.eq_1 ..) ?_
                refine wp_gd ql_K_106 ?_
                refine wp_lt ql_I_106_2 ?_
                refine wp_lt qf_25 ?_
                refine wp_zI ?_
                refine wp_lt (Eq.trans (gI_b rfl) ql_I_106_2) ?_
                refine wp_ifn qf_26 ?_
                refine wp_lt (Eq.trans (gI_b rfl) ql_I_106_2) ?_
                refine wp_lt qf_27 ?_
                refine wp_zI ?_
                refine wp_of (f_X6_open_31.eq_1 ..) ?_
                refine wp_gd ql_K_106 ?_
                refine wp_bd ?_
                refine wp_of (f_X6_put.eq_1 ..) ?_
                refine wp_gd ql_K_106 ?_
                refine wp_lt (Eq.trans (gI_b rfl) gI_s) ?_
                refine wp_ifn qf_28 ?_
                refine wp_lt (Eq.trans (gI_b rfl) gI_s) ?_
                refine wp_lt ql_R_106_0 ?_
                refine wp_gd ql_K_107 ?_
                refine wp_lt (gZo ql_Z_107 qf_29) ?_
                refine wp_ifn qf_30 ?_
                refine wp_lt ql_R_106_0 ?_
                refine wp_lt (Eq.trans (gI_b rfl) gI_s) ?_
                refine wp_gd ql_K_107 ?_
                refine wp_gd (gZi ql_Z_107 qf_31) ?_
                refine wp_zIk qf_32 ?_
                refine wp_lt (Eq.trans (gI_a rfl) (Eq.trans (gI_b rfl) gI_s)) ?_
                refine wp_lt qf_27 ?_
                refine wp_zI ?_
                refine wp_of (f_X6_put_39.eq_1 ..) ?_
                refine wp_ret_bd ?_
                refine wp_ret_bd ?_
                refine wp_gd ql_K_106 ?_
                refine wp_bd ?_
                refine wp_of (f_X6_put.eq_1 ..) ?_
                refine wp_gd ql_K_106 ?_
                refine wp_lt gI_s ?_
                refine wp_ifn qf_33 ?_
                refine wp_lt gI_s ?_
                refine wp_lt ql_R_106_0 ?_
                refine wp_gd ql_K_107 ?_
                refine wp_lt (gZo ql_Z_107 qf_29) ?_
                refine wp_ifn qf_34 ?_
                refine wp_lt ql_R_106_0 ?_
                refine wp_lt gI_s ?_
                refine wp_gd ql_K_107 ?_
                refine wp_gd (gZi ql_Z_107 qf_35) ?_
                refine wp_zIk qf_36 ?_
                refine wp_lt (Eq.trans (gI_a rfl) gI_s) ?_
                refine wp_lt qf_37 ?_
                refine wp_zI ?_
                refine wp_of (f_X6_put_39.eq_1 ..) ?_
                refine wp_ret_bd ?_
                refine wp_gd ql_K_106 ?_
                refine wp_bd ?_
                refine wp_of (f_X6_put.eq_1 ..) ?_
                refine wp_gd ql_K_106 ?_
                refine wp_lt gI_s ?_
                refine wp_ifn qf_38 ?_
                refine wp_lt gI_s ?_
                refine wp_lt ql_R_106_0 ?_
                refine wp_gd ql_K_107 ?_
                refine wp_lt (gZo ql_Z_107 qf_29) ?_
                refine wp_ifn qf_39 ?_
                refine wp_lt ql_R_106_0 ?_
                refine wp_lt gI_s ?_
                refine wp_gd ql_K_107 ?_
                refine wp_gd (gZi ql_Z_107 qf_40) ?_
                refine wp_zIk qf_41 ?_
                refine wp_lt (Eq.trans (gI_a rfl) gI_s) ?_
                refine wp_lt qf_42 ?_
                refine wp_zI ?_
                refine wp_of (f_X6_put_39.eq_1 ..) ?_
                refine wp_ret_bd ?_
                refine wp_gd ql_K_106 ?_
                refine wp_bd ?_
                refine wp_of (f_X6_put.eq_1 ..) ?_
                refine wp_gd ql_K_106 ?_
                refine wp_lt gI_s ?_
                refine wp_ifn qf_43 ?_
                refine wp_lt gI_s ?_
                refine wp_lt ql_R_106_0 ?_
                refine wp_gd ql_K_107 ?_
                refine wp_lt (gZo ql_Z_107 qf_29) ?_
                refine wp_ifn qf_44 ?_
                refine wp_lt ql_R_106_0 ?_
                refine wp_lt gI_s ?_
                refine wp_gd ql_K_107 ?_
                refine wp_gd (gZi ql_Z_107 qf_45) ?_
                refine wp_zIk qf_46 ?_
                refine wp_lt (Eq.trans (gI_a rfl) gI_s) ?_
                refine wp_lt qf_47 ?_
                refine wp_zI ?_
                refine wp_of (f_X6_put_39.eq_1 ..) ?_
                refine wp_ret_bd ?_
                refine wp_ret_bd ?_
                refine wp_gd ql_K_41 ?_
                refine wp_lt ql_R_41_0 ?_
                refine wp_gd ql_K_42 ?_
                refine wp_bd ?_
                refine wp_of (f_X0_plugIn.eq_1 ..) ?_
                refine wp_gd ql_K_42 ?_
                refine wp_lt (Eq.trans (gI_a rfl) (Eq.trans (gI_a rfl) (Eq.trans (gI_a rfl) (Eq.trans (gI_a rfl) (Eq.trans (gI_a rfl) (Eq.trans (gI_a rfl) (Eq.trans (gI_a rfl) (Eq.trans (gI_a rfl) (Eq.trans (gI_a rfl) (Eq.trans (gI_a rfl) ql_I_42_2)))))))))) ?_
                refine wp_ifn qf_28 ?_
                refine wp_lt (Eq.trans (gI_a rfl) (Eq.trans (gI_a rfl) (Eq.trans (gI_a rfl) (Eq.trans (gI_a rfl) (Eq.trans (gI_a rfl) (Eq.trans (gI_a rfl) (Eq.trans (gI_a rfl) (Eq.trans (gI_a rfl) (Eq.trans (gI_a rfl) (Eq.trans (gI_a rfl) ql_I_42_2)))))))))) ?_
                refine wp_lt ql_R_42_1 ?_
                refine wp_gd ql_K_44 ?_
                refine wp_lt (gZo ql_Z_44 qf_121) ?_
                refine wp_ifn qf_115 ?_
                refine wp_lt ql_R_42_1 ?_
                refine wp_lt (Eq.trans (gI_a rfl) (Eq.trans (gI_a rfl) (Eq.trans (gI_a rfl) (Eq.trans (gI_a rfl) (Eq.trans (gI_a rfl) (Eq.trans (gI_a rfl) (Eq.trans (gI_a rfl) (Eq.trans (gI_a rfl) (Eq.trans (gI_a rfl) (Eq.trans (gI_a rfl) ql_I_42_2)))))))))) ?_
                refine wp_gd ql_K_44 ?_
                refine wp_gd (gZi ql_Z_44 qf_122) ?_
                refine wp_lt (gRk qf_32 ql_R_44_0) ?_
                refine wp_gd ql_K_45 ?_
                refine wp_bd ?_
                refine wp_of (f_X3_begin.eq_1 ..) ?_
                refine wp_gd ql_K_45 ?_
                refine wp_gd qf_158 ?_
                refine wp_zI ?_
                refine wp_zI ?_
                refine wp_zI ?_
                refine wp_ret_bd ?_
                refine wp_gd ql_K_42 ?_
                refine wp_lt (Eq.trans (gI_a rfl) (Eq.trans (gI_a rfl) (Eq.trans (gI_a rfl) (Eq.trans (gI_a rfl) (Eq.trans (gI_a rfl) (Eq.trans (gI_a rfl) (Eq.trans (gI_a rfl) (Eq.trans (gI_a rfl) (Eq.trans (gI_a rfl) (Eq.trans (gI_a rfl) (Eq.trans (gI_a rfl) (Eq.trans (gI_a rfl) (Eq.trans (gI_a rfl) ql_I_42_2))))))))))))) ?_
                refine wp_lt qf_27 ?_
                refine wp_zI ?_
                refine wp_of (f_X0_plugIn_43.eq_1 ..) ?_
                refine wp_gd ql_K_42 ?_
                refine wp_lt gI_s ?_
                refine wp_ret_bd ?_
                refine wp_ret_bdc ?_
                refine wp_lt qf_192 ?_
                refine wp_gd ql_K_173 ?_
                refine wp_gd (gZi ql_Z_173 qf_71) ?_
                refine wp_zLk qf_32 ?_
                refine wp_ret_bd ?_
                refine wp_gd qf_0 ?_
                refine wp_lt (xsk qf_1 hy1) ?_
                refine wp_gd qf_2 ?_
                refine wp_lt (xsk qf_3 hy2) ?_
                refine wp_lt hwy2 ?_
                refine wp_gd qf_4 ?_
                refine wp_lt (xsk qf_5 hy3) ?_
                refine wp_gd ql_K_149 ?_
                refine wp_bd ?_
                refine wp_of (f2_X13_addEffect.eq_1 ..) ?_
                refine wp_bd ?_
                refine wp_of (f_X13_isDeck.eq_1 ..) ?_
                refine wp_bd ?_
                refine wp_of (f_X13_isBetween.eq_1 ..) ?_
                refine wp_ifn qf_43 ?_
                refine wp_ifn qf_107 ?_
                refine wp_of (f_X13_isBetween_15.eq_1 ..) ?_
                refine wp_gd qf_18 ?_
                refine wp_ret_bd ?_
                refine wp_gd qf_18 ?_
                refine wp_ret_bd ?_
                refine wp_ifn qf_19 ?_
                refine wp_gd (Or.inr qf_180) ?_
                refine wp_bd ?_
                refine wp_of (f2_J0_indexOf_0f7a4.eq_1 ..) ?_
                refine wp_gd (Or.inr qf_180) ?_
                refine wp_bd ?_
                refine wp_of (f2_J0_indexOf_7cf53.eq_1 ..) ?_
                refine wp_gd (Or.inr qf_180) ?_
                refine wp_bd ?_
                refine wp_of (f2_J0_isLatin1_aae02.eq_1 ..) ?_
                refine wp_ifn qf_19 ?_
                refine wp_gd (Or.inr qf_180) ?_
                refine wp_lt (ifR qf_181 rfl) ?_
                refine wp_ifp qf_15 ?_
                refine wp_of (f2_J0_isLatin1_aae02_18.eq_1 ..) ?_
                refine wp_gd qf_18 ?_
                refine wp_ret_bd ?_
                refine wp_ifn qf_19 ?_
                refine wp_gd (Or.inr qf_180) ?_
                refine wp_lt (ifR qf_181 qf_182) ?_
                refine wp_gd (Or.inr qf_180) ?_
                refine wp_bd ?_
                refine wp_of (f2_J0_length_8abf5.eq_1 ..) ?_
                refine wp_gd (Or.inr qf_180) ?_
                refine wp_lt (ifR qf_181 qf_182) ?_
                refine wp_gd (Or.inr qf_183) ?_
                refine wp_lt (zbo (zbK qf_184 qf_185) qf_121) ?_
                refine wp_gd (Or.inr qf_180) ?_
                refine wp_bd ?_
                refine wp_of (f2_J0_coder_7d493.eq_1 ..) ?_
                refine wp_ifn qf_19 ?_
                refine wp_gd (Or.inr qf_180) ?_
                refine wp_lt (ifR qf_181 rfl) ?_
                refine wp_of (f2_J0_coder_7d493_14.eq_1 ..) ?_
                refine wp_gd qf_138 ?_
                refine wp_ret_bd ?_
                refine wp_lt qf_139 ?_
                refine wp_ret_bd ?_
                refine wp_bd ?_
                refine wp_of (f2_J1_indexOf_4cfef.eq_1 ..) ?_
                refine wp_bd ?_
                refine wp_of (f_J1_canEncode_9a6ad.eq_1 ..) ?_
                refine wp_ifn qf_159 ?_
                refine wp_ifn qf_160 ?_
                refine wp_of (f_J1_canEncode_9a6ad_16.eq_1 ..) ?_
                refine wp_gd qf_18 ?_
                refine wp_ret_bd ?_
                refine wp_ifn qf_19 ?_
                refine wp_lt qf_142 ?_
                refine wp_gd (Or.inr qf_183) ?_
                refine wp_lt (zbo (zbK qf_184 qf_185) qf_121) ?_
                refine wp_lt qf_143 ?_
                refine wp_ifp qf_144 ?_
                refine wp_bd ?_
                refine wp_of (f2_J1_indexOfChar_4cfef.eq_1 ..) ?_
                refine wp_lt qf_161 ?_
                refine wp_of (f2_J1_indexOfChar_4cfef_7.eq_2 ..) ?_
                refine wp_ifn qf_115 ?_
                refine wp_gd (Or.inr qf_183) ?_
                refine wp_gd (zbi (zbK qf_184 qf_185) qf_122) ?_
                refine wp_lt (ibk qf_32 (ibK qf_184 qf_189)) ?_
                refine wp_ifn qf_196 ?_
                refine wp_lt qf_153 ?_
                refine wp_of (f2_J1_indexOfChar_4cfef_7.eq_2 ..) ?_
                refine wp_ifn qf_154 ?_
                refine wp_gd (Or.inr qf_183) ?_
                refine wp_gd (zbi (zbK qf_184 qf_185) qf_125) ?_
                refine wp_lt (ibk qf_36 (ibK qf_184 qf_197)) ?_
                refine wp_ifp qf_167 ?_
                refine wp_ret_bd ?_
                refine wp_ret_bd ?_
                refine wp_of (f2_J0_indexOf_7cf53_36.eq_1 ..) ?_
                refine wp_ret_bd ?_
                refine wp_ret_bd ?_
                refine wp_ifn qf_33 ?_
                refine wp_bd ?_
                refine wp_of (f_X13_isBetween.eq_1 ..) ?_
                refine wp_ifn c5 ?_
                refine wp_ifn c6 ?_
                refine wp_of (f_X13_isBetween_15.eq_1 ..) ?_
                refine wp_gd qf_18 ?_
                refine wp_ret_bd ?_
                refine wp_ifn qf_19 ?_
                refine wp_gd ql_K_149 ?_
                refine wp_lt ql_R_149_2 ?_
                refine wp_gd ql_K_151 ?_
                refine wp_gd (gZi ql_Z_151 qf_105) ?_
                refine wp_lt (gRk qf_46 ql_R_151_3) ?_
                refine wp_gd ql_K_164 ?_
                refine wp_lt ql_R_164_8 ?_
                refine wp_gd ql_K_167 ?_
                refine wp_bd ?_
                refine wp_of (f_Jx4a65c_size_8abf5.eq_1 ..) ?_
                refine wp_gd ql_K_167 ?_
                refine wp_lt (Eq.trans (gI_a rfl) (Eq.trans (gI_a rfl) (Eq.trans (gI_a rfl) (Eq.trans (gI_a rfl) (Eq.trans (gI_a rfl) (Eq.trans (gI_a rfl) (Eq.trans (gI_a rfl) (Eq.trans (gI_a rfl) (Eq.trans (gI_a rfl) (Eq.trans (gI_a rfl) (Eq.trans (gI_a rfl) (Eq.trans (gI_a rfl) (Eq.trans (gI_a rfl) (Eq.trans (gI_a rfl) ql_I_167_2)))))))))))))) ?_
                refine wp_ret_bd ?_
                refine wp_ifn qf_193 ?_
                refine wp_of (f2_X13_addEffect_58.eq_1 ..) ?_
                refine wp_gd ql_K_149 ?_
                refine wp_bd ?_
                refine wp_of (f_X13_isWrong.eq_1 ..) ?_
                refine wp_gd ql_K_149 ?_
                refine wp_zI ?_
                refine wp_ifp qf_73 ?_
                refine wp_of (f_X13_isWrong_14.eq_1 ..) ?_
                refine wp_gd qf_14 ?_
                refine wp_ret_bd ?_
                refine wp_ifp qf_15 ?_
                refine wp_gd ql_K_149 ?_
                refine wp_lt ql_R_149_2 ?_
                refine wp_gd ql_K_151 ?_
                refine wp_gd (gZi ql_Z_151 qf_105) ?_
                refine wp_lt (gRk qf_46 ql_R_151_3) ?_
                refine wp_gd ql_K_164 ?_
                refine wp_lt ql_R_164_8 ?_
                refine wp_gd (gNk (n := 174) qf_74) ?_
                refine wp_zW (m := 175) rfl ?_
                refine wp_lt (show _ = 175 from rfl) ?_
                refine wp_gd (gZi gZ_n qf_122) ?_
                refine wp_zIk qf_32 ?_
                refine wp_gd (gZi gZ_n qf_125) ?_
                refine wp_zIk qf_36 ?_
                refine wp_gd (gZi gZ_n qf_127) ?_
                refine wp_zIk qf_41 ?_
                refine wp_gd (Eq.trans (gK_w rfl) ql_K_167) ?_
                refine wp_bd ?_
                refine wp_of (f2_Jx4a65c_add_9ea2d.eq_1 ..) ?_
                refine wp_gd (Eq.trans (gK_w rfl) ql_K_167) ?_
                refine wp_lt (Eq.trans (gI_a rfl) (Eq.trans (gI_a rfl) (Eq.trans (gI_a rfl) (Eq.trans (gI_w rfl) (Eq.trans (gI_a rfl) (Eq.trans (gI_a rfl) (Eq.trans (gI_a rfl) (Eq.trans (gI_a rfl) (Eq.trans (gI_a rfl) (Eq.trans (gI_a rfl) (Eq.trans (gI_a rfl) (Eq.trans (gI_a rfl) (Eq.trans (gI_a rfl) (Eq.trans (gI_a rfl) (Eq.trans (gI_a rfl) (Eq.trans (gI_a rfl) (Eq.trans (gI_a rfl) (Eq.trans (gI_a rfl) (Eq.trans (gI_a rfl) ql_I_167_0))))))))))))))))))) ?_
                refine wp_lt qf_27 ?_
                refine wp_zI ?_
                refine wp_lt (Eq.trans (gR_w rfl) ql_R_167_1) ?_
                refine wp_lt (Eq.trans (gI_b rfl) (Eq.trans (gI_a rfl) (Eq.trans (gI_a rfl) (Eq.trans (gI_a rfl) (Eq.trans (gI_w rfl) (Eq.trans (gI_a rfl) (Eq.trans (gI_a rfl) (Eq.trans (gI_a rfl) (Eq.trans (gI_a rfl) (Eq.trans (gI_a rfl) (Eq.trans (gI_a rfl) (Eq.trans (gI_a rfl) (Eq.trans (gI_a rfl) (Eq.trans (gI_a rfl) (Eq.trans (gI_a rfl) (Eq.trans (gI_a rfl) (Eq.trans (gI_a rfl) (Eq.trans (gI_a rfl) (Eq.trans (gI_a rfl) (Eq.trans (gI_a rfl) ql_I_167_2)))))))))))))))))))) ?_
                refine wp_bd ?_
                refine wp_of (f2_Jx4a65c_add_72be8.eq_1 ..) ?_
                refine wp_ifp qf_75 ?_
                refine wp_ifp qf_15 ?_
                refine wp_gd (Eq.trans (gK_w rfl) ql_K_167) ?_
                refine wp_bd ?_
                refine wp_of (f2_Jx4a65c_grow_d5877.eq_1 ..) ?_
                refine wp_gd (Eq.trans (gK_w rfl) ql_K_167) ?_
                refine wp_lt (Eq.trans (gI_b rfl) (Eq.trans (gI_a rfl) (Eq.trans (gI_a rfl) (Eq.trans (gI_a rfl) (Eq.trans (gI_w rfl) (Eq.trans (gI_a rfl) (Eq.trans (gI_a rfl) (Eq.trans (gI_a rfl) (Eq.trans (gI_a rfl) (Eq.trans (gI_a rfl) (Eq.trans (gI_a rfl) (Eq.trans (gI_a rfl) (Eq.trans (gI_a rfl) (Eq.trans (gI_a rfl) (Eq.trans (gI_a rfl) (Eq.trans (gI_a rfl) (Eq.trans (gI_a rfl) (Eq.trans (gI_a rfl) (Eq.trans (gI_a rfl) (Eq.trans (gI_a rfl) ql_I_167_2)))))))))))))))))))) ?_
                refine wp_lt qf_27 ?_
                refine wp_bd ?_
                refine wp_of (f2_Jx4a65c_grow_92f84.eq_1 ..) ?_
                refine wp_gd (Eq.trans (gK_w rfl) ql_K_167) ?_
                refine wp_lt (Eq.trans (gR_w rfl) ql_R_167_1) ?_
                refine wp_ifp qf_75 ?_
                refine wp_ifn qf_28 ?_
                refine wp_lt (Eq.trans (gR_w rfl) ql_R_167_1) ?_
                refine wp_gd qf_76 ?_
                refine wp_ifp qf_75 ?_
                refine wp_lt qf_77 ?_
                refine wp_ifp qf_78 ?_
                refine wp_gd (gNk (n := 175) qf_79) ?_
                refine wp_zW (m := 176) rfl ?_
                refine wp_lt (show _ = 176 from rfl) ?_
                refine wp_gd (Eq.trans (gK_w rfl) (Eq.trans (gK_w rfl) ql_K_167)) ?_
                refine wp_zR ?_
                refine wp_ret_bd ?_
                refine wp_ret_bd ?_
                refine wp_of (f2_Jx4a65c_add_72be8_11.eq_1 ..) ?_
                refine wp_gd gK_n ?_
                refine wp_gd (gZi gZ_n qf_80) ?_
                refine wp_ifn (neK (Eq.trans (gK_w rfl) gK_n) qf_194) ?_
                refine wp_gd (Eq.trans (gK_w rfl) gK_n) ?_
                refine wp_zRk qf_32 ?_
                refine wp_lt qf_27 ?_
                refine wp_gd (Eq.trans (gK_w rfl) (Eq.trans (gK_w rfl) ql_K_167)) ?_
                refine wp_zI ?_
                refine wp_ret_bd ?_
                refine wp_ret_bd ?_
                refine wp_gd (Eq.trans (gK_w rfl) (Eq.trans (gK_w rfl) ql_K_149)) ?_
                refine wp_bd ?_
                refine wp_of (f_X13_logs.eq_1 ..) ?_
                refine wp_gd (Eq.trans (gK_w rfl) (Eq.trans (gK_w rfl) ql_K_149)) ?_
                refine wp_lt (Eq.trans (gI_a rfl) (Eq.trans (gI_w rfl) (Eq.trans (gI_a rfl) (Eq.trans (gI_a rfl) (Eq.trans (gI_a rfl) (Eq.trans (gI_a rfl) (Eq.trans (gI_w rfl) (Eq.trans (gI_b rfl) (Eq.trans (gI_a rfl) (Eq.trans (gI_a rfl) (Eq.trans (gI_a rfl) (Eq.trans (gI_a rfl) (Eq.trans (gI_a rfl) (Eq.trans (gI_a rfl) (Eq.trans (gI_a rfl) (Eq.trans (gI_a rfl) (Eq.trans (gI_a rfl) (Eq.trans (gI_a rfl) (Eq.trans (gI_a rfl) (Eq.trans (gI_a rfl) (Eq.trans (gI_a rfl) (Eq.trans (gI_a rfl) ql_I_149_16)))))))))))))))))))))) ?_
                refine wp_lt qf_27 ?_
                refine wp_zI ?_
                refine wp_ret_bd ?_
                refine wp_gd (Eq.trans (gK_w rfl) (Eq.trans (gK_w rfl) ql_K_149)) ?_
                refine wp_lt (Eq.trans (gR_a rfl) (Eq.trans (gR_a rfl) (Eq.trans (gR_w rfl) (Eq.trans (gR_w rfl) ql_R_149_2)))) ?_
                refine wp_gd (Eq.trans (gK_w rfl) (Eq.trans (gK_w rfl) ql_K_151)) ?_
                refine wp_gd (gZi (Eq.trans (gZ_w rfl) (Eq.trans (gZ_w rfl) ql_Z_151)) qf_105) ?_
                refine wp_lt (gRk qf_46 (Eq.trans (gR_a rfl) (Eq.trans (gR_a rfl) (Eq.trans (gR_w rfl) (Eq.trans (gR_w rfl) ql_R_151_3))))) ?_
                refine wp_gd (Eq.trans (gK_w rfl) (Eq.trans (gK_w rfl) ql_K_164)) ?_
                refine wp_lt (Eq.trans (gR_a rfl) (Eq.trans (gR_a rfl) (Eq.trans (gR_w rfl) (Eq.trans (gR_w rfl) ql_R_164_8)))) ?_
                refine wp_gd (Eq.trans (gK_w rfl) (Eq.trans (gK_w rfl) ql_K_167)) ?_
                refine wp_bd ?_
                refine wp_of (f_Jx4a65c_size_8abf5.eq_1 ..) ?_
                refine wp_gd (Eq.trans (gK_w rfl) (Eq.trans (gK_w rfl) ql_K_167)) ?_
                refine wp_lt (Eq.trans (gI_a rfl) gI_s) ?_
                refine wp_ret_bd ?_
                refine wp_ret_bd ?_
                refine wp_gd (Eq.trans (gK_w rfl) (Eq.trans (gK_w rfl) ql_K_149)) ?_
                refine wp_bd ?_
                refine wp_of (f_X13_thrown.eq_1 ..) ?_
                refine wp_gd (Eq.trans (gK_w rfl) (Eq.trans (gK_w rfl) ql_K_149)) ?_
                refine wp_lt (Eq.trans (gI_b rfl) (Eq.trans (gI_a rfl) (Eq.trans (gI_w rfl) (Eq.trans (gI_a rfl) (Eq.trans (gI_a rfl) (Eq.trans (gI_a rfl) (Eq.trans (gI_a rfl) (Eq.trans (gI_w rfl) gI_s)))))))) ?_
                refine wp_ret_bd ?_
                refine wp_ifp qf_15 ?_
                refine wp_ifp qf_15 ?_
                refine wp_gd (Eq.trans (gK_w rfl) (Eq.trans (gK_w rfl) ql_K_173)) ?_
                refine wp_gd (gZi (Eq.trans (gZ_w rfl) (Eq.trans (gZ_w rfl) ql_Z_173)) qf_71) ?_
                refine wp_lt (gLk qf_32 (Eq.trans (gL_w rfl) (Eq.trans (gL_w rfl) gL_s))) ?_
                refine wp_lt qf_192 ?_
                refine wp_lt qf_195 ?_
                refine wp_ifp qf_15 ?_
                refine wp_of (f_L_law_2104.eq_1 ..) ?_
                refine wp_of (f_L_law_3632.eq_1 ..) ?_
                refine wp_lt qf_21 ?_
                exact hrc _
          · skip
            refine wp_if (fun c5 => ?_) (fun c5 => ?_)
            · skip
              subst c5
              refine wp_of (f_X10_addEffect_25.eq_1 ..) ?_
              refine wp_of (f_X10_addEffect_30.eq_1 ..) ?_
              refine wp_bd ?_
              refine wp_of (f_X10_demand.eq_1 ..) ?_
              refine wp_ifn qf_19 ?_
              refine wp_ret_bd ?_
              refine wp_bd ?_
              refine wp_of (f_X10_isIn.eq_1 ..) ?_
              refine wp_if (fun c6 => ?_) (fun c6 => ?_)
              · skip
                refine wp_of (f_X10_isIn_14.eq_1 ..) ?_
                refine wp_of (f_X10_isIn_15.eq_1 ..) ?_
                refine wp_gd qf_14 ?_
                refine wp_ret_bd ?_
                refine wp_bd ?_
                refine wp_of (f_X10_demand.eq_1 ..) ?_
                refine wp_ifp qf_15 ?_
                refine wp_rs_bd ?_
                refine wp_rs_bdc ?_
                refine wp_ifn qf_113 ?_
                refine wp_ifp qf_16 ?_
                refine wp_ret_bd ?_
                refine wp_gd qf_0 ?_
                refine wp_lt (xsk qf_1 hy1) ?_
                refine wp_gd qf_2 ?_
                refine wp_lt (xsk qf_3 hy2) ?_
                refine wp_lt hwy2 ?_
                refine wp_gd qf_4 ?_
                refine wp_lt (xsk qf_5 hy3) ?_
                refine wp_gd ql_K_149 ?_
                refine wp_bd ?_
                refine wp_of (f2_X13_addEffect.eq_1 ..) ?_
                refine wp_bd ?_
                refine wp_of (f_X13_isDeck.eq_1 ..) ?_
                refine wp_bd ?_
                refine wp_of (f_X13_isBetween.eq_1 ..) ?_
                refine wp_ifn qf_43 ?_
                refine wp_ifn qf_107 ?_
                refine wp_of (f_X13_isBetween_15.eq_1 ..) ?_
                refine wp_gd qf_18 ?_
                refine wp_ret_bd ?_
                refine wp_gd qf_18 ?_
                refine wp_ret_bd ?_
                refine wp_ifn qf_19 ?_
                refine wp_gd (Or.inr qf_180) ?_
                refine wp_bd ?_
                refine wp_of (f2_J0_indexOf_0f7a4.eq_1 ..) ?_
                refine wp_gd (Or.inr qf_180) ?_
                refine wp_bd ?_
                refine wp_of (f2_J0_indexOf_7cf53.eq_1 ..) ?_
                refine wp_gd (Or.inr qf_180) ?_
                refine wp_bd ?_
                refine wp_of (f2_J0_isLatin1_aae02.eq_1 ..) ?_
                refine wp_ifn qf_19 ?_
                refine wp_gd (Or.inr qf_180) ?_
                refine wp_lt (ifR qf_181 rfl) ?_
                refine wp_ifp qf_15 ?_
                refine wp_of (f2_J0_isLatin1_aae02_18.eq_1 ..) ?_
                refine wp_gd qf_18 ?_
                refine wp_ret_bd ?_
                refine wp_ifn qf_19 ?_
                refine wp_gd (Or.inr qf_180) ?_
                refine wp_lt (ifR qf_181 qf_182) ?_
                refine wp_gd (Or.inr qf_180) ?_
                refine wp_bd ?_
                refine wp_of (f2_J0_length_8abf5.eq_1 ..) ?_
                refine wp_gd (Or.inr qf_180) ?_
                refine wp_lt (ifR qf_181 qf_182) ?_
                refine wp_gd (Or.inr qf_183) ?_
                refine wp_lt (zbo (zbK qf_184 qf_185) qf_121) ?_
                refine wp_gd (Or.inr qf_180) ?_
                refine wp_bd ?_
                refine wp_of (f2_J0_coder_7d493.eq_1 ..) ?_
                refine wp_ifn qf_19 ?_
                refine wp_gd (Or.inr qf_180) ?_
                refine wp_lt (ifR qf_181 rfl) ?_
                refine wp_of (f2_J0_coder_7d493_14.eq_1 ..) ?_
                refine wp_gd qf_138 ?_
                refine wp_ret_bd ?_
                refine wp_lt qf_139 ?_
                refine wp_ret_bd ?_
                refine wp_bd ?_
                refine wp_of (f2_J1_indexOf_4cfef.eq_1 ..) ?_
                refine wp_bd ?_
                refine wp_of (f_J1_canEncode_9a6ad.eq_1 ..) ?_
                refine wp_ifn qf_198 ?_
                refine wp_ifn qf_199 ?_
                refine wp_of (f_J1_canEncode_9a6ad_16.eq_1 ..) ?_
                refine wp_gd qf_18 ?_
                refine wp_ret_bd ?_
                refine wp_ifn qf_19 ?_
                refine wp_lt qf_142 ?_
                refine wp_gd (Or.inr qf_183) ?_
                refine wp_lt (zbo (zbK qf_184 qf_185) qf_121) ?_
                refine wp_lt qf_143 ?_
                refine wp_ifp qf_144 ?_
                refine wp_bd ?_
                refine wp_of (f2_J1_indexOfChar_4cfef.eq_1 ..) ?_
                refine wp_lt qf_200 ?_
                refine wp_of (f2_J1_indexOfChar_4cfef_7.eq_2 ..) ?_
                refine wp_ifn qf_115 ?_
                refine wp_gd (Or.inr qf_183) ?_
                refine wp_gd (zbi (zbK qf_184 qf_185) qf_122) ?_
                refine wp_lt (ibk qf_32 (ibK qf_184 qf_189)) ?_
                refine wp_ifn qf_201 ?_
                refine wp_lt qf_153 ?_
                refine wp_of (f2_J1_indexOfChar_4cfef_7.eq_2 ..) ?_
                refine wp_ifn qf_154 ?_
                refine wp_gd (Or.inr qf_183) ?_
                refine wp_gd (zbi (zbK qf_184 qf_185) qf_125) ?_
                refine wp_lt (ibk qf_36 (ibK qf_184 qf_197)) ?_
                refine wp_ifn qf_202 ?_
                refine wp_lt qf_164 ?_
                refine wp_of (f2_J1_indexOfChar_4cfef_7.eq_2 ..) ?_
                refine wp_ifn qf_165 ?_
                refine wp_gd (Or.inr qf_183) ?_
                refine wp_gd (zbi (zbK qf_184 qf_185) qf_127) ?_
                refine wp_lt (ibk qf_41 (ibK qf_184 qf_203)) ?_
                refine wp_ifp qf_204 ?_
                refine wp_ret_bd ?_
                refine wp_ret_bd ?_
                refine wp_of (f2_J0_indexOf_7cf53_36.eq_1 ..) ?_
                refine wp_ret_bd ?_
                refine wp_ret_bd ?_
                refine wp_ifn qf_38 ?_
                refine wp_bd ?_
                refine wp_of (f_X13_isBetween.eq_1 ..) ?_
                refine wp_ifp c6 ?_
                refine wp_of (f_X13_isBetween_14.eq_1 ..) ?_
                refine wp_of (f_X13_isBetween_15.eq_1 ..) ?_
                refine wp_gd qf_14 ?_
                refine wp_ret_bd ?_
                refine wp_ifp qf_15 ?_
                refine wp_of (f2_X13_addEffect_31.eq_1 ..) ?_
                refine wp_of (f2_X13_addEffect_58.eq_1 ..) ?_
                refine wp_gd ql_K_149 ?_
                refine wp_bd ?_
                refine wp_of (f_X13_isWrong.eq_1 ..) ?_
                refine wp_gd ql_K_149 ?_
                refine wp_zI ?_
                refine wp_ifn qf_110 ?_
                refine wp_of (f_X13_isWrong_14.eq_1 ..) ?_
                refine wp_gd qf_18 ?_
                refine wp_ret_bd ?_
                refine wp_ifn qf_19 ?_
                refine wp_ret_bd ?_
                refine wp_gd ql_K_149 ?_
                refine wp_bd ?_
                refine wp_of (f_X13_thrown.eq_1 ..) ?_
                refine wp_gd ql_K_149 ?_
                refine wp_lt gI_s ?_
                refine wp_ret_bd ?_
                refine wp_ifp qf_111 ?_
                refine wp_ifn qf_112 ?_
                refine wp_of (f_L_law_2104.eq_1 ..) ?_
                refine wp_of (f_L_law_3632.eq_1 ..) ?_
                refine wp_lt qf_21 ?_
                exact hrc _
              · skip
                refine wp_if (fun c7 => ?_) (fun c7 => ?_)
                · skip
                  refine wp_of (f_X10_isIn_14.eq_1 ..) ?_
                  refine wp_of (f_X10_isIn_15.eq_1 ..) ?_
                  refine wp_gd qf_14 ?_
                  refine wp_ret_bd ?_
                  refine wp_bd ?_
                  refine wp_of (f_X10_demand.eq_1 ..) ?_
                  refine wp_ifp qf_15 ?_
                  refine wp_rs_bd ?_
                  refine wp_rs_bdc ?_
                  refine wp_ifn qf_113 ?_
                  refine wp_ifp qf_16 ?_
                  refine wp_ret_bd ?_
                  refine wp_gd qf_0 ?_
                  refine wp_lt (xsk qf_1 hy1) ?_
                  refine wp_gd qf_2 ?_
                  refine wp_lt (xsk qf_3 hy2) ?_
                  refine wp_lt hwy2 ?_
                  refine wp_gd qf_4 ?_
                  refine wp_lt (xsk qf_5 hy3) ?_
                  refine wp_gd ql_K_149 ?_
                  refine wp_bd ?_
                  refine wp_of (f2_X13_addEffect.eq_1 ..) ?_
                  refine wp_bd ?_
                  refine wp_of (f_X13_isDeck.eq_1 ..) ?_
                  refine wp_bd ?_
                  refine wp_of (f_X13_isBetween.eq_1 ..) ?_
                  refine wp_ifn qf_43 ?_
                  refine wp_ifn qf_107 ?_
                  refine wp_of (f_X13_isBetween_15.eq_1 ..) ?_
                  refine wp_gd qf_18 ?_
                  refine wp_ret_bd ?_
                  refine wp_gd qf_18 ?_
                  refine wp_ret_bd ?_
                  refine wp_ifn qf_19 ?_
                  refine wp_gd (Or.inr qf_180) ?_
                  refine wp_bd ?_
                  refine wp_of (f2_J0_indexOf_0f7a4.eq_1 ..) ?_
                  refine wp_gd (Or.inr qf_180) ?_
                  refine wp_bd ?_
                  refine wp_of (f2_J0_indexOf_7cf53.eq_1 ..) ?_
                  refine wp_gd (Or.inr qf_180) ?_
                  refine wp_bd ?_
                  refine wp_of (f2_J0_isLatin1_aae02.eq_1 ..) ?_
                  refine wp_ifn qf_19 ?_
                  refine wp_gd (Or.inr qf_180) ?_
                  refine wp_lt (ifR qf_181 rfl) ?_
                  refine wp_ifp qf_15 ?_
                  refine wp_of (f2_J0_isLatin1_aae02_18.eq_1 ..) ?_
                  refine wp_gd qf_18 ?_
                  refine wp_ret_bd ?_
                  refine wp_ifn qf_19 ?_
                  refine wp_gd (Or.inr qf_180) ?_
                  refine wp_lt (ifR qf_181 qf_182) ?_
                  refine wp_gd (Or.inr qf_180) ?_
                  refine wp_bd ?_
                  refine wp_of (f2_J0_length_8abf5.eq_1 ..) ?_
                  refine wp_gd (Or.inr qf_180) ?_
                  refine wp_lt (ifR qf_181 qf_182) ?_
                  refine wp_gd (Or.inr qf_183) ?_
                  refine wp_lt (zbo (zbK qf_184 qf_185) qf_121) ?_
                  refine wp_gd (Or.inr qf_180) ?_
                  refine wp_bd ?_
                  refine wp_of (f2_J0_coder_7d493.eq_1 ..) ?_
                  refine wp_ifn qf_19 ?_
                  refine wp_gd (Or.inr qf_180) ?_
                  refine wp_lt (ifR qf_181 rfl) ?_
                  refine wp_of (f2_J0_coder_7d493_14.eq_1 ..) ?_
                  refine wp_gd qf_138 ?_
                  refine wp_ret_bd ?_
                  refine wp_lt qf_139 ?_
                  refine wp_ret_bd ?_
                  refine wp_bd ?_
                  refine wp_of (f2_J1_indexOf_4cfef.eq_1 ..) ?_
                  refine wp_bd ?_
                  refine wp_of (f_J1_canEncode_9a6ad.eq_1 ..) ?_
                  refine wp_ifn qf_198 ?_
                  refine wp_ifn qf_199 ?_
                  refine wp_of (f_J1_canEncode_9a6ad_16.eq_1 ..) ?_
                  refine wp_gd qf_18 ?_
                  refine wp_ret_bd ?_
                  refine wp_ifn qf_19 ?_
                  refine wp_lt qf_142 ?_
                  refine wp_gd (Or.inr qf_183) ?_
                  refine wp_lt (zbo (zbK qf_184 qf_185) qf_121) ?_
                  refine wp_lt qf_143 ?_
                  refine wp_ifp qf_144 ?_
                  refine wp_bd ?_
                  refine wp_of (f2_J1_indexOfChar_4cfef.eq_1 ..) ?_
                  refine wp_lt qf_200 ?_
                  refine wp_of (f2_J1_indexOfChar_4cfef_7.eq_2 ..) ?_
                  refine wp_ifn qf_115 ?_
                  refine wp_gd (Or.inr qf_183) ?_
                  refine wp_gd (zbi (zbK qf_184 qf_185) qf_122) ?_
                  refine wp_lt (ibk qf_32 (ibK qf_184 qf_189)) ?_
                  refine wp_ifn qf_201 ?_
                  refine wp_lt qf_153 ?_
                  refine wp_of (f2_J1_indexOfChar_4cfef_7.eq_2 ..) ?_
                  refine wp_ifn qf_154 ?_
                  refine wp_gd (Or.inr qf_183) ?_
                  refine wp_gd (zbi (zbK qf_184 qf_185) qf_125) ?_
                  refine wp_lt (ibk qf_36 (ibK qf_184 qf_197)) ?_
                  refine wp_ifn qf_202 ?_
                  refine wp_lt qf_164 ?_
                  refine wp_of (f2_J1_indexOfChar_4cfef_7.eq_2 ..) ?_
                  refine wp_ifn qf_165 ?_
                  refine wp_gd (Or.inr qf_183) ?_
                  refine wp_gd (zbi (zbK qf_184 qf_185) qf_127) ?_
                  refine wp_lt (ibk qf_41 (ibK qf_184 qf_203)) ?_
                  refine wp_ifp qf_204 ?_
                  refine wp_ret_bd ?_
                  refine wp_ret_bd ?_
                  refine wp_of (f2_J0_indexOf_7cf53_36.eq_1 ..) ?_
                  refine wp_ret_bd ?_
                  refine wp_ret_bd ?_
                  refine wp_ifn qf_38 ?_
                  refine wp_bd ?_
                  refine wp_of (f_X13_isBetween.eq_1 ..) ?_
                  refine wp_ifn c6 ?_
                  refine wp_ifp c7 ?_
                  refine wp_of (f_X13_isBetween_14.eq_1 ..) ?_
                  refine wp_of (f_X13_isBetween_15.eq_1 ..) ?_
                  refine wp_gd qf_14 ?_
                  refine wp_ret_bd ?_
                  refine wp_ifp qf_15 ?_
                  refine wp_of (f2_X13_addEffect_31.eq_1 ..) ?_
                  refine wp_of (f2_X13_addEffect_58.eq_1 ..) ?_
                  refine wp_gd ql_K_149 ?_
                  refine wp_bd ?_
                  refine wp_of (f_X13_isWrong.eq_1 ..) ?_
                  refine wp_gd ql_K_149 ?_
                  refine wp_zI ?_
                  refine wp_ifn qf_110 ?_
                  refine wp_of (f_X13_isWrong_14.eq_1 ..) ?_
                  refine wp_gd qf_18 ?_
                  refine wp_ret_bd ?_
                  refine wp_ifn qf_19 ?_
                  refine wp_ret_bd ?_
                  refine wp_gd ql_K_149 ?_
                  refine wp_bd ?_
                  refine wp_of (f_X13_thrown.eq_1 ..) ?_
                  refine wp_gd ql_K_149 ?_
                  refine wp_lt gI_s ?_
                  refine wp_ret_bd ?_
                  refine wp_ifp qf_111 ?_
                  refine wp_ifn qf_112 ?_
                  refine wp_of (f_L_law_2104.eq_1 ..) ?_
                  refine wp_of (f_L_law_3632.eq_1 ..) ?_
                  refine wp_lt qf_21 ?_
                  exact hrc _
                · skip
                  refine wp_of (f_X10_isIn_15.eq_1 ..) ?_
                  refine wp_gd qf_18 ?_
                  refine wp_ret_bd ?_
                  refine wp_bd ?_
                  refine wp_of (f_X10_demand.eq_1 ..) ?_
                  refine wp_ifn qf_19 ?_
                  refine wp_ret_bd ?_
                  refine wp_gd ql_K_41 ?_
                  refine wp_lt ql_R_41_0 ?_
                  refine wp_gd ql_K_42 ?_
                  refine wp_lt ql_I_42_2 ?_
                  refine wp_lt ql_R_41_0 ?_
                  refine wp_gd ql_K_42 ?_
                  refine wp_lt ql_R_42_1 ?_
                  refine wp_gd ql_K_44 ?_
                  refine wp_lt (gZo ql_Z_44 qf_121) ?_
                  refine wp_ifp qf_144 ?_
                  refine wp_gd ql_K_1 ?_
                  refine wp_lt ql_R_1_2 ?_
                  refine wp_gd ql_K_106 ?_
                  refine wp_bd ?_
                  refine wp_of (f_X6_note.eq_1 ..) ?_
                  refine wp_gd ql_K_106 ?_
                  refine wp_bd ?_
                  refine wp_of (f_X6_open.eq_1 ..) ?_
                  refine wp_gd ql_K_106 ?_
                  refine wp_lt ql_I_106_2 ?_
                  refine wp_lt qf_25 ?_
                  refine wp_zI ?_
                  refine wp_lt (Eq.trans (gI_b rfl) ql_I_106_2) ?_
                  refine wp_ifn qf_26 ?_
                  refine wp_lt (Eq.trans (gI_b rfl) ql_I_106_2) ?_
                  refine wp_lt qf_27 ?_
                  refine wp_zI ?_
                  refine wp_of (f_X6_open_31.eq_1 ..) ?_
                  refine wp_gd ql_K_106 ?_
                  refine wp_bd ?_
                  refine wp_of (f_X6_put.eq_1 ..) ?_
                  refine wp_gd ql_K_106 ?_
                  refine wp_lt (Eq.trans (gI_b rfl) gI_s) ?_
                  refine wp_ifn qf_28 ?_
                  refine wp_lt (Eq.trans (gI_b rfl) gI_s) ?_
                  refine wp_lt ql_R_106_0 ?_
                  refine wp_gd ql_K_107 ?_
                  refine wp_lt (gZo ql_Z_107 qf_29) ?_
                  refine wp_ifn qf_30 ?_
                  refine wp_lt ql_R_106_0 ?_
                  refine wp_lt (Eq.trans (gI_b rfl) gI_s) ?_
                  refine wp_gd ql_K_107 ?_
                  refine wp_gd (gZi ql_Z_107 qf_31) ?_
                  refine wp_zIk qf_32 ?_
                  refine wp_lt (Eq.trans (gI_a rfl) (Eq.trans (gI_b rfl) gI_s)) ?_
                  refine wp_lt qf_27 ?_
                  refine wp_zI ?_
                  refine wp_of (f_X6_put_39.eq_1 ..) ?_
                  refine wp_ret_bd ?_
                  refine wp_ret_bd ?_
                  refine wp_gd ql_K_106 ?_
                  refine wp_bd ?_
                  refine wp_of (f_X6_put.eq_1 ..) ?_
                  refine wp_gd ql_K_106 ?_
                  refine wp_lt gI_s ?_
                  refine wp_ifn qf_33 ?_
                  refine wp_lt gI_s ?_
                  refine wp_lt ql_R_106_0 ?_
                  refine wp_gd ql_K_107 ?_
                  refine wp_lt (gZo ql_Z_107 qf_29) ?_
                  refine wp_ifn qf_34 ?_
                  refine wp_lt ql_R_106_0 ?_
                  refine wp_lt gI_s ?_
                  refine wp_gd ql_K_107 ?_
                  refine wp_gd (gZi ql_Z_107 qf_35) ?_
                  refine wp_zIk qf_36 ?_
                  refine wp_lt (Eq.trans (gI_a rfl) gI_s) ?_
                  refine wp_lt qf_37 ?_
                  refine wp_zI ?_
                  refine wp_of (f_X6_put_39.eq_1 ..) ?_
                  refine wp_ret_bd ?_
                  refine wp_gd ql_K_106 ?_
                  refine wp_bd ?_
                  refine wp_of (f_X6_put.eq_1 ..) ?_
                  refine wp_gd ql_K_106 ?_
                  refine wp_lt gI_s ?_
                  refine wp_ifn qf_38 ?_
                  refine wp_lt gI_s ?_
                  refine wp_lt ql_R_106_0 ?_
                  refine wp_gd ql_K_107 ?_
                  refine wp_lt (gZo ql_Z_107 qf_29) ?_
                  refine wp_ifn qf_39 ?_
                  refine wp_lt ql_R_106_0 ?_
                  refine wp_lt gI_s ?_
                  refine wp_gd ql_K_107 ?_
                  refine wp_gd (gZi ql_Z_107 qf_40) ?_
                  refine wp_zIk qf_41 ?_
                  refine wp_lt (Eq.trans (gI_a rfl) gI_s) ?_
                  refine wp_lt qf_42 ?_
                  refine wp_zI ?_
                  refine wp_of (f_X6_put_39.eq_1 ..) ?_
                  refine wp_ret_bd ?_
                  refine wp_gd ql_K_106 ?_
                  refine wp_bd ?_
                  refine wp_of (f_X6_put.eq_1 ..) ?_
                  refine wp_gd ql_K_106 ?_
                  refine wp_lt gI_s ?_
                  refine wp_ifn qf_43 ?_
                  refine wp_lt gI_s ?_
                  refine wp_lt ql_R_106_0 ?_
                  refine wp_gd ql_K_107 ?_
                  refine wp_lt (gZo ql_Z_107 qf_29) ?_
                  refine wp_ifn qf_44 ?_
                  refine wp_lt ql_R_106_0 ?_
                  refine wp_lt gI_s ?_
                  refine wp_gd ql_K_107 ?_
                  refine wp_gd (gZi ql_Z_107 qf_45) ?_
                  refine wp_zIk qf_46 ?_
                  refine wp_lt (Eq.trans (gI_a rfl) gI_s) ?_
                  refine wp_lt qf_47 ?_
                  refine wp_zI ?_
                  refine wp_of (f_X6_put_39.eq_1 ..) ?_
                  refine wp_ret_bd ?_
                  refine wp_ret_bd ?_
                  refine wp_gd ql_K_41 ?_
                  refine wp_lt ql_R_41_0 ?_
                  refine wp_gd ql_K_42 ?_
                  refine wp_bd ?_
                  refine wp_of (f_X0_plugIn.eq_1 ..) ?_
                  refine wp_gd ql_K_42 ?_
                  refine wp_lt (Eq.trans (gI_a rfl) (Eq.trans (gI_a rfl) (Eq.trans (gI_a rfl) (Eq.trans (gI_a rfl) (Eq.trans (gI_a rfl) (Eq.trans (gI_a rfl) (Eq.trans (gI_a rfl) (Eq.trans (gI_a rfl) (Eq.trans (gI_a rfl) (Eq.trans (gI_a rfl) ql_I_42_2)))))))))) ?_
                  refine wp_ifn qf_28 ?_
                  refine wp_lt (Eq.trans (gI_a rfl) (Eq.trans (gI_a rfl) (Eq.trans (gI_a rfl) (Eq.trans (gI_a rfl) (Eq.trans (gI_a rfl) (Eq.trans (gI_a rfl) (Eq.trans (gI_a rfl) (Eq.trans (gI_a rfl) (Eq.trans (gI_a rfl) (Eq.trans (gI_a rfl) ql_I_42_2)))))))))) ?_
                  refine wp_lt ql_R_42_1 ?_
                  refine wp_gd ql_K_44 ?_
                  refine wp_lt (gZo ql_Z_44 qf_121) ?_
                  refine wp_ifn qf_115 ?_
                  refine wp_lt ql_R_42_1 ?_
                  refine wp_lt (Eq.trans (gI_a rfl) (Eq.trans (gI_a rfl) (Eq.trans (gI_a rfl) (Eq.trans (gI_a rfl) (Eq.trans (gI_a rfl) (Eq.trans (gI_a rfl) (Eq.trans (gI_a rfl) (Eq.trans (gI_a rfl) (Eq.trans (gI_a rfl) (Eq.trans (gI_a rfl) ql_I_42_2)))))))))) ?_
                  refine wp_gd ql_K_44 ?_
                  refine wp_gd (gZi ql_Z_44 qf_122) ?_
                  refine wp_lt (gRk qf_32 ql_R_44_0) ?_
                  refine wp_gd ql_K_45 ?_
                  refine wp_bd ?_
                  refine wp_of (f_X3_begin.eq_1 ..) ?_
                  refine wp_gd ql_K_45 ?_
                  refine wp_gd qf_205 ?_
                  refine wp_zI ?_
                  refine wp_zI ?_
                  refine wp_zI ?_
                  refine wp_ret_bd ?_
                  refine wp_gd ql_K_42 ?_
                  refine wp_lt (Eq.trans (gI_a rfl) (Eq.trans (gI_a rfl) (Eq.trans (gI_a rfl) (Eq.trans (gI_a rfl) (Eq.trans (gI_a rfl) (Eq.trans (gI_a rfl) (Eq.trans (gI_a rfl) (Eq.trans (gI_a rfl) (Eq.trans (gI_a rfl) (Eq.trans (gI_a rfl) (Eq.trans (gI_a rfl) (Eq.trans (gI_a rfl) (Eq.trans (gI_a rfl) ql_I_42_2))))))))))))) ?_
                  refine wp_lt qf_27 ?_
                  refine wp_zI ?_
                  refine wp_of (f_X0_plugIn_43.eq_1 ..) ?_
                  refine wp_gd ql_K_42 ?_
                  refine wp_lt gI_s ?_
                  refine wp_ret_bd ?_
                  refine wp_ret_bdc ?_
                  refine wp_lt qf_192 ?_
                  refine wp_gd ql_K_173 ?_
                  refine wp_gd (gZi ql_Z_173 qf_71) ?_
                  refine wp_zLk qf_32 ?_
                  refine wp_ret_bd ?_
                  refine wp_gd qf_0 ?_
                  refine wp_lt (xsk qf_1 hy1) ?_
                  refine wp_gd qf_2 ?_
                  refine wp_lt (xsk qf_3 hy2) ?_
                  refine wp_lt hwy2 ?_
                  refine wp_gd qf_4 ?_
                  refine wp_lt (xsk qf_5 hy3) ?_
                  refine wp_gd ql_K_149 ?_
                  refine wp_bd ?_
                  refine wp_of (f2_X13_addEffect.eq_1 ..) ?_
                  refine wp_bd ?_
                  refine wp_of (f_X13_isDeck.eq_1 ..) ?_
                  refine wp_bd ?_
                  refine wp_of (f_X13_isBetween.eq_1 ..) ?_
                  refine wp_ifn qf_43 ?_
                  refine wp_ifn qf_107 ?_
                  refine wp_of (f_X13_isBetween_15.eq_1 ..) ?_
                  refine wp_gd qf_18 ?_
                  refine wp_ret_bd ?_
                  refine wp_gd qf_18 ?_
                  refine wp_ret_bd ?_
                  refine wp_ifn qf_19 ?_
                  refine wp_gd (Or.inr qf_180) ?_
                  refine wp_bd ?_
                  refine wp_of (f2_J0_indexOf_0f7a4.eq_1 ..) ?_
                  refine wp_gd (Or.inr qf_180) ?_
                  refine wp_bd ?_
                  refine wp_of (f2_J0_indexOf_7cf53.eq_1 ..) ?_
                  refine wp_gd (Or.inr qf_180) ?_
                  refine wp_bd ?_
                  refine wp_of (f2_J0_isLatin1_aae02.eq_1 ..) ?_
                  refine wp_ifn qf_19 ?_
                  refine wp_gd (Or.inr qf_180) ?_
                  refine wp_lt (ifR qf_181 rfl) ?_
                  refine wp_ifp qf_15 ?_
                  refine wp_of (f2_J0_isLatin1_aae02_18.eq_1 ..) ?_
                  refine wp_gd qf_18 ?_
                  refine wp_ret_bd ?_
                  refine wp_ifn qf_19 ?_
                  refine wp_gd (Or.inr qf_180) ?_
                  refine wp_lt (ifR qf_181 qf_182) ?_
                  refine wp_gd (Or.inr qf_180) ?_
                  refine wp_bd ?_
                  refine wp_of (f2_J0_length_8abf5.eq_1 ..) ?_
                  refine wp_gd (Or.inr qf_180) ?_
                  refine wp_lt (ifR qf_181 qf_182) ?_
                  refine wp_gd (Or.inr qf_183) ?_
                  refine wp_lt (zbo (zbK qf_184 qf_185) qf_121) ?_
                  refine wp_gd (Or.inr qf_180) ?_
                  refine wp_bd ?_
                  refine wp_of (f2_J0_coder_7d493.eq_1 ..) ?_
                  refine wp_ifn qf_19 ?_
                  refine wp_gd (Or.inr qf_180) ?_
                  refine wp_lt (ifR qf_181 rfl) ?_
                  refine wp_of (f2_J0_coder_7d493_14.eq_1 ..) ?_
                  refine wp_gd qf_138 ?_
                  refine wp_ret_bd ?_
                  refine wp_lt qf_139 ?_
                  refine wp_ret_bd ?_
                  refine wp_bd ?_
                  refine wp_of (f2_J1_indexOf_4cfef.eq_1 ..) ?_
                  refine wp_bd ?_
                  refine wp_of (f_J1_canEncode_9a6ad.eq_1 ..) ?_
                  refine wp_ifn qf_198 ?_
                  refine wp_ifn qf_199 ?_
                  refine wp_of (f_J1_canEncode_9a6ad_16.eq_1 ..) ?_
                  refine wp_gd qf_18 ?_
                  refine wp_ret_bd ?_
                  refine wp_ifn qf_19 ?_
                  refine wp_lt qf_142 ?_
                  refine wp_gd (Or.inr qf_183) ?_
                  refine wp_lt (zbo (zbK qf_184 qf_185) qf_121) ?_
                  refine wp_lt qf_143 ?_
                  refine wp_ifp qf_144 ?_
                  refine wp_bd ?_
                  refine wp_of (f2_J1_indexOfChar_4cfef.eq_1 ..) ?_
                  refine wp_lt qf_200 ?_
                  refine wp_of (f2_J1_indexOfChar_4cfef_7.eq_2 ..) ?_
                  refine wp_ifn qf_115 ?_
                  refine wp_gd (Or.inr qf_183) ?_
                  refine wp_gd (zbi (zbK qf_184 qf_185) qf_122) ?_
                  refine wp_lt (ibk qf_32 (ibK qf_184 qf_189)) ?_
                  refine wp_ifn qf_201 ?_
                  refine wp_lt qf_153 ?_
                  refine wp_of (f2_J1_indexOfChar_4cfef_7.eq_2 ..) ?_
                  refine wp_ifn qf_154 ?_
                  refine wp_gd (Or.inr qf_183) ?_
                  refine wp_gd (zbi (zbK qf_184 qf_185) qf_125) ?_
                  refine wp_lt (ibk qf_36 (ibK qf_184 qf_197)) ?_
                  refine wp_ifn qf_202 ?_
                  refine wp_lt qf_164 ?_
                  refine wp_of (f2_J1_indexOfChar_4cfef_7.eq_2 ..) ?_
                  refine wp_ifn qf_165 ?_
                  refine wp_gd (Or.inr qf_183) ?_
                  refine wp_gd (zbi (zbK qf_184 qf_185) qf_127) ?_
                  refine wp_lt (ibk qf_41 (ibK qf_184 qf_203)) ?_
                  refine wp_ifp qf_204 ?_
                  refine wp_ret_bd ?_
                  refine wp_ret_bd ?_
                  refine wp_of (f2_J0_indexOf_7cf53_36.eq_1 ..) ?_
                  refine wp_ret_bd ?_
                  refine wp_ret_bd ?_
                  refine wp_ifn qf_38 ?_
                  refine wp_bd ?_
                  refine wp_of (f_X13_isBetween.eq_1 ..) ?_
                  refine wp_ifn c6 ?_
                  refine wp_ifn c7 ?_
                  refine wp_of (f_X13_isBetween_15.eq_1 ..) ?_
                  refine wp_gd qf_18 ?_
                  refine wp_ret_bd ?_
                  refine wp_ifn qf_19 ?_
                  refine wp_gd ql_K_149 ?_
                  refine wp_lt ql_R_149_2 ?_
                  refine wp_gd ql_K_151 ?_
                  refine wp_gd (gZi ql_Z_151 qf_105) ?_
                  refine wp_lt (gRk qf_46 ql_R_151_3) ?_
                  refine wp_gd ql_K_164 ?_
                  refine wp_lt ql_R_164_8 ?_
                  refine wp_gd ql_K_167 ?_
                  refine wp_bd ?_
                  refine wp_of (f_Jx4a65c_size_8abf5.eq_1 ..) ?_
                  refine wp_gd ql_K_167 ?_
                  refine wp_lt (Eq.trans (gI_a rfl) (Eq.trans (gI_a rfl) (Eq.trans (gI_a rfl) (Eq.trans (gI_a rfl) (Eq.trans (gI_a rfl) (Eq.trans (gI_a rfl) (Eq.trans (gI_a rfl) (Eq.trans (gI_a rfl) (Eq.trans (gI_a rfl) (Eq.trans (gI_a rfl) (Eq.trans (gI_a rfl) (Eq.trans (gI_a rfl) (Eq.trans (gI_a rfl) (Eq.trans (gI_a rfl) ql_I_167_2)))))))))))))) ?_
                  refine wp_ret_bd ?_
                  refine wp_ifn qf_193 ?_
                  refine wp_of (f2_X13_addEffect_58.eq_1 ..) ?_
                  refine wp_gd ql_K_149 ?_
                  refine wp_bd ?_
                  refine wp_of (f_X13_isWrong.eq_1 ..) ?_
                  refine wp_gd ql_K_149 ?_
                  refine wp_zI ?_
                  refine wp_ifp qf_73 ?_
                  refine wp_of (f_X13_isWrong_14.eq_1 ..) ?_
                  refine wp_gd qf_14 ?_
                  refine wp_ret_bd ?_
                  refine wp_ifp qf_15 ?_
                  refine wp_gd ql_K_149 ?_
                  refine wp_lt ql_R_149_2 ?_
                  refine wp_gd ql_K_151 ?_
                  refine wp_gd (gZi ql_Z_151 qf_105) ?_
                  refine wp_lt (gRk qf_46 ql_R_151_3) ?_
                  refine wp_gd ql_K_164 ?_
                  refine wp_lt ql_R_164_8 ?_
                  refine wp_gd (gNk (n := 174) qf_74) ?_
                  refine wp_zW (m := 175) rfl ?_
                  refine wp_lt (show _ = 175 from rfl) ?_
                  refine wp_gd (gZi gZ_n qf_122) ?_
                  refine wp_zIk qf_32 ?_
                  refine wp_gd (gZi gZ_n qf_125) ?_
                  refine wp_zIk qf_36 ?_
                  refine wp_gd (gZi gZ_n qf_127) ?_
                  refine wp_zIk qf_41 ?_
                  refine wp_gd (Eq.trans (gK_w rfl) ql_K_167) ?_
                  refine wp_bd ?_
                  refine wp_of (f2_Jx4a65c_add_9ea2d.eq_1 ..) ?_
                  refine wp_gd (Eq.trans (gK_w rfl) ql_K_167) ?_
                  refine wp_lt (Eq.trans (gI_a rfl) (Eq.trans (gI_a rfl) (Eq.trans (gI_a rfl) (Eq.trans (gI_w rfl) (Eq.trans (gI_a rfl) (Eq.trans (gI_a rfl) (Eq.trans (gI_a rfl) (Eq.trans (gI_a rfl) (Eq.trans (gI_a rfl) (Eq.trans (gI_a rfl) (Eq.trans (gI_a rfl) (Eq.trans (gI_a rfl) (Eq.trans (gI_a rfl) (Eq.trans (gI_a rfl) (Eq.trans (gI_a rfl) (Eq.trans (gI_a rfl) (Eq.trans (gI_a rfl) (Eq.trans (gI_a rfl) (Eq.trans (gI_a rfl) ql_I_167_0))))))))))))))))))) ?_
                  refine wp_lt qf_27 ?_
                  refine wp_zI ?_
                  refine wp_lt (Eq.trans (gR_w rfl) ql_R_167_1) ?_
                  refine wp_lt (Eq.trans (gI_b rfl) (Eq.trans (gI_a rfl) (Eq.trans (gI_a rfl) (Eq.trans (gI_a rfl) (Eq.trans (gI_w rfl) (Eq.trans (gI_a rfl) (Eq.trans (gI_a rfl) (Eq.trans (gI_a rfl) (Eq.trans (gI_a rfl) (Eq.trans (gI_a rfl) (Eq.trans (gI_a rfl) (Eq.trans (gI_a rfl) (Eq.trans (gI_a rfl) (Eq.trans (gI_a rfl) (Eq.trans (gI_a rfl) (Eq.trans (gI_a rfl) (Eq.trans (gI_a rfl) (Eq.trans (gI_a rfl) (Eq.trans (gI_a rfl) (Eq.trans (gI_a rfl) ql_I_167_2)))))))))))))))))))) ?_
                  refine wp_bd ?_
                  refine wp_of (f2_Jx4a65c_add_72be8.eq_1 ..) ?_
                  refine wp_ifp qf_75 ?_
                  refine wp_ifp qf_15 ?_
                  refine wp_gd (Eq.trans (gK_w rfl) ql_K_167) ?_
                  refine wp_bd ?_
                  refine wp_of (f2_Jx4a65c_grow_d5877.eq_1 ..) ?_
                  refine wp_gd (Eq.trans (gK_w rfl) ql_K_167) ?_
                  refine wp_lt (Eq.trans (gI_b rfl) (Eq.trans (gI_a rfl) (Eq.trans (gI_a rfl) (Eq.trans (gI_a rfl) (Eq.trans (gI_w rfl) (Eq.trans (gI_a rfl) (Eq.trans (gI_a rfl) (Eq.trans (gI_a rfl) (Eq.trans (gI_a rfl) (Eq.trans (gI_a rfl) (Eq.trans (gI_a rfl) (Eq.trans (gI_a rfl) (Eq.trans (gI_a rfl) (Eq.trans (gI_a rfl) (Eq.trans (gI_a rfl) (Eq.trans (gI_a rfl) (Eq.trans (gI_a rfl) (Eq.trans (gI_a rfl) (Eq.trans (gI_a rfl) (Eq.trans (gI_a rfl) ql_I_167_2)))))))))))))))))))) ?_
                  refine wp_lt qf_27 ?_
                  refine wp_bd ?_
                  refine wp_of (f2_Jx4a65c_grow_92f84.eq_1 ..) ?_
                  refine wp_gd (Eq.trans (gK_w rfl) ql_K_167) ?_
                  refine wp_lt (Eq.trans (gR_w rfl) ql_R_167_1) ?_
                  refine wp_ifp qf_75 ?_
                  refine wp_ifn qf_28 ?_
                  refine wp_lt (Eq.trans (gR_w rfl) ql_R_167_1) ?_
                  refine wp_gd qf_76 ?_
                  refine wp_ifp qf_75 ?_
                  refine wp_lt qf_77 ?_
                  refine wp_ifp qf_78 ?_
                  refine wp_gd (gNk (n := 175) qf_79) ?_
                  refine wp_zW (m := 176) rfl ?_
                  refine wp_lt (show _ = 176 from rfl) ?_
                  refine wp_gd (Eq.trans (gK_w rfl) (Eq.trans (gK_w rfl) ql_K_167)) ?_
                  refine wp_zR ?_
                  refine wp_ret_bd ?_
                  refine wp_ret_bd ?_
                  refine wp_of (f2_Jx4a65c_add_72be8_11.eq_1 ..) ?_
                  refine wp_gd gK_n ?_
                  refine wp_gd (gZi gZ_n qf_80) ?_
                  refine wp_ifn (neK (Eq.trans (gK_w rfl) gK_n) qf_194) ?_
                  refine wp_gd (Eq.trans (gK_w rfl) gK_n) ?_
                  refine wp_zRk qf_32 ?_
                  refine wp_lt qf_27 ?_
                  refine wp_gd (Eq.trans (gK_w rfl) (Eq.trans (gK_w rfl) ql_K_167)) ?_
                  refine wp_zI ?_
                  refine wp_ret_bd ?_
                  refine wp_ret_bd ?_
                  refine wp_gd (Eq.trans (gK_w rfl) (Eq.trans (gK_w rfl) ql_K_149)) ?_
                  refine wp_bd ?_
                  refine wp_of (f_X13_logs.eq_1 ..) ?_
                  refine wp_gd (Eq.trans (gK_w rfl) (Eq.trans (gK_w rfl) ql_K_149)) ?_
                  refine wp_lt (Eq.trans (gI_a rfl) (Eq.trans (gI_w rfl) (Eq.trans (gI_a rfl) (Eq.trans (gI_a rfl) (Eq.trans (gI_a rfl) (Eq.trans (gI_a rfl) (Eq.trans (gI_w rfl) (Eq.trans (gI_b rfl) (Eq.trans (gI_a rfl) (Eq.trans (gI_a rfl) (Eq.trans (gI_a rfl) (Eq.trans (gI_a rfl) (Eq.trans (gI_a rfl) (Eq.trans (gI_a rfl) (Eq.trans (gI_a rfl) (Eq.trans (gI_a rfl) (Eq.trans (gI_a rfl) (Eq.trans (gI_a rfl) (Eq.trans (gI_a rfl) (Eq.trans (gI_a rfl) (Eq.trans (gI_a rfl) (Eq.trans (gI_a rfl) ql_I_149_16)))))))))))))))))))))) ?_
                  refine wp_lt qf_27 ?_
                  refine wp_zI ?_
                  refine wp_ret_bd ?_
                  refine wp_gd (Eq.trans (gK_w rfl) (Eq.trans (gK_w rfl) ql_K_149)) ?_
                  refine wp_lt (Eq.trans (gR_a rfl) (Eq.trans (gR_a rfl) (Eq.trans (gR_w rfl) (Eq.trans (gR_w rfl) ql_R_149_2)))) ?_
                  refine wp_gd (Eq.trans (gK_w rfl) (Eq.trans (gK_w rfl) ql_K_151)) ?_
                  refine wp_gd (gZi (Eq.trans (gZ_w rfl) (Eq.trans (gZ_w rfl) ql_Z_151)) qf_105) ?_
                  refine wp_lt (gRk qf_46 (Eq.trans (gR_a rfl) (Eq.trans (gR_a rfl) (Eq.trans (gR_w rfl) (Eq.trans (gR_w rfl) ql_R_151_3))))) ?_
                  refine wp_gd (Eq.trans (gK_w rfl) (Eq.trans (gK_w rfl) ql_K_164)) ?_
                  refine wp_lt (Eq.trans (gR_a rfl) (Eq.trans (gR_a rfl) (Eq.trans (gR_w rfl) (Eq.trans (gR_w rfl) ql_R_164_8)))) ?_
                  refine wp_gd (Eq.trans (gK_w rfl) (Eq.trans (gK_w rfl) ql_K_167)) ?_
                  refine wp_bd ?_
                  refine wp_of (f_Jx4a65c_size_8abf5.eq_1 ..) ?_
                  refine wp_gd (Eq.trans (gK_w rfl) (Eq.trans (gK_w rfl) ql_K_167)) ?_
                  refine wp_lt (Eq.trans (gI_a rfl) gI_s) ?_
                  refine wp_ret_bd ?_
                  refine wp_ret_bd ?_
                  refine wp_gd (Eq.trans (gK_w rfl) (Eq.trans (gK_w rfl) ql_K_149)) ?_
                  refine wp_bd ?_
                  refine wp_of (f_X13_thrown.eq_1 ..) ?_
                  refine wp_gd (Eq.trans (gK_w rfl) (Eq.trans (gK_w rfl) ql_K_149)) ?_
                  refine wp_lt (Eq.trans (gI_b rfl) (Eq.trans (gI_a rfl) (Eq.trans (gI_w rfl) (Eq.trans (gI_a rfl) (Eq.trans (gI_a rfl) (Eq.trans (gI_a rfl) (Eq.trans (gI_a rfl) (Eq.trans (gI_w rfl) gI_s)))))))) ?_
                  refine wp_ret_bd ?_
                  refine wp_ifp qf_15 ?_
                  refine wp_ifp qf_15 ?_
                  refine wp_gd (Eq.trans (gK_w rfl) (Eq.trans (gK_w rfl) ql_K_173)) ?_
                  refine wp_gd (gZi (Eq.trans (gZ_w rfl) (Eq.trans (gZ_w rfl) ql_Z_173)) qf_71) ?_
                  refine wp_lt (gLk qf_32 (Eq.trans (gL_w rfl) (Eq.trans (gL_w rfl) gL_s))) ?_
                  refine wp_lt qf_192 ?_
                  refine wp_lt qf_195 ?_
                  refine wp_ifp qf_15 ?_
                  refine wp_of (f_L_law_2104.eq_1 ..) ?_
                  refine wp_of (f_L_law_3632.eq_1 ..) ?_
                  refine wp_lt qf_21 ?_
                  exact hrc _
            · skip
              refine wp_of (f_X10_addEffect_30.eq_1 ..) ?_
              refine wp_bd ?_
              refine wp_of (f_X10_demand.eq_1 ..) ?_
              refine wp_ifp qf_15 ?_
              refine wp_rs_bd ?_
              refine wp_rs_bdc ?_
              refine wp_ifn qf_113 ?_
              refine wp_ifp qf_16 ?_
              refine wp_ret_bd ?_
              refine wp_gd qf_0 ?_
              refine wp_lt (xsk qf_1 hy1) ?_
              refine wp_gd qf_2 ?_
              refine wp_lt (xsk qf_3 hy2) ?_
              refine wp_lt hwy2 ?_
              refine wp_gd qf_4 ?_
              refine wp_lt (xsk qf_5 hy3) ?_
              refine wp_gd ql_K_149 ?_
              refine wp_bd ?_
              refine wp_of (f2_X13_addEffect.eq_1 ..) ?_
              refine wp_bd ?_
              refine wp_of (f_X13_isDeck.eq_1 ..) ?_
              refine wp_bd ?_
              refine wp_of (f_X13_isBetween.eq_1 ..) ?_
              refine wp_ifn qf_43 ?_
              refine wp_ifn qf_107 ?_
              refine wp_of (f_X13_isBetween_15.eq_1 ..) ?_
              refine wp_gd qf_18 ?_
              refine wp_ret_bd ?_
              refine wp_gd qf_18 ?_
              refine wp_ret_bd ?_
              refine wp_ifn qf_19 ?_
              refine wp_gd (Or.inr qf_180) ?_
              refine wp_bd ?_
              refine wp_of (f2_J0_indexOf_0f7a4.eq_1 ..) ?_
              refine wp_gd (Or.inr qf_180) ?_
              refine wp_bd ?_
              refine wp_of (f2_J0_indexOf_7cf53.eq_1 ..) ?_
              refine wp_gd (Or.inr qf_180) ?_
              refine wp_bd ?_
              refine wp_of (f2_J0_isLatin1_aae02.eq_1 ..) ?_
              refine wp_ifn qf_19 ?_
              refine wp_gd (Or.inr qf_180) ?_
              refine wp_lt (ifR qf_181 rfl) ?_
              refine wp_ifp qf_15 ?_
              refine wp_of (f2_J0_isLatin1_aae02_18.eq_1 ..) ?_
              refine wp_gd qf_18 ?_
              refine wp_ret_bd ?_
              refine wp_ifn qf_19 ?_
              refine wp_gd (Or.inr qf_180) ?_
              refine wp_lt (ifR qf_181 qf_182) ?_
              refine wp_gd (Or.inr qf_180) ?_
              refine wp_bd ?_
              refine wp_of (f2_J0_length_8abf5.eq_1 ..) ?_
              refine wp_gd (Or.inr qf_180) ?_
              refine wp_lt (ifR qf_181 qf_182) ?_
              refine wp_gd (Or.inr qf_183) ?_
              refine wp_lt (zbo (zbK qf_184 qf_185) qf_121) ?_
              refine wp_gd (Or.inr qf_180) ?_
              refine wp_bd ?_
              refine wp_of (f2_J0_coder_7d493.eq_1 ..) ?_
              refine wp_ifn qf_19 ?_
              refine wp_gd (Or.inr qf_180) ?_
              refine wp_lt (ifR qf_181 rfl) ?_
              refine wp_of (f2_J0_coder_7d493_14.eq_1 ..) ?_
              refine wp_gd qf_138 ?_
              refine wp_ret_bd ?_
              refine wp_lt qf_139 ?_
              refine wp_ret_bd ?_
              refine wp_bd ?_
              refine wp_of (f2_J1_indexOf_4cfef.eq_1 ..) ?_
              refine wp_bd ?_
              refine wp_of (f_J1_canEncode_9a6ad.eq_1 ..) ?_
              refine wp_ifn (show ¬ (wy2 < (0 : Int32)) from by have e0 := qf_90; have e1 := qf_206; have e2 := qf_207; have e3 := qf_171; have e4 := qf_172; simp only [Int32.lt_iff_toInt_lt, Int32.le_iff_toInt_le, ← Int32.toInt_inj] at hwy2a hwy2b ⊢; omega) ?_
              refine wp_if (fun c6 => ?_) (fun c6 => ?_)
              · skip
                refine wp_of (f_J1_canEncode_9a6ad_15.eq_1 ..) ?_
                refine wp_of (f_J1_canEncode_9a6ad_16.eq_1 ..) ?_
                refine wp_gd qf_14 ?_
                refine wp_ret_bd ?_
                refine wp_ifp qf_15 ?_
                refine wp_ret_bd ?_
                refine wp_of (f2_J0_indexOf_7cf53_36.eq_1 ..) ?_
                refine wp_ret_bd ?_
                refine wp_ret_bd ?_
                refine wp_ifp qf_208 ?_
                refine wp_of (f2_X13_addEffect_31.eq_1 ..) ?_
                refine wp_of (f2_X13_addEffect_58.eq_1 ..) ?_
                refine wp_gd ql_K_149 ?_
                refine wp_bd ?_
                refine wp_of (f_X13_isWrong.eq_1 ..) ?_
                refine wp_gd ql_K_149 ?_
                refine wp_zI ?_
                refine wp_ifn qf_110 ?_
                refine wp_of (f_X13_isWrong_14.eq_1 ..) ?_
                refine wp_gd qf_18 ?_
                refine wp_ret_bd ?_
                refine wp_ifn qf_19 ?_
                refine wp_ret_bd ?_
                refine wp_gd ql_K_149 ?_
                refine wp_bd ?_
                refine wp_of (f_X13_thrown.eq_1 ..) ?_
                refine wp_gd ql_K_149 ?_
                refine wp_lt gI_s ?_
                refine wp_ret_bd ?_
                refine wp_ifp qf_111 ?_
                refine wp_ifn qf_112 ?_
                refine wp_of (f_L_law_2104.eq_1 ..) ?_
                refine wp_of (f_L_law_3632.eq_1 ..) ?_
                refine wp_lt qf_21 ?_
                exact hrc _
              · skip
                refine wp_of (f_J1_canEncode_9a6ad_16.eq_1 ..) ?_
                refine wp_gd qf_18 ?_
                refine wp_ret_bd ?_
                refine wp_ifn qf_19 ?_
                refine wp_lt qf_142 ?_
                refine wp_gd (Or.inr qf_183) ?_
                refine wp_lt (zbo (zbK qf_184 qf_185) qf_121) ?_
                refine wp_lt qf_143 ?_
                refine wp_ifp qf_144 ?_
                refine wp_bd ?_
                refine wp_of (f2_J1_indexOfChar_4cfef.eq_1 ..) ?_
                refine wp_ltr ?_
                refine wp_of (f2_J1_indexOfChar_4cfef_7.eq_2 ..) ?_
                refine wp_ifn qf_115 ?_
                refine wp_gd (Or.inr qf_183) ?_
                refine wp_gd (zbi (zbK qf_184 qf_185) qf_122) ?_
                refine wp_lt (ibk qf_32 (ibK qf_184 qf_189)) ?_
                refine wp_ifn (Ne.symm (i2b_ne hwy2a c6 qf_209 c3)) ?_
                refine wp_lt qf_153 ?_
                refine wp_of (f2_J1_indexOfChar_4cfef_7.eq_2 ..) ?_
                refine wp_ifn qf_154 ?_
                refine wp_gd (Or.inr qf_183) ?_
                refine wp_gd (zbi (zbK qf_184 qf_185) qf_125) ?_
                refine wp_lt (ibk qf_36 (ibK qf_184 qf_197)) ?_
                refine wp_ifn (Ne.symm (i2b_ne hwy2a c6 qf_176 c4)) ?_
                refine wp_lt qf_164 ?_
                refine wp_of (f2_J1_indexOfChar_4cfef_7.eq_2 ..) ?_
                refine wp_ifn qf_165 ?_
                refine wp_gd (Or.inr qf_183) ?_
                refine wp_gd (zbi (zbK qf_184 qf_185) qf_127) ?_
                refine wp_lt (ibk qf_41 (ibK qf_184 qf_203)) ?_
                refine wp_ifn (Ne.symm (i2b_ne hwy2a c6 qf_210 c5)) ?_
                refine wp_lt qf_177 ?_
                refine wp_of (f2_J1_indexOfChar_4cfef_7.eq_2 ..) ?_
                refine wp_ifp qf_178 ?_
                refine wp_ret_bd ?_
                refine wp_ret_bd ?_
                refine wp_of (f2_J0_indexOf_7cf53_36.eq_1 ..) ?_
                refine wp_ret_bd ?_
                refine wp_ret_bd ?_
                refine wp_ifp qf_208 ?_
                refine wp_of (f2_X13_addEffect_31.eq_1 ..) ?_
                refine wp_of (f2_X13_addEffect_58.eq_1 ..) ?_
                refine wp_gd ql_K_149 ?_
                refine wp_bd ?_
                refine wp_of (f_X13_isWrong.eq_1 ..) ?_
                refine wp_gd ql_K_149 ?_
                refine wp_zI ?_
                refine wp_ifn qf_110 ?_
                refine wp_of (f_X13_isWrong_14.eq_1 ..) ?_
                refine wp_gd qf_18 ?_
                refine wp_ret_bd ?_
                refine wp_ifn qf_19 ?_
                refine wp_ret_bd ?_
                refine wp_gd ql_K_149 ?_
                refine wp_bd ?_
                refine wp_of (f_X13_thrown.eq_1 ..) ?_
                refine wp_gd ql_K_149 ?_
                refine wp_lt gI_s ?_
                refine wp_ret_bd ?_
                refine wp_ifp qf_111 ?_
                refine wp_ifn qf_112 ?_
                refine wp_of (f_L_law_2104.eq_1 ..) ?_
                refine wp_of (f_L_law_3632.eq_1 ..) ?_
                refine wp_lt qf_21 ?_
                exact hrc _
end CASES7
