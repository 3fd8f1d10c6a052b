section CASES6
set_option maxRecDepth 100000 in
set_option maxHeartbeats 4000000 in
theorem cs_29 {xs : Nat → Int32} {rc : mS → Nat → Nat → Nat → Nat → Int32 → Option (Rs Int32)} {Q : Rs Int32 → Prop} (hrc : ∀ S, WP Q (rc S 1 149 173 174 8)) : WP Q (f_L_law_2287 8 xs rc (M3I, M3L, M3R, M3D, M3K, M3Z, 174) 1 149 173 174 0) := by
  refine wp_of (f_L_law_2287.eq_1 ..) ?_
  refine wp_gd ql_K_1 ?_
  refine wp_bd ?_
  refine wp_of (f_X10_ticks.eq_1 ..) ?_
  refine wp_gd ql_K_1 ?_
  refine wp_lt ql_R_1_0 ?_
  refine wp_gd ql_K_2 ?_
  refine wp_lt ql_I_2_7 ?_
  refine wp_ret_bd ?_
  refine wp_gd ql_K_149 ?_
  refine wp_bd ?_
  refine wp_of (f_X13_ticks.eq_1 ..) ?_
  refine wp_gd ql_K_149 ?_
  refine wp_lt ql_I_149_9 ?_
  refine wp_bd ?_
  refine wp_of (f_X13_plain.eq_1 ..) ?_
  refine wp_gd ql_K_149 ?_
  refine wp_zI ?_
  refine wp_ret_bd ?_
  refine wp_ret_bd ?_
  refine wp_ifp qf_15 ?_
  refine wp_of (f_L_law_3632.eq_1 ..) ?_
  refine wp_lt qf_21 ?_
  exact hrc _
set_option maxRecDepth 100000 in
set_option maxHeartbeats 4000000 in
theorem cs_30 {xs : Nat → Int32} {rc : mS → Nat → Nat → Nat → Nat → Int32 → Option (Rs Int32)} {Q : Rs Int32 → Prop} (hrc : ∀ S, WP Q (rc S 1 149 173 174 8)) : WP Q (f_L_law_2300 8 xs rc (M3I, M3L, M3R, M3D, M3K, M3Z, 174) 1 149 173 174 0) := by
  refine wp_of (f_L_law_2300.eq_1 ..) ?_
  refine wp_gd ql_K_1 ?_
  refine wp_bd ?_
  refine wp_of (f_X10_heard.eq_1 ..) ?_
  refine wp_gd ql_K_1 ?_
  refine wp_lt ql_R_1_0 ?_
  refine wp_gd ql_K_2 ?_
  refine wp_lt ql_I_2_11 ?_
  refine wp_ret_bd ?_
  refine wp_gd ql_K_149 ?_
  refine wp_bd ?_
  refine wp_of (f_X13_heard.eq_1 ..) ?_
  refine wp_gd ql_K_149 ?_
  refine wp_lt ql_I_149_10 ?_
  refine wp_bd ?_
  refine wp_of (f_X13_plain.eq_1 ..) ?_
  refine wp_gd ql_K_149 ?_
  refine wp_zI ?_
  refine wp_ret_bd ?_
  refine wp_ret_bd ?_
  refine wp_ifp qf_15 ?_
  refine wp_of (f_L_law_3632.eq_1 ..) ?_
  refine wp_lt qf_21 ?_
  exact hrc _
set_option maxRecDepth 100000 in
set_option maxHeartbeats 4000000 in
theorem cs_31 {xs : Nat → Int32} {rc : mS → Nat → Nat → Nat → Nat → Int32 → Option (Rs Int32)} {Q : Rs Int32 → Prop} (hrc : ∀ S, WP Q (rc S 1 149 173 174 8)) : WP Q (f_L_law_2313 8 xs rc (M3I, M3L, M3R, M3D, M3K, M3Z, 174) 1 149 173 174 0) := by
  refine wp_of (f_L_law_2313.eq_1 ..) ?_
  refine wp_gd ql_K_1 ?_
  refine wp_bd ?_
  refine wp_of (f_X10_silence.eq_1 ..) ?_
  refine wp_gd ql_K_1 ?_
  refine wp_lt ql_R_1_0 ?_
  refine wp_gd ql_K_2 ?_
  refine wp_lt ql_I_2_8 ?_
  refine wp_ret_bd ?_
  refine wp_gd ql_K_149 ?_
  refine wp_bd ?_
  refine wp_of (f_X13_silence.eq_1 ..) ?_
  refine wp_gd ql_K_149 ?_
  refine wp_lt ql_I_149_11 ?_
  refine wp_bd ?_
  refine wp_of (f_X13_plain.eq_1 ..) ?_
  refine wp_gd ql_K_149 ?_
  refine wp_zI ?_
  refine wp_ret_bd ?_
  refine wp_ret_bd ?_
  refine wp_ifp qf_15 ?_
  refine wp_of (f_L_law_3632.eq_1 ..) ?_
  refine wp_lt qf_21 ?_
  exact hrc _
set_option maxRecDepth 100000 in
set_option maxHeartbeats 4000000 in
theorem cs_32 {xs : Nat → Int32} {rc : mS → Nat → Nat → Nat → Nat → Int32 → Option (Rs Int32)} {Q : Rs Int32 → Prop} (hrc : ∀ S, WP Q (rc S 1 149 173 174 8)) : WP Q (f_L_law_2326 8 xs rc (M3I, M3L, M3R, M3D, M3K, M3Z, 174) 1 149 173 174 0) := by
  obtain ⟨y1, hy1⟩ : ∃ y, xs 1 = y := ⟨_, rfl⟩
  refine wp_of (f_L_law_2326.eq_1 ..) ?_
  refine wp_gd qf_0 ?_
  refine wp_lt (xsk qf_1 hy1) ?_
  obtain ⟨wy1, hwy1⟩ : ∃ w, (((y1).toUInt32 % (65536 : UInt32))).toInt32 = w := ⟨_, rfl⟩
  have hwy1c := chq hwy1
  have hwy1a := hwy1c.1.2
  have hwy1b := hwy1c.2
  refine wp_lt hwy1 ?_
  refine wp_bd ?_
  refine wp_of (f_L_clashes.eq_1 ..) ?_
  refine wp_gd ql_K_1 ?_
  refine wp_bdc ?_
  refine wp_of (f_X10_clashes.eq_1 ..) ?_
  refine wp_if (fun c1 => ?_) (fun c1 => ?_)
  · skip
    subst c1
    refine wp_of (f_X10_clashes_12.eq_1 ..) ?_
    refine wp_of (f_X10_clashes_17.eq_1 ..) ?_
    refine wp_bd ?_
    refine wp_of (f_X10_demand.eq_1 ..) ?_
    refine wp_ifn qf_19 ?_
    refine wp_ret_bd ?_
    refine wp_ifp qf_367 ?_
    refine wp_gd ql_K_1 ?_
    refine wp_lt ql_R_1_0 ?_
    refine wp_gd ql_K_2 ?_
    refine wp_lt ql_I_2_9 ?_
    refine wp_of (f_X10_clashes_43.eq_1 ..) ?_
    refine wp_ret_bdc ?_
    refine wp_lt qf_70 ?_
    refine wp_gd ql_K_173 ?_
    refine wp_gd (gZi ql_Z_173 qf_71) ?_
    refine wp_zLk qf_32 ?_
    refine wp_ret_bd ?_
    refine wp_gd qf_0 ?_
    refine wp_lt (xsk qf_1 hy1) ?_
    refine wp_lt hwy1 ?_
    refine wp_gd ql_K_149 ?_
    refine wp_bd ?_
    refine wp_of (f_X13_clashes.eq_1 ..) ?_
    refine wp_ifp qf_367 ?_
    refine wp_of (f_X13_clashes_17.eq_1 ..) ?_
    refine wp_of (f_X13_clashes_18.eq_1 ..) ?_
    refine wp_gd ql_K_149 ?_
    refine wp_bd ?_
    refine wp_of (f_X13_isWrong.eq_1 ..) ?_
    refine wp_gd ql_K_149 ?_
    refine wp_zI ?_
    refine wp_ifp qf_73 ?_
    refine wp_of (f_X13_isWrong_14.eq_1 ..) ?_
    refine wp_gd qf_14 ?_
    refine wp_ret_bd ?_
    refine wp_ifp qf_15 ?_
    refine wp_ifp qf_367 ?_
    refine wp_gd ql_K_149 ?_
    refine wp_lt (Eq.trans (gI_b rfl) ql_I_149_12) ?_
    refine wp_of (f_X13_clashes_45.eq_1 ..) ?_
    refine wp_ret_bd ?_
    refine wp_gd ql_K_149 ?_
    refine wp_bd ?_
    refine wp_of (f_X13_thrown.eq_1 ..) ?_
    refine wp_gd ql_K_149 ?_
    refine wp_lt gI_s ?_
    refine wp_ret_bd ?_
    refine wp_ifp qf_15 ?_
    refine wp_ifp qf_15 ?_
    refine wp_gd ql_K_173 ?_
    refine wp_gd (gZi ql_Z_173 qf_71) ?_
    refine wp_lt (gLk qf_32 gL_s) ?_
    refine wp_lt qf_70 ?_
    refine wp_lt qf_103 ?_
    refine wp_ifp qf_15 ?_
    refine wp_of (f_L_law_2381.eq_1 ..) ?_
    refine wp_of (f_L_law_3632.eq_1 ..) ?_
    refine wp_lt qf_21 ?_
    exact hrc _
  · skip
    refine wp_if (fun c2 => ?_) (fun c2 => ?_)
    · skip
      subst c2
      refine wp_of (f_X10_clashes_12.eq_1 ..) ?_
      refine wp_of (f_X10_clashes_17.eq_1 ..) ?_
      refine wp_bd ?_
      refine wp_of (f_X10_demand.eq_1 ..) ?_
      refine wp_ifn qf_19 ?_
      refine wp_ret_bd ?_
      refine wp_ifn qf_368 ?_
      refine wp_gd ql_K_1 ?_
      refine wp_lt ql_R_1_0 ?_
      refine wp_gd ql_K_2 ?_
      refine wp_lt ql_I_2_10 ?_
      refine wp_of (f_X10_clashes_43.eq_1 ..) ?_
      refine wp_ret_bdc ?_
      refine wp_lt qf_70 ?_
      refine wp_gd ql_K_173 ?_
      refine wp_gd (gZi ql_Z_173 qf_71) ?_
      refine wp_zLk qf_32 ?_
      refine wp_ret_bd ?_
      refine wp_gd qf_0 ?_
      refine wp_lt (xsk qf_1 hy1) ?_
      refine wp_lt hwy1 ?_
      refine wp_gd ql_K_149 ?_
      refine wp_bd ?_
      refine wp_of (f_X13_clashes.eq_1 ..) ?_
      refine wp_ifn qf_368 ?_
      refine wp_ifp qf_369 ?_
      refine wp_of (f_X13_clashes_17.eq_1 ..) ?_
      refine wp_of (f_X13_clashes_18.eq_1 ..) ?_
      refine wp_gd ql_K_149 ?_
      refine wp_bd ?_
      refine wp_of (f_X13_isWrong.eq_1 ..) ?_
      refine wp_gd ql_K_149 ?_
      refine wp_zI ?_
      refine wp_ifp qf_73 ?_
      refine wp_of (f_X13_isWrong_14.eq_1 ..) ?_
      refine wp_gd qf_14 ?_
      refine wp_ret_bd ?_
      refine wp_ifp qf_15 ?_
      refine wp_ifn qf_368 ?_
      refine wp_gd ql_K_149 ?_
      refine wp_lt (Eq.trans (gI_b rfl) ql_I_149_13) ?_
      refine wp_of (f_X13_clashes_45.eq_1 ..) ?_
      refine wp_ret_bd ?_
      refine wp_gd ql_K_149 ?_
      refine wp_bd ?_
      refine wp_of (f_X13_thrown.eq_1 ..) ?_
      refine wp_gd ql_K_149 ?_
      refine wp_lt gI_s ?_
      refine wp_ret_bd ?_
      refine wp_ifp qf_15 ?_
      refine wp_ifp qf_15 ?_
      refine wp_gd ql_K_173 ?_
      refine wp_gd (gZi ql_Z_173 qf_71) ?_
      refine wp_lt (gLk qf_32 gL_s) ?_
      refine wp_lt qf_70 ?_
      refine wp_lt qf_103 ?_
      refine wp_ifp qf_15 ?_
      refine wp_of (f_L_law_2381.eq_1 ..) ?_
      refine wp_of (f_L_law_3632.eq_1 ..) ?_
      refine wp_lt qf_21 ?_
      exact hrc _
    · skip
      refine wp_of (f_X10_clashes_17.eq_1 ..) ?_
      refine wp_bd ?_
      refine wp_of (f_X10_demand.eq_1 ..) ?_
      refine wp_ifp qf_15 ?_
      refine wp_rs_bd ?_
      refine wp_rs_bdc ?_
      refine wp_ifp qf_16 ?_
      refine wp_ret_bd ?_
      refine wp_gd qf_0 ?_
      refine wp_lt (xsk qf_1 hy1) ?_
      refine wp_lt hwy1 ?_
      refine wp_gd ql_K_149 ?_
      refine wp_bd ?_
      refine wp_of (f_X13_clashes.eq_1 ..) ?_
      refine wp_ifn c1 ?_
      refine wp_ifn c2 ?_
      refine wp_of (f_X13_clashes_18.eq_1 ..) ?_
      refine wp_gd ql_K_149 ?_
      refine wp_bd ?_
      refine wp_of (f_X13_isWrong.eq_1 ..) ?_
      refine wp_gd ql_K_149 ?_
      refine wp_zI ?_
      refine wp_ifn qf_17 ?_
      refine wp_of (f_X13_isWrong_14.eq_1 ..) ?_
      refine wp_gd qf_18 ?_
      refine wp_ret_bd ?_
      refine wp_ifn qf_19 ?_
      refine wp_of (f_X13_clashes_45.eq_1 ..) ?_
      refine wp_ret_bd ?_
      refine wp_gd ql_K_149 ?_
      refine wp_bd ?_
      refine wp_of (f_X13_thrown.eq_1 ..) ?_
      refine wp_gd ql_K_149 ?_
      refine wp_lt gI_s ?_
      refine wp_ret_bd ?_
      refine wp_ifp qf_20 ?_
      refine wp_ifn qf_19 ?_
      refine wp_of (f_L_law_2381.eq_1 ..) ?_
      refine wp_of (f_L_law_3632.eq_1 ..) ?_
      refine wp_lt qf_21 ?_
      exact hrc _
set_option maxRecDepth 100000 in
set_option maxHeartbeats 4000000 in
theorem cs_33 {xs : Nat → Int32} {rc : mS → Nat → Nat → Nat → Nat → Int32 → Option (Rs Int32)} {Q : Rs Int32 → Prop} (hrc : ∀ S, WP Q (rc S 1 149 173 174 8)) : WP Q (f_L_law_2384 8 xs rc (M3I, M3L, M3R, M3D, M3K, M3Z, 174) 1 149 173 174 0) := by
  obtain ⟨y1, hy1⟩ : ∃ y, xs 1 = y := ⟨_, rfl⟩
  obtain ⟨y2, hy2⟩ : ∃ y, xs 2 = y := ⟨_, rfl⟩
  refine wp_of (f_L_law_2384.eq_1 ..) ?_
  refine wp_gd qf_0 ?_
  refine wp_lt (xsk qf_1 hy1) ?_
  refine wp_gd qf_2 ?_
  refine wp_lt (xsk qf_3 hy2) ?_
  refine wp_bd ?_
  refine wp_of (f_L_between.eq_1 ..) ?_
  refine wp_gd ql_K_1 ?_
  refine wp_bdc ?_
  refine wp_of (f_X10_between.eq_1 ..) ?_
  refine wp_gd ql_K_1 ?_
  refine wp_bd ?_
  refine wp_of (f_X10_deckOf.eq_1 ..) ?_
  refine wp_gd ql_K_1 ?_
  refine wp_lt ql_R_1_0 ?_
  refine wp_gd ql_K_2 ?_
  refine wp_bd ?_
  refine wp_of (f_X8_deckAt.eq_1 ..) ?_
  refine wp_if (fun c1 => ?_) (fun c1 => ?_)
  · skip
    refine wp_of (f_X8_deckAt_22.eq_1 ..) ?_
    refine wp_of (f_X8_deckAt_23.eq_1 ..) ?_
    refine wp_ret_bd ?_
    refine wp_ifp qf_77 ?_
    refine wp_rs_bd ?_
    refine wp_rs_bdc ?_
    refine wp_ifp qf_78 ?_
    refine wp_ret_bd ?_
    refine wp_gd qf_0 ?_
    refine wp_lt (xsk qf_1 hy1) ?_
    refine wp_gd qf_2 ?_
    refine wp_lt (xsk qf_3 hy2) ?_
    refine wp_gd ql_K_149 ?_
    refine wp_bd ?_
    refine wp_of (f_X13_between.eq_1 ..) ?_
    refine wp_bd ?_
    refine wp_of (f_X13_isDeck.eq_1 ..) ?_
    refine wp_bd ?_
    refine wp_of (f_X13_isBetween.eq_1 ..) ?_
    refine wp_ifp c1 ?_
    refine wp_of (f_X13_isBetween_14.eq_1 ..) ?_
    refine wp_of (f_X13_isBetween_15.eq_1 ..) ?_
    refine wp_gd qf_14 ?_
    refine wp_ret_bd ?_
    refine wp_gd qf_14 ?_
    refine wp_ret_bd ?_
    refine wp_ifp qf_15 ?_
    refine wp_of (f_X13_between_15.eq_1 ..) ?_
    refine wp_of (f_X13_between_40.eq_1 ..) ?_
    refine wp_gd ql_K_149 ?_
    refine wp_bd ?_
    refine wp_of (f_X13_isWrong.eq_1 ..) ?_
    refine wp_gd ql_K_149 ?_
    refine wp_zI ?_
    refine wp_ifn qf_17 ?_
    refine wp_of (f_X13_isWrong_14.eq_1 ..) ?_
    refine wp_gd qf_18 ?_
    refine wp_ret_bd ?_
    refine wp_ifn qf_19 ?_
    refine wp_of (f_X13_between_65.eq_1 ..) ?_
    refine wp_ret_bd ?_
    refine wp_gd ql_K_149 ?_
    refine wp_bd ?_
    refine wp_of (f_X13_thrown.eq_1 ..) ?_
    refine wp_gd ql_K_149 ?_
    refine wp_lt gI_s ?_
    refine wp_ret_bd ?_
    refine wp_ifp qf_20 ?_
    refine wp_ifn qf_19 ?_
    refine wp_of (f_L_law_2449.eq_1 ..) ?_
    refine wp_of (f_L_law_3632.eq_1 ..) ?_
    refine wp_lt qf_21 ?_
    exact hrc _
  · skip
    refine wp_gd ql_K_2 ?_
    refine wp_lt ql_R_2_1 ?_
    refine wp_gd ql_K_16 ?_
    refine wp_lt (gZo ql_Z_16 qf_82) ?_
    refine wp_if (fun c2 => ?_) (fun c2 => ?_)
    · skip
      refine wp_of (f_X8_deckAt_22.eq_1 ..) ?_
      refine wp_of (f_X8_deckAt_23.eq_1 ..) ?_
      refine wp_ret_bd ?_
      refine wp_ifp qf_77 ?_
      refine wp_rs_bd ?_
      refine wp_rs_bdc ?_
      refine wp_ifp qf_78 ?_
      refine wp_ret_bd ?_
      refine wp_gd qf_0 ?_
      refine wp_lt (xsk qf_1 hy1) ?_
      refine wp_gd qf_2 ?_
      refine wp_lt (xsk qf_3 hy2) ?_
      refine wp_gd ql_K_149 ?_
      refine wp_bd ?_
      refine wp_of (f_X13_between.eq_1 ..) ?_
      refine wp_bd ?_
      refine wp_of (f_X13_isDeck.eq_1 ..) ?_
      refine wp_bd ?_
      refine wp_of (f_X13_isBetween.eq_1 ..) ?_
      refine wp_ifn c1 ?_
      refine wp_ifp (show ((3 : Int32) < y1) from by have e0 := qf_80; have e1 := qf_83; have e2 := qf_84; simp only [Int32.lt_iff_toInt_lt, Int32.le_iff_toInt_le, ← Int32.toInt_inj] at c1 c2 ⊢; omega) ?_
      refine wp_of (f_X13_isBetween_14.eq_1 ..) ?_
      refine wp_of (f_X13_isBetween_15.eq_1 ..) ?_
      refine wp_gd qf_14 ?_
      refine wp_ret_bd ?_
      refine wp_gd qf_14 ?_
      refine wp_ret_bd ?_
      refine wp_ifp qf_15 ?_
      refine wp_of (f_X13_between_15.eq_1 ..) ?_
      refine wp_of (f_X13_between_40.eq_1 ..) ?_
      refine wp_gd ql_K_149 ?_
      refine wp_bd ?_
      refine wp_of (f_X13_isWrong.eq_1 ..) ?_
      refine wp_gd ql_K_149 ?_
      refine wp_zI ?_
      refine wp_ifn qf_17 ?_
      refine wp_of (f_X13_isWrong_14.eq_1 ..) ?_
      refine wp_gd qf_18 ?_
      refine wp_ret_bd ?_
      refine wp_ifn qf_19 ?_
      refine wp_of (f_X13_between_65.eq_1 ..) ?_
      refine wp_ret_bd ?_
      refine wp_gd ql_K_149 ?_
      refine wp_bd ?_
      refine wp_of (f_X13_thrown.eq_1 ..) ?_
      refine wp_gd ql_K_149 ?_
      refine wp_lt gI_s ?_
      refine wp_ret_bd ?_
      refine wp_ifp qf_20 ?_
      refine wp_ifn qf_19 ?_
      refine wp_of (f_L_law_2449.eq_1 ..) ?_
      refine wp_of (f_L_law_3632.eq_1 ..) ?_
      refine wp_lt qf_21 ?_
      exact hrc _
    · skip
      refine wp_lt ql_R_2_1 ?_
      refine wp_gd ql_K_16 ?_
      rcases (show y1 = (0 : Int32) ∨ y1 = (1 : Int32) ∨ y1 = (2 : Int32) ∨ y1 = (3 : Int32) from by have e0 := qf_80; have e1 := qf_85; have e2 := qf_86; have e3 := qf_83; have e4 := qf_84; simp only [Int32.lt_iff_toInt_lt, Int32.le_iff_toInt_le] at c1 c2; simp only [← Int32.toInt_inj]; omega) with rfl | rfl | rfl | rfl
      · skip
        refine wp_gd (gZi ql_Z_16 qf_87) ?_
        refine wp_lt (gRk qf_32 ql_R_16_0) ?_
        refine wp_of (f_X8_deckAt_23.eq_1 ..) ?_
        refine wp_ret_bd ?_
        refine wp_ifn qf_88 ?_
        refine wp_ret_bd ?_
        refine wp_gd ql_K_1 ?_
        refine wp_bd ?_
        refine wp_of (f_X10_deckOf.eq_1 ..) ?_
        refine wp_gd ql_K_1 ?_
        refine wp_lt ql_R_1_0 ?_
        refine wp_gd ql_K_2 ?_
        refine wp_bd ?_
        refine wp_of (f_X8_deckAt.eq_1 ..) ?_
        refine wp_if (fun c3 => ?_) (fun c3 => ?_)
        · skip
          refine wp_of (f_X8_deckAt_22.eq_1 ..) ?_
          refine wp_of (f_X8_deckAt_23.eq_1 ..) ?_
          refine wp_ret_bd ?_
          refine wp_ifp qf_77 ?_
          refine wp_rs_bd ?_
          refine wp_rs_bdc ?_
          refine wp_ifp qf_78 ?_
          refine wp_ret_bd ?_
          refine wp_gd qf_0 ?_
          refine wp_lt (xsk qf_1 hy1) ?_
          refine wp_gd qf_2 ?_
          refine wp_lt (xsk qf_3 hy2) ?_
          refine wp_gd ql_K_149 ?_
          refine wp_bd ?_
          refine wp_of (f_X13_between.eq_1 ..) ?_
          refine wp_bd ?_
          refine wp_of (f_X13_isDeck.eq_1 ..) ?_
          refine wp_bd ?_
          refine wp_of (f_X13_isBetween.eq_1 ..) ?_
          refine wp_ifn qf_28 ?_
          refine wp_ifn qf_43 ?_
          refine wp_of (f_X13_isBetween_15.eq_1 ..) ?_
          refine wp_gd qf_18 ?_
          refine wp_ret_bd ?_
          refine wp_gd qf_18 ?_
          refine wp_ret_bd ?_
          refine wp_ifn qf_19 ?_
          refine wp_bd ?_
          refine wp_of (f_X13_isDeck.eq_1 ..) ?_
          refine wp_bd ?_
          refine wp_of (f_X13_isBetween.eq_1 ..) ?_
          refine wp_ifp c3 ?_
          refine wp_of (f_X13_isBetween_14.eq_1 ..) ?_
          refine wp_of (f_X13_isBetween_15.eq_1 ..) ?_
          refine wp_gd qf_14 ?_
          refine wp_ret_bd ?_
          refine wp_gd qf_14 ?_
          refine wp_ret_bd ?_
          refine wp_ifp qf_15 ?_
          refine wp_of (f_X13_between_15.eq_1 ..) ?_
          refine wp_of (f_X13_between_40.eq_1 ..) ?_
          refine wp_gd ql_K_149 ?_
          refine wp_bd ?_
          refine wp_of (f_X13_isWrong.eq_1 ..) ?_
          refine wp_gd ql_K_149 ?_
          refine wp_zI ?_
          refine wp_ifn qf_17 ?_
          refine wp_of (f_X13_isWrong_14.eq_1 ..) ?_
          refine wp_gd qf_18 ?_
          refine wp_ret_bd ?_
          refine wp_ifn qf_19 ?_
          refine wp_of (f_X13_between_65.eq_1 ..) ?_
          refine wp_ret_bd ?_
          refine wp_gd ql_K_149 ?_
          refine wp_bd ?_
          refine wp_of (f_X13_thrown.eq_1 ..) ?_
          refine wp_gd ql_K_149 ?_
          refine wp_lt gI_s ?_
          refine wp_ret_bd ?_
          refine wp_ifp qf_20 ?_
          refine wp_ifn qf_19 ?_
          refine wp_of (f_L_law_2449.eq_1 ..) ?_
          refine wp_of (f_L_law_3632.eq_1 ..) ?_
          refine wp_lt qf_21 ?_
          exact hrc _
        · skip
          refine wp_gd ql_K_2 ?_
          refine wp_lt ql_R_2_1 ?_
          refine wp_gd ql_K_16 ?_
          refine wp_lt (gZo ql_Z_16 qf_82) ?_
          refine wp_if (fun c4 => ?_) (fun c4 => ?_)
          · skip
            refine wp_of (f_X8_deckAt_22.eq_1 ..) ?_
            refine wp_of (f_X8_deckAt_23.eq_1 ..) ?_
            refine wp_ret_bd ?_
            refine wp_ifp qf_77 ?_
            refine wp_rs_bd ?_
            refine wp_rs_bdc ?_
            refine wp_ifp qf_78 ?_
            refine wp_ret_bd ?_
            refine wp_gd qf_0 ?_
            refine wp_lt (xsk qf_1 hy1) ?_
            refine wp_gd qf_2 ?_
            refine wp_lt (xsk qf_3 hy2) ?_
            refine wp_gd ql_K_149 ?_
            refine wp_bd ?_
            refine wp_of (f_X13_between.eq_1 ..) ?_
            refine wp_bd ?_
            refine wp_of (f_X13_isDeck.eq_1 ..) ?_
            refine wp_bd ?_
            refine wp_of (f_X13_isBetween.eq_1 ..) ?_
            refine wp_ifn qf_28 ?_
            refine wp_ifn qf_43 ?_
            refine wp_of (f_X13_isBetween_15.eq_1 ..) ?_
            refine wp_gd qf_18 ?_
            refine wp_ret_bd ?_
            refine wp_gd qf_18 ?_
            refine wp_ret_bd ?_
            refine wp_ifn qf_19 ?_
            refine wp_bd ?_
            refine wp_of (f_X13_isDeck.eq_1 ..) ?_
            refine wp_bd ?_
            refine wp_of (f_X13_isBetween.eq_1 ..) ?_
            refine wp_ifn c3 ?_
            refine wp_ifp (show ((3 : Int32) < y2) from by have e0 := qf_80; have e1 := qf_83; have e2 := qf_84; simp only [Int32.lt_iff_toInt_lt, Int32.le_iff_toInt_le, ← Int32.toInt_inj] at c3 c4 ⊢; omega) ?_
            refine wp_of (f_X13_isBetween_14.eq_1 ..) ?_
            refine wp_of (f_X13_isBetween_15.eq_1 ..) ?_
            refine wp_gd qf_14 ?_
            refine wp_ret_bd ?_
            refine wp_gd qf_14 ?_
            refine wp_ret_bd ?_
            refine wp_ifp qf_15 ?_
            refine wp_of (f_X13_between_15.eq_1 ..) ?_
            refine wp_of (f_X13_between_40.eq_1 ..) ?_
            refine wp_gd ql_K_149 ?_
            refine wp_bd ?_
            refine wp_of (f_X13_isWrong.eq_1 ..) ?_
            refine wp_gd ql_K_149 ?_
            refine wp_zI ?_
            refine wp_ifn qf_17 ?_
            refine wp_of (f_X13_isWrong_14.eq_1 ..) ?_
            refine wp_gd qf_18 ?_
            refine wp_ret_bd ?_
            refine wp_ifn qf_19 ?_
            refine wp_of (f_X13_between_65.eq_1 ..) ?_
            refine wp_ret_bd ?_
            refine wp_gd ql_K_149 ?_
            refine wp_bd ?_
            refine wp_of (f_X13_thrown.eq_1 ..) ?_
            refine wp_gd ql_K_149 ?_
            refine wp_lt gI_s ?_
            refine wp_ret_bd ?_
            refine wp_ifp qf_20 ?_
            refine wp_ifn qf_19 ?_
            refine wp_of (f_L_law_2449.eq_1 ..) ?_
            refine wp_of (f_L_law_3632.eq_1 ..) ?_
            refine wp_lt qf_21 ?_
            exact hrc _
          · skip
            refine wp_lt ql_R_2_1 ?_
            refine wp_gd ql_K_16 ?_
            rcases (show y2 = (0 : Int32) ∨ y2 = (1 : Int32) ∨ y2 = (2 : Int32) ∨ y2 = (3 : Int32) from by have e0 := qf_80; have e1 := qf_85; have e2 := qf_86; have e3 := qf_83; have e4 := qf_84; simp only [Int32.lt_iff_toInt_lt, Int32.le_iff_toInt_le] at c3 c4; simp only [← Int32.toInt_inj]; omega) with rfl | rfl | rfl | rfl
            · skip
              refine wp_gd (gZi ql_Z_16 qf_87) ?_
              refine wp_lt (gRk qf_32 ql_R_16_0) ?_
              refine wp_of (f_X8_deckAt_23.eq_1 ..) ?_
              refine wp_ret_bd ?_
              refine wp_ifn qf_88 ?_
              refine wp_ret_bd ?_
              refine wp_bd ?_
              refine wp_of (f_X10_demandRecord.eq_1 ..) ?_
              refine wp_gd ql_K_17 ?_
              refine wp_lt ql_R_17_2 ?_
              refine wp_ifp qf_77 ?_
              refine wp_rs_bd ?_
              refine wp_rs_bdc ?_
              refine wp_ifn qf_98 ?_
              refine wp_ifp qf_99 ?_
              refine wp_ret_bd ?_
              refine wp_gd qf_0 ?_
              refine wp_lt (xsk qf_1 hy1) ?_
              refine wp_gd qf_2 ?_
              refine wp_lt (xsk qf_3 hy2) ?_
              refine wp_gd ql_K_149 ?_
              refine wp_bd ?_
              refine wp_of (f_X13_between.eq_1 ..) ?_
              refine wp_bd ?_
              refine wp_of (f_X13_isDeck.eq_1 ..) ?_
              refine wp_bd ?_
              refine wp_of (f_X13_isBetween.eq_1 ..) ?_
              refine wp_ifn qf_28 ?_
              refine wp_ifn qf_43 ?_
              refine wp_of (f_X13_isBetween_15.eq_1 ..) ?_
              refine wp_gd qf_18 ?_
              refine wp_ret_bd ?_
              refine wp_gd qf_18 ?_
              refine wp_ret_bd ?_
              refine wp_ifn qf_19 ?_
              refine wp_bd ?_
              refine wp_of (f_X13_isDeck.eq_1 ..) ?_
              refine wp_bd ?_
              refine wp_of (f_X13_isBetween.eq_1 ..) ?_
              refine wp_ifn qf_28 ?_
              refine wp_ifn qf_43 ?_
              refine wp_of (f_X13_isBetween_15.eq_1 ..) ?_
              refine wp_gd qf_18 ?_
              refine wp_ret_bd ?_
              refine wp_gd qf_18 ?_
              refine wp_ret_bd ?_
              refine wp_ifn qf_19 ?_
              refine wp_gd ql_K_149 ?_
              refine wp_bd ?_
              refine wp_of (f_X13_isEmpty.eq_1 ..) ?_
              refine wp_gd ql_K_149 ?_
              refine wp_lt ql_R_149_2 ?_
              refine wp_gd ql_K_151 ?_
              refine wp_gd (gZi ql_Z_151 qf_87) ?_
              refine wp_lt (gRk qf_32 ql_R_151_0) ?_
              refine wp_gd ql_K_152 ?_
              refine wp_lt ql_R_152_0 ?_
              refine wp_ifp qf_77 ?_
              refine wp_of (f_X13_isEmpty_17.eq_1 ..) ?_
              refine wp_gd qf_18 ?_
              refine wp_ret_bd ?_
              refine wp_ifn qf_19 ?_
              refine wp_of (f_X13_between_35.eq_1 ..) ?_
              refine wp_of (f_X13_between_40.eq_1 ..) ?_
              refine wp_gd ql_K_149 ?_
              refine wp_bd ?_
              refine wp_of (f_X13_isWrong.eq_1 ..) ?_
              refine wp_gd ql_K_149 ?_
              refine wp_zI ?_
              refine wp_ifn qf_100 ?_
              refine wp_of (f_X13_isWrong_14.eq_1 ..) ?_
              refine wp_gd qf_18 ?_
              refine wp_ret_bd ?_
              refine wp_ifn qf_19 ?_
              refine wp_of (f_X13_between_65.eq_1 ..) ?_
              refine wp_ret_bd ?_
              refine wp_gd ql_K_149 ?_
              refine wp_bd ?_
              refine wp_of (f_X13_thrown.eq_1 ..) ?_
              refine wp_gd ql_K_149 ?_
              refine wp_lt gI_s ?_
              refine wp_ret_bd ?_
              refine wp_ifp qf_101 ?_
              refine wp_ifn qf_102 ?_
              refine wp_of (f_L_law_2449.eq_1 ..) ?_
              refine wp_of (f_L_law_3632.eq_1 ..) ?_
              refine wp_lt qf_21 ?_
              exact hrc _
            · skip
              refine wp_gd (gZi ql_Z_16 qf_89) ?_
              refine wp_lt (gRk qf_36 ql_R_16_1) ?_
              refine wp_of (f_X8_deckAt_23.eq_1 ..) ?_
              refine wp_ret_bd ?_
              refine wp_ifn qf_90 ?_
              refine wp_ret_bd ?_
              refine wp_bd ?_
              refine wp_of (f_X10_demandRecord.eq_1 ..) ?_
              refine wp_gd ql_K_17 ?_
              refine wp_lt ql_R_17_2 ?_
              refine wp_ifp qf_77 ?_
              refine wp_rs_bd ?_
              refine wp_rs_bdc ?_
              refine wp_ifn qf_98 ?_
              refine wp_ifp qf_99 ?_
              refine wp_ret_bd ?_
              refine wp_gd qf_0 ?_
              refine wp_lt (xsk qf_1 hy1) ?_
              refine wp_gd qf_2 ?_
              refine wp_lt (xsk qf_3 hy2) ?_
              refine wp_gd ql_K_149 ?_
              refine wp_bd ?_
              refine wp_of (f_X13_between.eq_1 ..) ?_
              refine wp_bd ?_
              refine wp_of (f_X13_isDeck.eq_1 ..) ?_
              refine wp_bd ?_
              refine wp_of (f_X13_isBetween.eq_1 ..) ?_
              refine wp_ifn qf_28 ?_
              refine wp_ifn qf_43 ?_
              refine wp_of (f_X13_isBetween_15.eq_1 ..) ?_
              refine wp_gd qf_18 ?_
              refine wp_ret_bd ?_
              refine wp_gd qf_18 ?_
              refine wp_ret_bd ?_
              refine wp_ifn qf_19 ?_
              refine wp_bd ?_
              refine wp_of (f_X13_isDeck.eq_1 ..) ?_
              refine wp_bd ?_
              refine wp_of (f_X13_isBetween.eq_1 ..) ?_
              refine wp_ifn qf_33 ?_
              refine wp_ifn qf_91 ?_
              refine wp_of (f_X13_isBetween_15.eq_1 ..) ?_
              refine wp_gd qf_18 ?_
              refine wp_ret_bd ?_
              refine wp_gd qf_18 ?_
              refine wp_ret_bd ?_
              refine wp_ifn qf_19 ?_
              refine wp_gd ql_K_149 ?_
              refine wp_bd ?_
              refine wp_of (f_X13_isEmpty.eq_1 ..) ?_
              refine wp_gd ql_K_149 ?_
              refine wp_lt ql_R_149_2 ?_
              refine wp_gd ql_K_151 ?_
              refine wp_gd (gZi ql_Z_151 qf_87) ?_
              refine wp_lt (gRk qf_32 ql_R_151_0) ?_
              refine wp_gd ql_K_152 ?_
              refine wp_lt ql_R_152_0 ?_
              refine wp_ifp qf_77 ?_
              refine wp_of (f_X13_isEmpty_17.eq_1 ..) ?_
              refine wp_gd qf_18 ?_
              refine wp_ret_bd ?_
              refine wp_ifn qf_19 ?_
              refine wp_of (f_X13_between_35.eq_1 ..) ?_
              refine wp_of (f_X13_between_40.eq_1 ..) ?_
              refine wp_gd ql_K_149 ?_
              refine wp_bd ?_
              refine wp_of (f_X13_isWrong.eq_1 ..) ?_
              refine wp_gd ql_K_149 ?_
              refine wp_zI ?_
              refine wp_ifn qf_100 ?_
              refine wp_of (f_X13_isWrong_14.eq_1 ..) ?_
              refine wp_gd qf_18 ?_
              refine wp_ret_bd ?_
              refine wp_ifn qf_19 ?_
              refine wp_of (f_X13_between_65.eq_1 ..) ?_
              refine wp_ret_bd ?_
              refine wp_gd ql_K_149 ?_
              refine wp_bd ?_
              refine wp_of (f_X13_thrown.eq_1 ..) ?_
              refine wp_gd ql_K_149 ?_
              refine wp_lt gI_s ?_
              refine wp_ret_bd ?_
              refine wp_ifp qf_101 ?_
              refine wp_ifn qf_102 ?_
              refine wp_of (f_L_law_2449.eq_1 ..) ?_
              refine wp_of (f_L_law_3632.eq_1 ..) ?_
              refine wp_lt qf_21 ?_
              exact hrc _
            · skip
              refine wp_gd (gZi ql_Z_16 qf_92) ?_
              refine wp_lt (gRk qf_41 ql_R_16_2) ?_
              refine wp_of (f_X8_deckAt_23.eq_1 ..) ?_
              refine wp_ret_bd ?_
              refine wp_ifn qf_93 ?_
              refine wp_ret_bd ?_
              refine wp_bd ?_
              refine wp_of (f_X10_demandRecord.eq_1 ..) ?_
              refine wp_gd ql_K_17 ?_
              refine wp_lt ql_R_17_2 ?_
              refine wp_ifp qf_77 ?_
              refine wp_rs_bd ?_
              refine wp_rs_bdc ?_
              refine wp_ifn qf_98 ?_
              refine wp_ifp qf_99 ?_
              refine wp_ret_bd ?_
              refine wp_gd qf_0 ?_
              refine wp_lt (xsk qf_1 hy1) ?_
              refine wp_gd qf_2 ?_
              refine wp_lt (xsk qf_3 hy2) ?_
              refine wp_gd ql_K_149 ?_
              refine wp_bd ?_
              refine wp_of (f_X13_between.eq_1 ..) ?_
              refine wp_bd ?_
              refine wp_of (f_X13_isDeck.eq_1 ..) ?_
              refine wp_bd ?_
              refine wp_of (f_X13_isBetween.eq_1 ..) ?_
              refine wp_ifn qf_28 ?_
              refine wp_ifn qf_43 ?_
              refine wp_of (f_X13_isBetween_15.eq_1 ..) ?_
              refine wp_gd qf_18 ?_
              refine wp_ret_bd ?_
              refine wp_gd qf_18 ?_
              refine wp_ret_bd ?_
              refine wp_ifn qf_19 ?_
              refine wp_bd ?_
              refine wp_of (f_X13_isDeck.eq_1 ..) ?_
              refine wp_bd ?_
              refine wp_of (f_X13_isBetween.eq_1 ..) ?_
              refine wp_ifn qf_38 ?_
              refine wp_ifn qf_94 ?_
              refine wp_of (f_X13_isBetween_15.eq_1 ..) ?_
              refine wp_gd qf_18 ?_
              refine wp_ret_bd ?_
              refine wp_gd qf_18 ?_
              refine wp_ret_bd ?_
              refine wp_ifn qf_19 ?_
              refine wp_gd ql_K_149 ?_
              refine wp_bd ?_
              refine wp_of (f_X13_isEmpty.eq_1 ..) ?_
              refine wp_gd ql_K_149 ?_
              refine wp_lt ql_R_149_2 ?_
              refine wp_gd ql_K_151 ?_
              refine wp_gd (gZi ql_Z_151 qf_87) ?_
              refine wp_lt (gRk qf_32 ql_R_151_0) ?_
              refine wp_gd ql_K_152 ?_
              refine wp_lt ql_R_152_0 ?_
              refine wp_ifp qf_77 ?_
              refine wp_of (f_X13_isEmpty_17.eq_1 ..) ?_
              refine wp_gd qf_18 ?_
              refine wp_ret_bd ?_
              refine wp_ifn qf_19 ?_
              refine wp_of (f_X13_between_35.eq_1 ..) ?_
              refine wp_of (f_X13_between_40.eq_1 ..) ?_
              refine wp_gd ql_K_149 ?_
              refine wp_bd ?_
              refine wp_of (f_X13_isWrong.eq_1 ..) ?_
              refine wp_gd ql_K_149 ?_
              refine wp_zI ?_
              refine wp_ifn qf_100 ?_
              refine wp_of (f_X13_isWrong_14.eq_1 ..) ?_
              refine wp_gd qf_18 ?_
              refine wp_ret_bd ?_
              refine wp_ifn qf_19 ?_
              refine wp_of (f_X13_between_65.eq_1 ..) ?_
              refine wp_ret_bd ?_
              refine wp_gd ql_K_149 ?_
              refine wp_bd ?_
              refine wp_of (f_X13_thrown.eq_1 ..) ?_
              refine wp_gd ql_K_149 ?_
              refine wp_lt gI_s ?_
              refine wp_ret_bd ?_
              refine wp_ifp qf_101 ?_
              refine wp_ifn qf_102 ?_
              refine wp_of (f_L_law_2449.eq_1 ..) ?_
              refine wp_of (f_L_law_3632.eq_1 ..) ?_
              refine wp_lt qf_21 ?_
              exact hrc _
            · skip
              refine wp_gd (gZi ql_Z_16 qf_95) ?_
              refine wp_lt (gRk qf_46 ql_R_16_3) ?_
              refine wp_of (f_X8_deckAt_23.eq_1 ..) ?_
              refine wp_ret_bd ?_
              refine wp_ifn qf_96 ?_
              refine wp_ret_bd ?_
              refine wp_bd ?_
              refine wp_of (f_X10_demandRecord.eq_1 ..) ?_
              refine wp_gd ql_K_17 ?_
              refine wp_lt ql_R_17_2 ?_
              refine wp_ifp qf_77 ?_
              refine wp_rs_bd ?_
              refine wp_rs_bdc ?_
              refine wp_ifn qf_98 ?_
              refine wp_ifp qf_99 ?_
              refine wp_ret_bd ?_
              refine wp_gd qf_0 ?_
              refine wp_lt (xsk qf_1 hy1) ?_
              refine wp_gd qf_2 ?_
              refine wp_lt (xsk qf_3 hy2) ?_
              refine wp_gd ql_K_149 ?_
              refine wp_bd ?_
              refine wp_of (f_X13_between.eq_1 ..) ?_
              refine wp_bd ?_
              refine wp_of (f_X13_isDeck.eq_1 ..) ?_
              refine wp_bd ?_
              refine wp_of (f_X13_isBetween.eq_1 ..) ?_
              refine wp_ifn qf_28 ?_
              refine wp_ifn qf_43 ?_
              refine wp_of (f_X13_isBetween_15.eq_1 ..) ?_
              refine wp_gd qf_18 ?_
              refine wp_ret_bd ?_
              refine wp_gd qf_18 ?_
              refine wp_ret_bd ?_
              refine wp_ifn qf_19 ?_
              refine wp_bd ?_
              refine wp_of (f_X13_isDeck.eq_1 ..) ?_
              refine wp_bd ?_
              refine wp_of (f_X13_isBetween.eq_1 ..) ?_
              refine wp_ifn qf_43 ?_
              refine wp_ifn qf_97 ?_
              refine wp_of (f_X13_isBetween_15.eq_1 ..) ?_
              refine wp_gd qf_18 ?_
              refine wp_ret_bd ?_
              refine wp_gd qf_18 ?_
              refine wp_ret_bd ?_
              refine wp_ifn qf_19 ?_
              refine wp_gd ql_K_149 ?_
              refine wp_bd ?_
              refine wp_of (f_X13_isEmpty.eq_1 ..) ?_
              refine wp_gd ql_K_149 ?_
              refine wp_lt ql_R_149_2 ?_
              refine wp_gd ql_K_151 ?_
              refine wp_gd (gZi ql_Z_151 qf_87) ?_
              refine wp_lt (gRk qf_32 ql_R_151_0) ?_
              refine wp_gd ql_K_152 ?_
              refine wp_lt ql_R_152_0 ?_
              refine wp_ifp qf_77 ?_
              refine wp_of (f_X13_isEmpty_17.eq_1 ..) ?_
              refine wp_gd qf_18 ?_
              refine wp_ret_bd ?_
              refine wp_ifn qf_19 ?_
              refine wp_of (f_X13_between_35.eq_1 ..) ?_
              refine wp_of (f_X13_between_40.eq_1 ..) ?_
              refine wp_gd ql_K_149 ?_
              refine wp_bd ?_
              refine wp_of (f_X13_isWrong.eq_1 ..) ?_
              refine wp_gd ql_K_149 ?_
              refine wp_zI ?_
              refine wp_ifn qf_100 ?_
              refine wp_of (f_X13_isWrong_14.eq_1 ..) ?_
              refine wp_gd qf_18 ?_
              refine wp_ret_bd ?_
              refine wp_ifn qf_19 ?_
              refine wp_of (f_X13_between_65.eq_1 ..) ?_
              refine wp_ret_bd ?_
              refine wp_gd ql_K_149 ?_
              refine wp_bd ?_
              refine wp_of (f_X13_thrown.eq_1 ..) ?_
              refine wp_gd ql_K_149 ?_
              refine wp_lt gI_s ?_
              refine wp_ret_bd ?_
              refine wp_ifp qf_101 ?_
              refine wp_ifn qf_102 ?_
              refine wp_of (f_L_law_2449.eq_1 ..) ?_
              refine wp_of (f_L_law_3632.eq_1 ..) ?_
              refine wp_lt qf_21 ?_
              exact hrc _
      · skip
        refine wp_gd (gZi ql_Z_16 qf_89) ?_
        refine wp_lt (gRk qf_36 ql_R_16_1) ?_
        refine wp_of (f_X8_deckAt_23.eq_1 ..) ?_
        refine wp_ret_bd ?_
        refine wp_ifn qf_90 ?_
        refine wp_ret_bd ?_
        refine wp_gd ql_K_1 ?_
        refine wp_bd ?_
        refine wp_of (f_X10_deckOf.eq_1 ..) ?_
        refine wp_gd ql_K_1 ?_
        refine wp_lt ql_R_1_0 ?_
        refine wp_gd ql_K_2 ?_
        refine wp_bd ?_
        refine wp_of (f_X8_deckAt.eq_1 ..) ?_
        refine wp_if (fun c3 => ?_) (fun c3 => ?_)
        · skip
          refine wp_of (f_X8_deckAt_22.eq_1 ..) ?_
          refine wp_of (f_X8_deckAt_23.eq_1 ..) ?_
          refine wp_ret_bd ?_
          refine wp_ifp qf_77 ?_
          refine wp_rs_bd ?_
          refine wp_rs_bdc ?_
          refine wp_ifp qf_78 ?_
          refine wp_ret_bd ?_
          refine wp_gd qf_0 ?_
          refine wp_lt (xsk qf_1 hy1) ?_
          refine wp_gd qf_2 ?_
          refine wp_lt (xsk qf_3 hy2) ?_
          refine wp_gd ql_K_149 ?_
          refine wp_bd ?_
          refine wp_of (f_X13_between.eq_1 ..) ?_
          refine wp_bd ?_
          refine wp_of (f_X13_isDeck.eq_1 ..) ?_
          refine wp_bd ?_
          refine wp_of (f_X13_isBetween.eq_1 ..) ?_
          refine wp_ifn qf_33 ?_
          refine wp_ifn qf_91 ?_
          refine wp_of (f_X13_isBetween_15.eq_1 ..) ?_
          refine wp_gd qf_18 ?_
          refine wp_ret_bd ?_
          refine wp_gd qf_18 ?_
          refine wp_ret_bd ?_
          refine wp_ifn qf_19 ?_
          refine wp_bd ?_
          refine wp_of (f_X13_isDeck.eq_1 ..) ?_
          refine wp_bd ?_
          refine wp_of (f_X13_isBetween.eq_1 ..) ?_
          refine wp_ifp c3 ?_
          refine wp_of (f_X13_isBetween_14.eq_1 ..) ?_
          refine wp_of (f_X13_isBetween_15.eq_1 ..) ?_
          refine wp_gd qf_14 ?_
          refine wp_ret_bd ?_
          refine wp_gd qf_14 ?_
          refine wp_ret_bd ?_
          refine wp_ifp qf_15 ?_
          refine wp_of (f_X13_between_15.eq_1 ..) ?_
          refine wp_of (f_X13_between_40.eq_1 ..) ?_
          refine wp_gd ql_K_149 ?_
          refine wp_bd ?_
          refine wp_of (f_X13_isWrong.eq_1 ..) ?_
          refine wp_gd ql_K_149 ?_
          refine wp_zI ?_
          refine wp_ifn qf_17 ?_
          refine wp_of (f_X13_isWrong_14.eq_1 ..) ?_
          refine wp_gd qf_18 ?_
          refine wp_ret_bd ?_
          refine wp_ifn qf_19 ?_
          refine wp_of (f_X13_between_65.eq_1 ..) ?_
          refine wp_ret_bd ?_
          refine wp_gd ql_K_149 ?_
          refine wp_bd ?_
          refine wp_of (f_X13_thrown.eq_1 ..) ?_
          refine wp_gd ql_K_149 ?_
          refine wp_lt gI_s ?_
          refine wp_ret_bd ?_
          refine wp_ifp qf_20 ?_
          refine wp_ifn qf_19 ?_
          refine wp_of (f_L_law_2449.eq_1 ..) ?_
          refine wp_of (f_L_law_3632.eq_1 ..) ?_
          refine wp_lt qf_21 ?_
          exact hrc _
        · skip
          refine wp_gd ql_K_2 ?_
          refine wp_lt ql_R_2_1 ?_
          refine wp_gd ql_K_16 ?_
          refine wp_lt (gZo ql_Z_16 qf_82) ?_
          refine wp_if (fun c4 => ?_) (fun c4 => ?_)
          · skip
            refine wp_of (f_X8_deckAt_22.eq_1 ..) ?_
            refine wp_of (f_X8_deckAt_23.eq_1 ..) ?_
            refine wp_ret_bd ?_
            refine wp_ifp qf_77 ?_
            refine wp_rs_bd ?_
            refine wp_rs_bdc ?_
            refine wp_ifp qf_78 ?_
            refine wp_ret_bd ?_
            refine wp_gd qf_0 ?_
            refine wp_lt (xsk qf_1 hy1) ?_
            refine wp_gd qf_2 ?_
            refine wp_lt (xsk qf_3 hy2) ?_
            refine wp_gd ql_K_149 ?_
            refine wp_bd ?_
            refine wp_of (f_X13_between.eq_1 ..) ?_
            refine wp_bd ?_
            refine wp_of (f_X13_isDeck.eq_1 ..) ?_
            refine wp_bd ?_
            refine wp_of (f_X13_isBetween.eq_1 ..) ?_
            refine wp_ifn qf_33 ?_
            refine wp_ifn qf_91 ?_
            refine wp_of (f_X13_isBetween_15.eq_1 ..) ?_
            refine wp_gd qf_18 ?_
            refine wp_ret_bd ?_
            refine wp_gd qf_18 ?_
            refine wp_ret_bd ?_
            refine wp_ifn qf_19 ?_
            refine wp_bd ?_
            refine wp_of (f_X13_isDeck.eq_1 ..) ?_
            refine wp_bd ?_
            refine wp_of (f_X13_isBetween.eq_1 ..) ?_
            refine wp_ifn c3 ?_
            refine wp_ifp (show ((3 : Int32) < y2) from by have e0 := qf_80; have e1 := qf_83; have e2 := qf_84; simp only [Int32.lt_iff_toInt_lt, Int32.le_iff_toInt_le, ← Int32.toInt_inj] at c3 c4 ⊢; omega) ?_
            refine wp_of (f_X13_isBetween_14.eq_1 ..) ?_
            refine wp_of (f_X13_isBetween_15.eq_1 ..) ?_
            refine wp_gd qf_14 ?_
            refine wp_ret_bd ?_
            refine wp_gd qf_14 ?_
            refine wp_ret_bd ?_
            refine wp_ifp qf_15 ?_
            refine wp_of (f_X13_between_15.eq_1 ..) ?_
            refine wp_of (f_X13_between_40.eq_1 ..) ?_
            refine wp_gd ql_K_149 ?_
            refine wp_bd ?_
            refine wp_of (f_X13_isWrong.eq_1 ..) ?_
            refine wp_gd ql_K_149 ?_
            refine wp_zI ?_
            refine wp_ifn qf_17 ?_
            refine wp_of (f_X13_isWrong_14.eq_1 ..) ?_
            refine wp_gd qf_18 ?_
            refine wp_ret_bd ?_
            refine wp_ifn qf_19 ?_
            refine wp_of (f_X13_between_65.eq_1 ..) ?_
            refine wp_ret_bd ?_
            refine wp_gd ql_K_149 ?_
            refine wp_bd ?_
            refine wp_of (f_X13_thrown.eq_1 ..) ?_
            refine wp_gd ql_K_149 ?_
            refine wp_lt gI_s ?_
            refine wp_ret_bd ?_
            refine wp_ifp qf_20 ?_
            refine wp_ifn qf_19 ?_
            refine wp_of (f_L_law_2449.eq_1 ..) ?_
            refine wp_of (f_L_law_3632.eq_1 ..) ?_
            refine wp_lt qf_21 ?_
            exact hrc _
          · skip
            refine wp_lt ql_R_2_1 ?_
            refine wp_gd ql_K_16 ?_
            rcases (show y2 = (0 : Int32) ∨ y2 = (1 : Int32) ∨ y2 = (2 : Int32) ∨ y2 = (3 : Int32) from by have e0 := qf_80; have e1 := qf_85; have e2 := qf_86; have e3 := qf_83; have e4 := qf_84; simp only [Int32.lt_iff_toInt_lt, Int32.le_iff_toInt_le] at c3 c4; simp only [← Int32.toInt_inj]; omega) with rfl | rfl | rfl | rfl
            · skip
              refine wp_gd (gZi ql_Z_16 qf_87) ?_
              refine wp_lt (gRk qf_32 ql_R_16_0) ?_
              refine wp_of (f_X8_deckAt_23.eq_1 ..) ?_
              refine wp_ret_bd ?_
              refine wp_ifn qf_88 ?_
              refine wp_ret_bd ?_
              refine wp_bd ?_
              refine wp_of (f_X10_demandRecord.eq_1 ..) ?_
              refine wp_gd ql_K_25 ?_
              refine wp_lt ql_R_25_2 ?_
              refine wp_ifp qf_77 ?_
              refine wp_rs_bd ?_
              refine wp_rs_bdc ?_
              refine wp_ifn qf_98 ?_
              refine wp_ifp qf_99 ?_
              refine wp_ret_bd ?_
              refine wp_gd qf_0 ?_
              refine wp_lt (xsk qf_1 hy1) ?_
              refine wp_gd qf_2 ?_
              refine wp_lt (xsk qf_3 hy2) ?_
              refine wp_gd ql_K_149 ?_
              refine wp_bd ?_
              refine wp_of (f_X13_between.eq_1 ..) ?_
              refine wp_bd ?_
              refine wp_of (f_X13_isDeck.eq_1 ..) ?_
              refine wp_bd ?_
              refine wp_of (f_X13_isBetween.eq_1 ..) ?_
              refine wp_ifn qf_33 ?_
              refine wp_ifn qf_91 ?_
              refine wp_of (f_X13_isBetween_15.eq_1 ..) ?_
              refine wp_gd qf_18 ?_
              refine wp_ret_bd ?_
              refine wp_gd qf_18 ?_
              refine wp_ret_bd ?_
              refine wp_ifn qf_19 ?_
              refine wp_bd ?_
              refine wp_of (f_X13_isDeck.eq_1 ..) ?_
              refine wp_bd ?_
              refine wp_of (f_X13_isBetween.eq_1 ..) ?_
              refine wp_ifn qf_28 ?_
              refine wp_ifn qf_43 ?_
              refine wp_of (f_X13_isBetween_15.eq_1 ..) ?_
              refine wp_gd qf_18 ?_
              refine wp_ret_bd ?_
              refine wp_gd qf_18 ?_
              refine wp_ret_bd ?_
              refine wp_ifn qf_19 ?_
              refine wp_gd ql_K_149 ?_
              refine wp_bd ?_
              refine wp_of (f_X13_isEmpty.eq_1 ..) ?_
              refine wp_gd ql_K_149 ?_
              refine wp_lt ql_R_149_2 ?_
              refine wp_gd ql_K_151 ?_
              refine wp_gd (gZi ql_Z_151 qf_89) ?_
              refine wp_lt (gRk qf_36 ql_R_151_1) ?_
              refine wp_gd ql_K_156 ?_
              refine wp_lt ql_R_156_0 ?_
              refine wp_ifp qf_77 ?_
              refine wp_of (f_X13_isEmpty_17.eq_1 ..) ?_
              refine wp_gd qf_18 ?_
              refine wp_ret_bd ?_
              refine wp_ifn qf_19 ?_
              refine wp_of (f_X13_between_35.eq_1 ..) ?_
              refine wp_of (f_X13_between_40.eq_1 ..) ?_
              refine wp_gd ql_K_149 ?_
              refine wp_bd ?_
              refine wp_of (f_X13_isWrong.eq_1 ..) ?_
              refine wp_gd ql_K_149 ?_
              refine wp_zI ?_
              refine wp_ifn qf_100 ?_
              refine wp_of (f_X13_isWrong_14.eq_1 ..) ?_
              refine wp_gd qf_18 ?_
              refine wp_ret_bd ?_
              refine wp_ifn qf_19 ?_
              refine wp_of (f_X13_between_65.eq_1 ..) ?_
              refine wp_ret_bd ?_
              refine wp_gd ql_K_149 ?_
              refine wp_bd ?_
              refine wp_of (f_X13_thrown.eq_1 ..) ?_
              refine wp_gd ql_K_149 ?_
              refine wp_lt gI_s ?_
              refine wp_ret_bd ?_
              refine wp_ifp qf_101 ?_
              refine wp_ifn qf_102 ?_
              refine wp_of (f_L_law_2449.eq_1 ..) ?_
              refine wp_of (f_L_law_3632.eq_1 ..) ?_
              refine wp_lt qf_21 ?_
              exact hrc _
            · skip
              refine wp_gd (gZi ql_Z_16 qf_89) ?_
              refine wp_lt (gRk qf_36 ql_R_16_1) ?_
              refine wp_of (f_X8_deckAt_23.eq_1 ..) ?_
              refine wp_ret_bd ?_
              refine wp_ifn qf_90 ?_
              refine wp_ret_bd ?_
              refine wp_bd ?_
              refine wp_of (f_X10_demandRecord.eq_1 ..) ?_
              refine wp_gd ql_K_25 ?_
              refine wp_lt ql_R_25_2 ?_
              refine wp_ifp qf_77 ?_
              refine wp_rs_bd ?_
              refine wp_rs_bdc ?_
              refine wp_ifn qf_98 ?_
              refine wp_ifp qf_99 ?_
              refine wp_ret_bd ?_
              refine wp_gd qf_0 ?_
              refine wp_lt (xsk qf_1 hy1) ?_
              refine wp_gd qf_2 ?_
              refine wp_lt (xsk qf_3 hy2) ?_
              refine wp_gd ql_K_149 ?_
              refine wp_bd ?_
              refine wp_of (f_X13_between.eq_1 ..) ?_
              refine wp_bd ?_
              refine wp_of (f_X13_isDeck.eq_1 ..) ?_
              refine wp_bd ?_
              refine wp_of (f_X13_isBetween.eq_1 ..) ?_
              refine wp_ifn qf_33 ?_
              refine wp_ifn qf_91 ?_
              refine wp_of (f_X13_isBetween_15.eq_1 ..) ?_
              refine wp_gd qf_18 ?_
              refine wp_ret_bd ?_
              refine wp_gd qf_18 ?_
              refine wp_ret_bd ?_
              refine wp_ifn qf_19 ?_
              refine wp_bd ?_
              refine wp_of (f_X13_isDeck.eq_1 ..) ?_
              refine wp_bd ?_
              refine wp_of (f_X13_isBetween.eq_1 ..) ?_
              refine wp_ifn qf_33 ?_
              refine wp_ifn qf_91 ?_
              refine wp_of (f_X13_isBetween_15.eq_1 ..) ?_
              refine wp_gd qf_18 ?_
              refine wp_ret_bd ?_
              refine wp_gd qf_18 ?_
              refine wp_ret_bd ?_
              refine wp_ifn qf_19 ?_
              refine wp_gd ql_K_149 ?_
              refine wp_bd ?_
              refine wp_of (f_X13_isEmpty.eq_1 ..) ?_
              refine wp_gd ql_K_149 ?_
              refine wp_lt ql_R_149_2 ?_
              refine wp_gd ql_K_151 ?_
              refine wp_gd (gZi ql_Z_151 qf_89) ?_
              refine wp_lt (gRk qf_36 ql_R_151_1) ?_
              refine wp_gd ql_K_156 ?_
              refine wp_lt ql_R_156_0 ?_
              refine wp_ifp qf_77 ?_
              refine wp_of (f_X13_isEmpty_17.eq_1 ..) ?_
              refine wp_gd qf_18 ?_
              refine wp_ret_bd ?_
              refine wp_ifn qf_19 ?_
              refine wp_of (f_X13_between_35.eq_1 ..) ?_
              refine wp_of (f_X13_between_40.eq_1 ..) ?_
              refine wp_gd ql_K_149 ?_
              refine wp_bd ?_
              refine wp_of (f_X13_isWrong.eq_1 ..) ?_
              refine wp_gd ql_K_149 ?_
              refine wp_zI ?_
              refine wp_ifn qf_100 ?_
              refine wp_of (f_X13_isWrong_14.eq_1 ..) ?_
              refine wp_gd qf_18 ?_
              refine wp_ret_bd ?_
              refine wp_ifn qf_19 ?_
              refine wp_of (f_X13_between_65.eq_1 ..) ?_
              refine wp_ret_bd ?_
              refine wp_gd ql_K_149 ?_
              refine wp_bd ?_
              refine wp_of (f_X13_thrown.eq_1 ..) ?_
              refine wp_gd ql_K_149 ?_
              refine wp_lt gI_s ?_
              refine wp_ret_bd ?_
              refine wp_ifp qf_101 ?_
              refine wp_ifn qf_102 ?_
              refine wp_of (f_L_law_2449.eq_1 ..) ?_
              refine wp_of (f_L_law_3632.eq_1 ..) ?_
              refine wp_lt qf_21 ?_
              exact hrc _
            · skip
              refine wp_gd (gZi ql_Z_16 qf_92) ?_
              refine wp_lt (gRk qf_41 ql_R_16_2) ?_
              refine wp_of (f_X8_deckAt_23.eq_1 ..) ?_
              refine wp_ret_bd ?_
              refine wp_ifn qf_93 ?_
              refine wp_ret_bd ?_
              refine wp_bd ?_
              refine wp_of (f_X10_demandRecord.eq_1 ..) ?_
              refine wp_gd ql_K_25 ?_
              refine wp_lt ql_R_25_2 ?_
              refine wp_ifp qf_77 ?_
              refine wp_rs_bd ?_
              refine wp_rs_bdc ?_
              refine wp_ifn qf_98 ?_
              refine wp_ifp qf_99 ?_
              refine wp_ret_bd ?_
              refine wp_gd qf_0 ?_
              refine wp_lt (xsk qf_1 hy1) ?_
              refine wp_gd qf_2 ?_
              refine wp_lt (xsk qf_3 hy2) ?_
              refine wp_gd ql_K_149 ?_
              refine wp_bd ?_
              refine wp_of (f_X13_between.eq_1 ..) ?_
              refine wp_bd ?_
              refine wp_of (f_X13_isDeck.eq_1 ..) ?_
              refine wp_bd ?_
              refine wp_of (f_X13_isBetween.eq_1 ..) ?_
              refine wp_ifn qf_33 ?_
              refine wp_ifn qf_91 ?_
              refine wp_of (f_X13_isBetween_15.eq_1 ..) ?_
              refine wp_gd qf_18 ?_
              refine wp_ret_bd ?_
              refine wp_gd qf_18 ?_
              refine wp_ret_bd ?_
              refine wp_ifn qf_19 ?_
              refine wp_bd ?_
              refine wp_of (f_X13_isDeck.eq_1 ..) ?_
              refine wp_bd ?_
              refine wp_of (f_X13_isBetween.eq_1 ..) ?_
              refine wp_ifn qf_38 ?_
              refine wp_ifn qf_94 ?_
              refine wp_of (f_X13_isBetween_15.eq_1 ..) ?_
              refine wp_gd qf_18 ?_
              refine wp_ret_bd ?_
              refine wp_gd qf_18 ?_
              refine wp_ret_bd ?_
              refine wp_ifn qf_19 ?_
              refine wp_gd ql_K_149 ?_
              refine wp_bd ?_
              refine wp_of (f_X13_isEmpty.eq_1 ..) ?_
              refine wp_gd ql_K_149 ?_
              refine wp_lt ql_R_149_2 ?_
              refine wp_gd ql_K_151 ?_
              refine wp_gd (gZi ql_Z_151 qf_89) ?_
              refine wp_lt (gRk qf_36 ql_R_151_1) ?_
              refine wp_gd ql_K_156 ?_
              refine wp_lt ql_R_156_0 ?_
              refine wp_ifp qf_77 ?_
              refine wp_of (f_X13_isEmpty_17.eq_1 ..) ?_
              refine wp_gd qf_18 ?_
              refine wp_ret_bd ?_
              refine wp_ifn qf_19 ?_
              refine wp_of (f_X13_between_35.eq_1 ..) ?_
              refine wp_of (f_X13_between_40.eq_1 ..) ?_
              refine wp_gd ql_K_149 ?_
              refine wp_bd ?_
              refine wp_of (f_X13_isWrong.eq_1 ..) ?_
              refine wp_gd ql_K_149 ?_
              refine wp_zI ?_
              refine wp_ifn qf_100 ?_
              refine wp_of (f_X13_isWrong_14.eq_1 ..) ?_
              refine wp_gd qf_18 ?_
              refine wp_ret_bd ?_
              refine wp_ifn qf_19 ?_
              refine wp_of (f_X13_between_65.eq_1 ..) ?_
              refine wp_ret_bd ?_
              refine wp_gd ql_K_149 ?_
              refine wp_bd ?_
              refine wp_of (f_X13_thrown.eq_1 ..) ?_
              refine wp_gd ql_K_149 ?_
              refine wp_lt gI_s ?_
              refine wp_ret_bd ?_
              refine wp_ifp qf_101 ?_
              refine wp_ifn qf_102 ?_
              refine wp_of (f_L_law_2449.eq_1 ..) ?_
              refine wp_of (f_L_law_3632.eq_1 ..) ?_
              refine wp_lt qf_21 ?_
              exact hrc _
            · skip
              refine wp_gd (gZi ql_Z_16 qf_95) ?_
              refine wp_lt (gRk qf_46 ql_R_16_3) ?_
              refine wp_of (f_X8_deckAt_23.eq_1 ..) ?_
              refine wp_ret_bd ?_
              refine wp_ifn qf_96 ?_
              refine wp_ret_bd ?_
              refine wp_bd ?_
              refine wp_of (f_X10_demandRecord.eq_1 ..) ?_
              refine wp_gd ql_K_25 ?_
              refine wp_lt ql_R_25_2 ?_
              refine wp_ifp qf_77 ?_
              refine wp_rs_bd ?_
              refine wp_rs_bdc ?_
              refine wp_ifn qf_98 ?_
              refine wp_ifp qf_99 ?_
              refine wp_ret_bd ?_
              refine wp_gd qf_0 ?_
              refine wp_lt (xsk qf_1 hy1) ?_
              refine wp_gd qf_2 ?_
              refine wp_lt (xsk qf_3 hy2) ?_
              refine wp_gd ql_K_149 ?_
              refine wp_bd ?_
              refine wp_of (f_X13_between.eq_1 ..) ?_
              refine wp_bd ?_
              refine wp_of (f_X13_isDeck.eq_1 ..) ?_
              refine wp_bd ?_
              refine wp_of (f_X13_isBetween.eq_1 ..) ?_
              refine wp_ifn qf_33 ?_
              refine wp_ifn qf_91 ?_
              refine wp_of (f_X13_isBetween_15.eq_1 ..) ?_
              refine wp_gd qf_18 ?_
              refine wp_ret_bd ?_
              refine wp_gd qf_18 ?_
              refine wp_ret_bd ?_
              refine wp_ifn qf_19 ?_
              refine wp_bd ?_
              refine wp_of (f_X13_isDeck.eq_1 ..) ?_
              refine wp_bd ?_
              refine wp_of (f_X13_isBetween.eq_1 ..) ?_
              refine wp_ifn qf_43 ?_
              refine wp_ifn qf_97 ?_
              refine wp_of (f_X13_isBetween_15.eq_1 ..) ?_
              refine wp_gd qf_18 ?_
              refine wp_ret_bd ?_
              refine wp_gd qf_18 ?_
              refine wp_ret_bd ?_
              refine wp_ifn qf_19 ?_
              refine wp_gd ql_K_149 ?_
              refine wp_bd ?_
              refine wp_of (f_X13_isEmpty.eq_1 ..) ?_
              refine wp_gd ql_K_149 ?_
              refine wp_lt ql_R_149_2 ?_
              refine wp_gd ql_K_151 ?_
              refine wp_gd (gZi ql_Z_151 qf_89) ?_
              refine wp_lt (gRk qf_36 ql_R_151_1) ?_
              refine wp_gd ql_K_156 ?_
              refine wp_lt ql_R_156_0 ?_
              refine wp_ifp qf_77 ?_
              refine wp_of (f_X13_isEmpty_17.eq_1 ..) ?_
              refine wp_gd qf_18 ?_
              refine wp_ret_bd ?_
              refine wp_ifn qf_19 ?_
              refine wp_of (f_X13_between_35.eq_1 ..) ?_
              refine wp_of (f_X13_between_40.eq_1 ..) ?_
              refine wp_gd ql_K_149 ?_
              refine wp_bd ?_
              refine wp_of (f_X13_isWrong.eq_1 ..) ?_
              refine wp_gd ql_K_149 ?_
              refine wp_zI ?_
              refine wp_ifn qf_100 ?_
              refine wp_of (f_X13_isWrong_14.eq_1 ..) ?_
              refine wp_gd qf_18 ?_
              refine wp_ret_bd ?_
              refine wp_ifn qf_19 ?_
              refine wp_of (f_X13_between_65.eq_1 ..) ?_
              refine wp_ret_bd ?_
              refine wp_gd ql_K_149 ?_
              refine wp_bd ?_
              refine wp_of (f_X13_thrown.eq_1 ..) ?_
              refine wp_gd ql_K_149 ?_
              refine wp_lt gI_s ?_
              refine wp_ret_bd ?_
              refine wp_ifp qf_101 ?_
              refine wp_ifn qf_102 ?_
              refine wp_of (f_L_law_2449.eq_1 ..) ?_
              refine wp_of (f_L_law_3632.eq_1 ..) ?_
              refine wp_lt qf_21 ?_
              exact hrc _
      · skip
        refine wp_gd (gZi ql_Z_16 qf_92) ?_
        refine wp_lt (gRk qf_41 ql_R_16_2) ?_
        refine wp_of (f_X8_deckAt_23.eq_1 ..) ?_
        refine wp_ret_bd ?_
        refine wp_ifn qf_93 ?_
        refine wp_ret_bd ?_
        refine wp_gd ql_K_1 ?_
        refine wp_bd ?_
        refine wp_of (f_X10_deckOf.eq_1 ..) ?_
        refine wp_gd ql_K_1 ?_
        refine wp_lt ql_R_1_0 ?_
        refine wp_gd ql_K_2 ?_
        refine wp_bd ?_
        refine wp_of (f_X8_deckAt.eq_1 ..) ?_
        refine wp_if (fun c3 => ?_) (fun c3 => ?_)
        · skip
          refine wp_of (f_X8_deckAt_22.eq_1 ..) ?_
          refine wp_of (f_X8_deckAt_23.eq_1 ..) ?_
          refine wp_ret_bd ?_
          refine wp_ifp qf_77 ?_
          refine wp_rs_bd ?_
          refine wp_rs_bdc ?_
          refine wp_ifp qf_78 ?_
          refine wp_ret_bd ?_
          refine wp_gd qf_0 ?_
          refine wp_lt (xsk qf_1 hy1) ?_
          refine wp_gd qf_2 ?_
          refine wp_lt (xsk qf_3 hy2) ?_
          refine wp_gd ql_K_149 ?_
          refine wp_bd ?_
          refine wp_of (f_X13_between.eq_1 ..) ?_
          refine wp_bd ?_
          refine wp_of (f_X13_isDeck.eq_1 ..) ?_
          refine wp_bd ?_
          refine wp_of (f_X13_isBetween.eq_1 ..) ?_
          refine wp_ifn qf_38 ?_
          refine wp_ifn qf_94 ?_
          refine wp_of (f_X13_isBetween_15.eq_1 ..) ?_
          refine wp_gd qf_18 ?_
          refine wp_ret_bd ?_
          refine wp_gd qf_18 ?_
          refine wp_ret_bd ?_
          refine wp_ifn qf_19 ?_
          refine wp_bd ?_
          refine wp_of (f_X13_isDeck.eq_1 ..) ?_
          refine wp_bd ?_
          refine wp_of (f_X13_isBetween.eq_1 ..) ?_
          refine wp_ifp c3 ?_
          refine wp_of (f_X13_isBetween_14.eq_1 ..) ?_
          refine wp_of (f_X13_isBetween_15.eq_1 ..) ?_
          refine wp_gd qf_14 ?_
          refine wp_ret_bd ?_
          refine wp_gd qf_14 ?_
          refine wp_ret_bd ?_
          refine wp_ifp qf_15 ?_
          refine wp_of (f_X13_between_15.eq_1 ..) ?_
          refine wp_of (f_X13_between_40.eq_1 ..) ?_
          refine wp_gd ql_K_149 ?_
          refine wp_bd ?_
          refine wp_of (f_X13_isWrong.eq_1 ..) ?_
          refine wp_gd ql_K_149 ?_
          refine wp_zI ?_
          refine wp_ifn qf_17 ?_
          refine wp_of (f_X13_isWrong_14.eq_1 ..) ?_
          refine wp_gd qf_18 ?_
          refine wp_ret_bd ?_
          refine wp_ifn qf_19 ?_
          refine wp_of (f_X13_between_65.eq_1 ..) ?_
          refine wp_ret_bd ?_
          refine wp_gd ql_K_149 ?_
          refine wp_bd ?_
          refine wp_of (f_X13_thrown.eq_1 ..) ?_
          refine wp_gd ql_K_149 ?_
          refine wp_lt gI_s ?_
          refine wp_ret_bd ?_
          refine wp_ifp qf_20 ?_
          refine wp_ifn qf_19 ?_
          refine wp_of (f_L_law_2449.eq_1 ..) ?_
          refine wp_of (f_L_law_3632.eq_1 ..) ?_
          refine wp_lt qf_21 ?_
          exact hrc _
        · skip
          refine wp_gd ql_K_2 ?_
          refine wp_lt ql_R_2_1 ?_
          refine wp_gd ql_K_16 ?_
          refine wp_lt (gZo ql_Z_16 qf_82) ?_
          refine wp_if (fun c4 => ?_) (fun c4 => ?_)
          · skip
            refine wp_of (f_X8_deckAt_22.eq_1 ..) ?_
            refine wp_of (f_X8_deckAt_23.eq_1 ..) ?_
            refine wp_ret_bd ?_
            refine wp_ifp qf_77 ?_
            refine wp_rs_bd ?_
            refine wp_rs_bdc ?_
            refine wp_ifp qf_78 ?_
            refine wp_ret_bd ?_
            refine wp_gd qf_0 ?_
            refine wp_lt (xsk qf_1 hy1) ?_
            refine wp_gd qf_2 ?_
            refine wp_lt (xsk qf_3 hy2) ?_
            refine wp_gd ql_K_149 ?_
            refine wp_bd ?_
            refine wp_of (f_X13_between.eq_1 ..) ?_
            refine wp_bd ?_
            refine wp_of (f_X13_isDeck.eq_1 ..) ?_
            refine wp_bd ?_
            refine wp_of (f_X13_isBetween.eq_1 ..) ?_
            refine wp_ifn qf_38 ?_
            refine wp_ifn qf_94 ?_
            refine wp_of (f_X13_isBetween_15.eq_1 ..) ?_
            refine wp_gd qf_18 ?_
            refine wp_ret_bd ?_
            refine wp_gd qf_18 ?_
            refine wp_ret_bd ?_
            refine wp_ifn qf_19 ?_
            refine wp_bd ?_
            refine wp_of (f_X13_isDeck.eq_1 ..) ?_
            refine wp_bd ?_
            refine wp_of (f_X13_isBetween.eq_1 ..) ?_
            refine wp_ifn c3 ?_
            refine wp_ifp (show ((3 : Int32) < y2) from by have e0 := qf_80; have e1 := qf_83; have e2 := qf_84; simp only [Int32.lt_iff_toInt_lt, Int32.le_iff_toInt_le, ← Int32.toInt_inj] at c3 c4 ⊢; omega) ?_
            refine wp_of (f_X13_isBetween_14.eq_1 ..) ?_
            refine wp_of (f_X13_isBetween_15.eq_1 ..) ?_
            refine wp_gd qf_14 ?_
            refine wp_ret_bd ?_
            refine wp_gd qf_14 ?_
            refine wp_ret_bd ?_
            refine wp_ifp qf_15 ?_
            refine wp_of (f_X13_between_15.eq_1 ..) ?_
            refine wp_of (f_X13_between_40.eq_1 ..) ?_
            refine wp_gd ql_K_149 ?_
            refine wp_bd ?_
            refine wp_of (f_X13_isWrong.eq_1 ..) ?_
            refine wp_gd ql_K_149 ?_
            refine wp_zI ?_
            refine wp_ifn qf_17 ?_
            refine wp_of (f_X13_isWrong_14.eq_1 ..) ?_
            refine wp_gd qf_18 ?_
            refine wp_ret_bd ?_
            refine wp_ifn qf_19 ?_
            refine wp_of (f_X13_between_65.eq_1 ..) ?_
            refine wp_ret_bd ?_
            refine wp_gd ql_K_149 ?_
            refine wp_bd ?_
            refine wp_of (f_X13_thrown.eq_1 ..) ?_
            refine wp_gd ql_K_149 ?_
            refine wp_lt gI_s ?_
            refine wp_ret_bd ?_
            refine wp_ifp qf_20 ?_
            refine wp_ifn qf_19 ?_
            refine wp_of (f_L_law_2449.eq_1 ..) ?_
            refine wp_of (f_L_law_3632.eq_1 ..) ?_
            refine wp_lt qf_21 ?_
            exact hrc _
          · skip
            refine wp_lt ql_R_2_1 ?_
            refine wp_gd ql_K_16 ?_
            rcases (show y2 = (0 : Int32) ∨ y2 = (1 : Int32) ∨ y2 = (2 : Int32) ∨ y2 = (3 : Int32) from by have e0 := qf_80; have e1 := qf_85; have e2 := qf_86; have e3 := qf_83; have e4 := qf_84; simp only [Int32.lt_iff_toInt_lt, Int32.le_iff_toInt_le] at c3 c4; simp only [← Int32.toInt_inj]; omega) with rfl | rfl | rfl | rfl
            · skip
              refine wp_gd (gZi ql_Z_16 qf_87) ?_
              refine wp_lt (gRk qf_32 ql_R_16_0) ?_
              refine wp_of (f_X8_deckAt_23.eq_1 ..) ?_
              refine wp_ret_bd ?_
              refine wp_ifn qf_88 ?_
              refine wp_ret_bd ?_
              refine wp_bd ?_
              refine wp_of (f_X10_demandRecord.eq_1 ..) ?_
              refine wp_gd ql_K_33 ?_
              refine wp_lt ql_R_33_2 ?_
              refine wp_ifp qf_77 ?_
              refine wp_rs_bd ?_
              refine wp_rs_bdc ?_
              refine wp_ifn qf_98 ?_
              refine wp_ifp qf_99 ?_
              refine wp_ret_bd ?_
              refine wp_gd qf_0 ?_
              refine wp_lt (xsk qf_1 hy1) ?_
              refine wp_gd qf_2 ?_
              refine wp_lt (xsk qf_3 hy2) ?_
              refine wp_gd ql_K_149 ?_
              refine wp_bd ?_
              refine wp_of (f_X13_between.eq_1 ..) ?_
              refine wp_bd ?_
              refine wp_of (f_X13_isDeck.eq_1 ..) ?_
              refine wp_bd ?_
              refine wp_of (f_X13_isBetween.eq_1 ..) ?_
              refine wp_ifn qf_38 ?_
              refine wp_ifn qf_94 ?_
              refine wp_of (f_X13_isBetween_15.eq_1 ..) ?_
              refine wp_gd qf_18 ?_
              refine wp_ret_bd ?_
              refine wp_gd qf_18 ?_
              refine wp_ret_bd ?_
              refine wp_ifn qf_19 ?_
              refine wp_bd ?_
              refine wp_of (f_X13_isDeck.eq_1 ..) ?_
              refine wp_bd ?_
              refine wp_of (f_X13_isBetween.eq_1 ..) ?_
              refine wp_ifn qf_28 ?_
              refine wp_ifn qf_43 ?_
              refine wp_of (f_X13_isBetween_15.eq_1 ..) ?_
              refine wp_gd qf_18 ?_
              refine wp_ret_bd ?_
              refine wp_gd qf_18 ?_
              refine wp_ret_bd ?_
              refine wp_ifn qf_19 ?_
              refine wp_gd ql_K_149 ?_
              refine wp_bd ?_
              refine wp_of (f_X13_isEmpty.eq_1 ..) ?_
              refine wp_gd ql_K_149 ?_
              refine wp_lt ql_R_149_2 ?_
              refine wp_gd ql_K_151 ?_
              refine wp_gd (gZi ql_Z_151 qf_92) ?_
              refine wp_lt (gRk qf_41 ql_R_151_2) ?_
              refine wp_gd ql_K_160 ?_
              refine wp_lt ql_R_160_0 ?_
              refine wp_ifp qf_77 ?_
              refine wp_of (f_X13_isEmpty_17.eq_1 ..) ?_
              refine wp_gd qf_18 ?_
              refine wp_ret_bd ?_
              refine wp_ifn qf_19 ?_
              refine wp_of (f_X13_between_35.eq_1 ..) ?_
              refine wp_of (f_X13_between_40.eq_1 ..) ?_
              refine wp_gd ql_K_149 ?_
              refine wp_bd ?_
              refine wp_of (f_X13_isWrong.eq_1 ..) ?_
              refine wp_gd ql_K_149 ?_
              refine wp_zI ?_
              refine wp_ifn qf_100 ?_
              refine wp_of (f_X13_isWrong_14.eq_1 ..) ?_
              refine wp_gd qf_18 ?_
              refine wp_ret_bd ?_
              refine wp_ifn qf_19 ?_
              refine wp_of (f_X13_between_65.eq_1 ..) ?_
              refine wp_ret_bd ?_
              refine wp_gd ql_K_149 ?_
              refine wp_bd ?_
              refine wp_of (f_X13_thrown.eq_1 ..) ?_
              refine wp_gd ql_K_149 ?_
              refine wp_lt gI_s ?_
              refine wp_ret_bd ?_
              refine wp_ifp qf_101 ?_
              refine wp_ifn qf_102 ?_
              refine wp_of (f_L_law_2449.eq_1 ..) ?_
              refine wp_of (f_L_law_3632.eq_1 ..) ?_
              refine wp_lt qf_21 ?_
              exact hrc _
            · skip
              refine wp_gd (gZi ql_Z_16 qf_89) ?_
              refine wp_lt (gRk qf_36 ql_R_16_1) ?_
              refine wp_of (f_X8_deckAt_23.eq_1 ..) ?_
              refine wp_ret_bd ?_
              refine wp_ifn qf_90 ?_
              refine wp_ret_bd ?_
              refine wp_bd ?_
              refine wp_of (f_X10_demandRecord.eq_1 ..) ?_
              refine wp_gd ql_K_33 ?_
              refine wp_lt ql_R_33_2 ?_
              refine wp_ifp qf_77 ?_
              refine wp_rs_bd ?_
              refine wp_rs_bdc ?_
              refine wp_ifn qf_98 ?_
              refine wp_ifp qf_99 ?_
              refine wp_ret_bd ?_
              refine wp_gd qf_0 ?_
              refine wp_lt (xsk qf_1 hy1) ?_
              refine wp_gd qf_2 ?_
              refine wp_lt (xsk qf_3 hy2) ?_
              refine wp_gd ql_K_149 ?_
              refine wp_bd ?_
              refine wp_of (f_X13_between.eq_1 ..) ?_
              refine wp_bd ?_
              refine wp_of (f_X13_isDeck.eq_1 ..) ?_
              refine wp_bd ?_
              refine wp_of (f_X13_isBetween.eq_1 ..) ?_
              refine wp_ifn qf_38 ?_
              refine wp_ifn qf_94 ?_
              refine wp_of (f_X13_isBetween_15.eq_1 ..) ?_
              refine wp_gd qf_18 ?_
              refine wp_ret_bd ?_
              refine wp_gd qf_18 ?_
              refine wp_ret_bd ?_
              refine wp_ifn qf_19 ?_
              refine wp_bd ?_
              refine wp_of (f_X13_isDeck.eq_1 ..) ?_
              refine wp_bd ?_
              refine wp_of (f_X13_isBetween.eq_1 ..) ?_
              refine wp_ifn qf_33 ?_
              refine wp_ifn qf_91 ?_
              refine wp_of (f_X13_isBetween_15.eq_1 ..) ?_
              refine wp_gd qf_18 ?_
              refine wp_ret_bd ?_
              refine wp_gd qf_18 ?_
              refine wp_ret_bd ?_
              refine wp_ifn qf_19 ?_
              refine wp_gd ql_K_149 ?_
              refine wp_bd ?_
              refine wp_of (f_X13_isEmpty.eq_1 ..) ?_
              refine wp_gd ql_K_149 ?_
              refine wp_lt ql_R_149_2 ?_
              refine wp_gd ql_K_151 ?_
              refine wp_gd (gZi ql_Z_151 qf_92) ?_
              refine wp_lt (gRk qf_41 ql_R_151_2) ?_
              refine wp_gd ql_K_160 ?_
              refine wp_lt ql_R_160_0 ?_
              refine wp_ifp qf_77 ?_
              refine wp_of (f_X13_isEmpty_17.eq_1 ..) ?_
              refine wp_gd qf_18 ?_
              refine wp_ret_bd ?_
              refine wp_ifn qf_19 ?_
              refine wp_of (f_X13_between_35.eq_1 ..) ?_
              refine wp_of (f_X13_between_40.eq_1 ..) ?_
              refine wp_gd ql_K_149 ?_
              refine wp_bd ?_
              refine wp_of (f_X13_isWrong.eq_1 ..) ?_
              refine wp_gd ql_K_149 ?_
              refine wp_zI ?_
              refine wp_ifn qf_100 ?_
              refine wp_of (f_X13_isWrong_14.eq_1 ..) ?_
              refine wp_gd qf_18 ?_
              refine wp_ret_bd ?_
              refine wp_ifn qf_19 ?_
              refine wp_of (f_X13_between_65.eq_1 ..) ?_
              refine wp_ret_bd ?_
              refine wp_gd ql_K_149 ?_
              refine wp_bd ?_
              refine wp_of (f_X13_thrown.eq_1 ..) ?_
              refine wp_gd ql_K_149 ?_
              refine wp_lt gI_s ?_
              refine wp_ret_bd ?_
              refine wp_ifp qf_101 ?_
              refine wp_ifn qf_102 ?_
              refine wp_of (f_L_law_2449.eq_1 ..) ?_
              refine wp_of (f_L_law_3632.eq_1 ..) ?_
              refine wp_lt qf_21 ?_
              exact hrc _
            · skip
              refine wp_gd (gZi ql_Z_16 qf_92) ?_
              refine wp_lt (gRk qf_41 ql_R_16_2) ?_
              refine wp_of (f_X8_deckAt_23.eq_1 ..) ?_
              refine wp_ret_bd ?_
              refine wp_ifn qf_93 ?_
              refine wp_ret_bd ?_
              refine wp_bd ?_
              refine wp_of (f_X10_demandRecord.eq_1 ..) ?_
              refine wp_gd ql_K_33 ?_
              refine wp_lt ql_R_33_2 ?_
              refine wp_ifp qf_77 ?_
              refine wp_rs_bd ?_
              refine wp_rs_bdc ?_
              refine wp_ifn qf_98 ?_
              refine wp_ifp qf_99 ?_
              refine wp_ret_bd ?_
              refine wp_gd qf_0 ?_
              refine wp_lt (xsk qf_1 hy1) ?_
              refine wp_gd qf_2 ?_
              refine wp_lt (xsk qf_3 hy2) ?_
              refine wp_gd ql_K_149 ?_
              refine wp_bd ?_
              refine wp_of (f_X13_between.eq_1 ..) ?_
              refine wp_bd ?_
              refine wp_of (f_X13_isDeck.eq_1 ..) ?_
              refine wp_bd ?_
              refine wp_of (f_X13_isBetween.eq_1 ..) ?_
              refine wp_ifn qf_38 ?_
              refine wp_ifn qf_94 ?_
              refine wp_of (f_X13_isBetween_15.eq_1 ..) ?_
              refine wp_gd qf_18 ?_
              refine wp_ret_bd ?_
              refine wp_gd qf_18 ?_
              refine wp_ret_bd ?_
              refine wp_ifn qf_19 ?_
              refine wp_bd ?_
              refine wp_of (f_X13_isDeck.eq_1 ..) ?_
              refine wp_bd ?_
              refine wp_of (f_X13_isBetween.eq_1 ..) ?_
              refine wp_ifn qf_38 ?_
              refine wp_ifn qf_94 ?_
              refine wp_of (f_X13_isBetween_15.eq_1 ..) ?_
              refine wp_gd qf_18 ?_
              refine wp_ret_bd ?_
              refine wp_gd qf_18 ?_
              refine wp_ret_bd ?_
              refine wp_ifn qf_19 ?_
              refine wp_gd ql_K_149 ?_
              refine wp_bd ?_
              refine wp_of (f_X13_isEmpty.eq_1 ..) ?_
              refine wp_gd ql_K_149 ?_
              refine wp_lt ql_R_149_2 ?_
              refine wp_gd ql_K_151 ?_
              refine wp_gd (gZi ql_Z_151 qf_92) ?_
              refine wp_lt (gRk qf_41 ql_R_151_2) ?_
              refine wp_gd ql_K_160 ?_
              refine wp_lt ql_R_160_0 ?_
              refine wp_ifp qf_77 ?_
              refine wp_of (f_X13_isEmpty_17.eq_1 ..) ?_
              refine wp_gd qf_18 ?_
              refine wp_ret_bd ?_
              refine wp_ifn qf_19 ?_
              refine wp_of (f_X13_between_35.eq_1 ..) ?_
              refine wp_of (f_X13_between_40.eq_1 ..) ?_
              refine wp_gd ql_K_149 ?_
              refine wp_bd ?_
              refine wp_of (f_X13_isWrong.eq_1 ..) ?_
              refine wp_gd ql_K_149 ?_
              refine wp_zI ?_
              refine wp_ifn qf_100 ?_
              refine wp_of (f_X13_isWrong_14.eq_1 ..) ?_
              refine wp_gd qf_18 ?_
              refine wp_ret_bd ?_
              refine wp_ifn qf_19 ?_
              refine wp_of (f_X13_between_65.eq_1 ..) ?_
              refine wp_ret_bd ?_
              refine wp_gd ql_K_149 ?_
              refine wp_bd ?_
              refine wp_of (f_X13_thrown.eq_1 ..) ?_
              refine wp_gd ql_K_149 ?_
              refine wp_lt gI_s ?_
              refine wp_ret_bd ?_
              refine wp_ifp qf_101 ?_
              refine wp_ifn qf_102 ?_
              refine wp_of (f_L_law_2449.eq_1 ..) ?_
              refine wp_of (f_L_law_3632.eq_1 ..) ?_
              refine wp_lt qf_21 ?_
              exact hrc _
            · skip
              refine wp_gd (gZi ql_Z_16 qf_95) ?_
              refine wp_lt (gRk qf_46 ql_R_16_3) ?_
              refine wp_of (f_X8_deckAt_23.eq_1 ..) ?_
              refine wp_ret_bd ?_
              refine wp_ifn qf_96 ?_
              refine wp_ret_bd ?_
              refine wp_bd ?_
              refine wp_of (f_X10_demandRecord.eq_1 ..) ?_
              refine wp_gd ql_K_33 ?_
              refine wp_lt ql_R_33_2 ?_
              refine wp_ifp qf_77 ?_
              refine wp_rs_bd ?_
              refine wp_rs_bdc ?_
              refine wp_ifn qf_98 ?_
              refine wp_ifp qf_99 ?_
              refine wp_ret_bd ?_
              refine wp_gd qf_0 ?_
              refine wp_lt (xsk qf_1 hy1) ?_
              refine wp_gd qf_2 ?_
              refine wp_lt (xsk qf_3 hy2) ?_
              refine wp_gd ql_K_149 ?_
              refine wp_bd ?_
              refine wp_of (f_X13_between.eq_1 ..) ?_
              refine wp_bd ?_
              refine wp_of (f_X13_isDeck.eq_1 ..) ?_
              refine wp_bd ?_
              refine wp_of (f_X13_isBetween.eq_1 ..) ?_
              refine wp_ifn qf_38 ?_
              refine wp_ifn qf_94 ?_
              refine wp_of (f_X13_isBetween_15.eq_1 ..) ?_
              refine wp_gd qf_18 ?_
              refine wp_ret_bd ?_
              refine wp_gd qf_18 ?_
              refine wp_ret_bd ?_
              refine wp_ifn qf_19 ?_
              refine wp_bd ?_
              refine wp_of (f_X13_isDeck.eq_1 ..) ?_
              refine wp_bd ?_
              refine wp_of (f_X13_isBetween.eq_1 ..) ?_
              refine wp_ifn qf_43 ?_
              refine wp_ifn qf_97 ?_
              refine wp_of (f_X13_isBetween_15.eq_1 ..) ?_
              refine wp_gd qf_18 ?_
              refine wp_ret_bd ?_
              refine wp_gd qf_18 ?_
              refine wp_ret_bd ?_
              refine wp_ifn qf_19 ?_
              refine wp_gd ql_K_149 ?_
              refine wp_bd ?_
              refine wp_of (f_X13_isEmpty.eq_1 ..) ?_
              refine wp_gd ql_K_149 ?_
              refine wp_lt ql_R_149_2 ?_
              refine wp_gd ql_K_151 ?_
              refine wp_gd (gZi ql_Z_151 qf_92) ?_
              refine wp_lt (gRk qf_41 ql_R_151_2) ?_
              refine wp_gd ql_K_160 ?_
              refine wp_lt ql_R_160_0 ?_
              refine wp_ifp qf_77 ?_
              refine wp_of (f_X13_isEmpty_17.eq_1 ..) ?_
              refine wp_gd qf_18 ?_
              refine wp_ret_bd ?_
              refine wp_ifn qf_19 ?_
              refine wp_of (f_X13_between_35.eq_1 ..) ?_
              refine wp_of (f_X13_between_40.eq_1 ..) ?_
              refine wp_gd ql_K_149 ?_
              refine wp_bd ?_
              refine wp_of (f_X13_isWrong.eq_1 ..) ?_
              refine wp_gd ql_K_149 ?_
              refine wp_zI ?_
              refine wp_ifn qf_100 ?_
              refine wp_of (f_X13_isWrong_14.eq_1 ..) ?_
              refine wp_gd qf_18 ?_
              refine wp_ret_bd ?_
              refine wp_ifn qf_19 ?_
              refine wp_of (f_X13_between_65.eq_1 ..) ?_
              refine wp_ret_bd ?_
              refine wp_gd ql_K_149 ?_
              refine wp_bd ?_
              refine wp_of (f_X13_thrown.eq_1 ..) ?_
              refine wp_gd ql_K_149 ?_
              refine wp_lt gI_s ?_
              refine wp_ret_bd ?_
              refine wp_ifp qf_101 ?_
              refine wp_ifn qf_102 ?_
              refine wp_of (f_L_law_2449.eq_1 ..) ?_
              refine wp_of (f_L_law_3632.eq_1 ..) ?_
              refine wp_lt qf_21 ?_
              exact hrc _
      · skip
        refine wp_gd (gZi ql_Z_16 qf_95) ?_
        refine wp_lt (gRk qf_46 ql_R_16_3) ?_
        refine wp_of (f_X8_deckAt_23.eq_1 ..) ?_
        refine wp_ret_bd ?_
        refine wp_ifn qf_96 ?_
        refine wp_ret_bd ?_
        refine wp_gd ql_K_1 ?_
        refine wp_bd ?_
        refine wp_of (f_X10_deckOf.eq_1 ..) ?_
        refine wp_gd ql_K_1 ?_
        refine wp_lt ql_R_1_0 ?_
        refine wp_gd ql_K_2 ?_
        refine wp_bd ?_
        refine wp_of (f_X8_deckAt.eq_1 ..) ?_
        refine wp_if (fun c3 => ?_) (fun c3 => ?_)
        · skip
          refine wp_of (f_X8_deckAt_22.eq_1 ..) ?_
          refine wp_of (f_X8_deckAt_23.eq_1 ..) ?_
          refine wp_ret_bd ?_
          refine wp_ifp qf_77 ?_
          refine wp_rs_bd ?_
          refine wp_rs_bdc ?_
          refine wp_ifp qf_78 ?_
          refine wp_ret_bd ?_
          refine wp_gd qf_0 ?_
          refine wp_lt (xsk qf_1 hy1) ?_
          refine wp_gd qf_2 ?_
          refine wp_lt (xsk qf_3 hy2) ?_
          refine wp_gd ql_K_149 ?_
          refine wp_bd ?_
          refine wp_of (f_X13_between.eq_1 ..) ?_
          refine wp_bd ?_
          refine wp_of (f_X13_isDeck.eq_1 ..) ?_
          refine wp_bd ?_
          refine wp_of (f_X13_isBetween.eq_1 ..) ?_
          refine wp_ifn qf_43 ?_
          refine wp_ifn qf_97 ?_
          refine wp_of (f_X13_isBetween_15.eq_1 ..) ?_
          refine wp_gd qf_18 ?_
          refine wp_ret_bd ?_
          refine wp_gd qf_18 ?_
          refine wp_ret_bd ?_
          refine wp_ifn qf_19 ?_
          refine wp_bd ?_
          refine wp_of (f_X13_isDeck.eq_1 ..) ?_
          refine wp_bd ?_
          refine wp_of (f_X13_isBetween.eq_1 ..) ?_
          refine wp_ifp c3 ?_
          refine wp_of (f_X13_isBetween_14.eq_1 ..) ?_
          refine wp_of (f_X13_isBetween_15.eq_1 ..) ?_
          refine wp_gd qf_14 ?_
          refine wp_ret_bd ?_
          refine wp_gd qf_14 ?_
          refine wp_ret_bd ?_
          refine wp_ifp qf_15 ?_
          refine wp_of (f_X13_between_15.eq_1 ..) ?_
          refine wp_of (f_X13_between_40.eq_1 ..) ?_
          refine wp_gd ql_K_149 ?_
          refine wp_bd ?_
          refine wp_of (f_X13_isWrong.eq_1 ..) ?_
          refine wp_gd ql_K_149 ?_
          refine wp_zI ?_
          refine wp_ifn qf_17 ?_
          refine wp_of (f_X13_isWrong_14.eq_1 ..) ?_
          refine wp_gd qf_18 ?_
          refine wp_ret_bd ?_
          refine wp_ifn qf_19 ?_
          refine wp_of (f_X13_between_65.eq_1 ..) ?_
          refine wp_ret_bd ?_
          refine wp_gd ql_K_149 ?_
          refine wp_bd ?_
          refine wp_of (f_X13_thrown.eq_1 ..) ?_
          refine wp_gd ql_K_149 ?_
          refine wp_lt gI_s ?_
          refine wp_ret_bd ?_
          refine wp_ifp qf_20 ?_
          refine wp_ifn qf_19 ?_
          refine wp_of (f_L_law_2449.eq_1 ..) ?_
          refine wp_of (f_L_law_3632.eq_1 ..) ?_
          refine wp_lt qf_21 ?_
          exact hrc _
        · skip
          refine wp_gd ql_K_2 ?_
          refine wp_lt ql_R_2_1 ?_
          refine wp_gd ql_K_16 ?_
          refine wp_lt (gZo ql_Z_16 qf_82) ?_
          refine wp_if (fun c4 => ?_) (fun c4 => ?_)
          · skip
            refine wp_of (f_X8_deckAt_22.eq_1 ..) ?_
            refine wp_of (f_X8_deckAt_23.eq_1 ..) ?_
            refine wp_ret_bd ?_
            refine wp_ifp qf_77 ?_
            refine wp_rs_bd ?_
            refine wp_rs_bdc ?_
            refine wp_ifp qf_78 ?_
            refine wp_ret_bd ?_
            refine wp_gd qf_0 ?_
            refine wp_lt (xsk qf_1 hy1) ?_
            refine wp_gd qf_2 ?_
            refine wp_lt (xsk qf_3 hy2) ?_
            refine wp_gd ql_K_149 ?_
            refine wp_bd ?_
            refine wp_of (f_X13_between.eq_1 ..) ?_
            refine wp_bd ?_
            refine wp_of (f_X13_isDeck.eq_1 ..) ?_
            refine wp_bd ?_
            refine wp_of (f_X13_isBetween.eq_1 ..) ?_
            refine wp_ifn qf_43 ?_
            refine wp_ifn qf_97 ?_
            refine wp_of (f_X13_isBetween_15.eq_1 ..) ?_
            refine wp_gd qf_18 ?_
            refine wp_ret_bd ?_
            refine wp_gd qf_18 ?_
            refine wp_ret_bd ?_
            refine wp_ifn qf_19 ?_
            refine wp_bd ?_
            refine wp_of (f_X13_isDeck.eq_1 ..) ?_
            refine wp_bd ?_
            refine wp_of (f_X13_isBetween.eq_1 ..) ?_
            refine wp_ifn c3 ?_
            refine wp_ifp (show ((3 : Int32) < y2) from by have e0 := qf_80; have e1 := qf_83; have e2 := qf_84; simp only [Int32.lt_iff_toInt_lt, Int32.le_iff_toInt_le, ← Int32.toInt_inj] at c3 c4 ⊢; omega) ?_
            refine wp_of (f_X13_isBetween_14.eq_1 ..) ?_
            refine wp_of (f_X13_isBetween_15.eq_1 ..) ?_
            refine wp_gd qf_14 ?_
            refine wp_ret_bd ?_
            refine wp_gd qf_14 ?_
            refine wp_ret_bd ?_
            refine wp_ifp qf_15 ?_
            refine wp_of (f_X13_between_15.eq_1 ..) ?_
            refine wp_of (f_X13_between_40.eq_1 ..) ?_
            refine wp_gd ql_K_149 ?_
            refine wp_bd ?_
            refine wp_of (f_X13_isWrong.eq_1 ..) ?_
            refine wp_gd ql_K_149 ?_
            refine wp_zI ?_
            refine wp_ifn qf_17 ?_
            refine wp_of (f_X13_isWrong_14.eq_1 ..) ?_
            refine wp_gd qf_18 ?_
            refine wp_ret_bd ?_
            refine wp_ifn qf_19 ?_
            refine wp_of (f_X13_between_65.eq_1 ..) ?_
            refine wp_ret_bd ?_
            refine wp_gd ql_K_149 ?_
            refine wp_bd ?_
            refine wp_of (f_X13_thrown.eq_1 ..) ?_
            refine wp_gd ql_K_149 ?_
            refine wp_lt gI_s ?_
            refine wp_ret_bd ?_
            refine wp_ifp qf_20 ?_
            refine wp_ifn qf_19 ?_
            refine wp_of (f_L_law_2449.eq_1 ..) ?_
            refine wp_of (f_L_law_3632.eq_1 ..) ?_
            refine wp_lt qf_21 ?_
            exact hrc _
          · skip
            refine wp_lt ql_R_2_1 ?_
            refine wp_gd ql_K_16 ?_
            rcases (show y2 = (0 : Int32) ∨ y2 = (1 : Int32) ∨ y2 = (2 : Int32) ∨ y2 = (3 : Int32) from by have e0 := qf_80; have e1 := qf_85; have e2 := qf_86; have e3 := qf_83; have e4 := qf_84; simp only [Int32.lt_iff_toInt_lt, Int32.le_iff_toInt_le] at c3 c4; simp only [← Int32.toInt_inj]; omega) with rfl | rfl | rfl | rfl
            · skip
              refine wp_gd (gZi ql_Z_16 qf_87) ?_
              refine wp_lt (gRk qf_32 ql_R_16_0) ?_
              refine wp_of (f_X8_deckAt_23.eq_1 ..) ?_
              refine wp_ret_bd ?_
              refine wp_ifn qf_88 ?_
              refine wp_ret_bd ?_
              refine wp_bd ?_
              refine wp_of (f_X10_demandRecord.eq_1 ..) ?_
              refine wp_gd ql_K_41 ?_
              refine wp_lt ql_R_41_2 ?_
              refine wp_ifp qf_77 ?_
              refine wp_rs_bd ?_
              refine wp_rs_bdc ?_
              refine wp_ifn qf_98 ?_
              refine wp_ifp qf_99 ?_
              refine wp_ret_bd ?_
              refine wp_gd qf_0 ?_
              refine wp_lt (xsk qf_1 hy1) ?_
              refine wp_gd qf_2 ?_
              refine wp_lt (xsk qf_3 hy2) ?_
              refine wp_gd ql_K_149 ?_
              refine wp_bd ?_
              refine wp_of (f_X13_between.eq_1 ..) ?_
              refine wp_bd ?_
              refine wp_of (f_X13_isDeck.eq_1 ..) ?_
              refine wp_bd ?_
              refine wp_of (f_X13_isBetween.eq_1 ..) ?_
              refine wp_ifn qf_43 ?_
              refine wp_ifn qf_97 ?_
              refine wp_of (f_X13_isBetween_15.eq_1 ..) ?_
              refine wp_gd qf_18 ?_
              refine wp_ret_bd ?_
              refine wp_gd qf_18 ?_
              refine wp_ret_bd ?_
              refine wp_ifn qf_19 ?_
              refine wp_bd ?_
              refine wp_of (f_X13_isDeck.eq_1 ..) ?_
              refine wp_bd ?_
              refine wp_of (f_X13_isBetween.eq_1 ..) ?_
              refine wp_ifn qf_28 ?_
              refine wp_ifn qf_43 ?_
              refine wp_of (f_X13_isBetween_15.eq_1 ..) ?_
              refine wp_gd qf_18 ?_
              refine wp_ret_bd ?_
              refine wp_gd qf_18 ?_
              refine wp_ret_bd ?_
              refine wp_ifn qf_19 ?_
              refine wp_gd ql_K_149 ?_
              refine wp_bd ?_
              refine wp_of (f_X13_isEmpty.eq_1 ..) ?_
              refine wp_gd ql_K_149 ?_
              refine wp_lt ql_R_149_2 ?_
              refine wp_gd ql_K_151 ?_
              refine wp_gd (gZi ql_Z_151 qf_95) ?_
              refine wp_lt (gRk qf_46 ql_R_151_3) ?_
              refine wp_gd ql_K_164 ?_
              refine wp_lt ql_R_164_0 ?_
              refine wp_ifp qf_77 ?_
              refine wp_of (f_X13_isEmpty_17.eq_1 ..) ?_
              refine wp_gd qf_18 ?_
              refine wp_ret_bd ?_
              refine wp_ifn qf_19 ?_
              refine wp_of (f_X13_between_35.eq_1 ..) ?_
              refine wp_of (f_X13_between_40.eq_1 ..) ?_
              refine wp_gd ql_K_149 ?_
              refine wp_bd ?_
              refine wp_of (f_X13_isWrong.eq_1 ..) ?_
              refine wp_gd ql_K_149 ?_
              refine wp_zI ?_
              refine wp_ifn qf_100 ?_
              refine wp_of (f_X13_isWrong_14.eq_1 ..) ?_
              refine wp_gd qf_18 ?_
              refine wp_ret_bd ?_
              refine wp_ifn qf_19 ?_
              refine wp_of (f_X13_between_65.eq_1 ..) ?_
              refine wp_ret_bd ?_
              refine wp_gd ql_K_149 ?_
              refine wp_bd ?_
              refine wp_of (f_X13_thrown.eq_1 ..) ?_
              refine wp_gd ql_K_149 ?_
              refine wp_lt gI_s ?_
              refine wp_ret_bd ?_
              refine wp_ifp qf_101 ?_
              refine wp_ifn qf_102 ?_
              refine wp_of (f_L_law_2449.eq_1 ..) ?_
              refine wp_of (f_L_law_3632.eq_1 ..) ?_
              refine wp_lt qf_21 ?_
              exact hrc _
            · skip
              refine wp_gd (gZi ql_Z_16 qf_89) ?_
              refine wp_lt (gRk qf_36 ql_R_16_1) ?_
              refine wp_of (f_X8_deckAt_23.eq_1 ..) ?_
              refine wp_ret_bd ?_
              refine wp_ifn qf_90 ?_
              refine wp_ret_bd ?_
              refine wp_bd ?_
              refine wp_of (f_X10_demandRecord.eq_1 ..) ?_
              refine wp_gd ql_K_41 ?_
              refine wp_lt ql_R_41_2 ?_
              refine wp_ifp qf_77 ?_
              refine wp_rs_bd ?_
              refine wp_rs_bdc ?_
              refine wp_ifn qf_98 ?_
              refine wp_ifp qf_99 ?_
              refine wp_ret_bd ?_
              refine wp_gd qf_0 ?_
              refine wp_lt (xsk qf_1 hy1) ?_
              refine wp_gd qf_2 ?_
              refine wp_lt (xsk qf_3 hy2) ?_
              refine wp_gd ql_K_149 ?_
              refine wp_bd ?_
              refine wp_of (f_X13_between.eq_1 ..) ?_
              refine wp_bd ?_
              refine wp_of (f_X13_isDeck.eq_1 ..) ?_
              refine wp_bd ?_
              refine wp_of (f_X13_isBetween.eq_1 ..) ?_
              refine wp_ifn qf_43 ?_
              refine wp_ifn qf_97 ?_
              refine wp_of (f_X13_isBetween_15.eq_1 ..) ?_
              refine wp_gd qf_18 ?_
              refine wp_ret_bd ?_
              refine wp_gd qf_18 ?_
              refine wp_ret_bd ?_
              refine wp_ifn qf_19 ?_
              refine wp_bd ?_
              refine wp_of (f_X13_isDeck.eq_1 ..) ?_
              refine wp_bd ?_
              refine wp_of (f_X13_isBetween.eq_1 ..) ?_
              refine wp_ifn qf_33 ?_
              refine wp_ifn qf_91 ?_
              refine wp_of (f_X13_isBetween_15.eq_1 ..) ?_
              refine wp_gd qf_18 ?_
              refine wp_ret_bd ?_
              refine wp_gd qf_18 ?_
              refine wp_ret_bd ?_
              refine wp_ifn qf_19 ?_
              refine wp_gd ql_K_149 ?_
              refine wp_bd ?_
              refine wp_of (f_X13_isEmpty.eq_1 ..) ?_
              refine wp_gd ql_K_149 ?_
              refine wp_lt ql_R_149_2 ?_
              refine wp_gd ql_K_151 ?_
              refine wp_gd (gZi ql_Z_151 qf_95) ?_
              refine wp_lt (gRk qf_46 ql_R_151_3) ?_
              refine wp_gd ql_K_164 ?_
              refine wp_lt ql_R_164_0 ?_
              refine wp_ifp qf_77 ?_
              refine wp_of (f_X13_isEmpty_17.eq_1 ..) ?_
              refine wp_gd qf_18 ?_
              refine wp_ret_bd ?_
              refine wp_ifn qf_19 ?_
              refine wp_of (f_X13_between_35.eq_1 ..) ?_
              refine wp_of (f_X13_between_40.eq_1 ..) ?_
              refine wp_gd ql_K_149 ?_
              refine wp_bd ?_
              refine wp_of (f_X13_isWrong.eq_1 ..) ?_
              refine wp_gd ql_K_149 ?_
              refine wp_zI ?_
              refine wp_ifn qf_100 ?_
              refine wp_of (f_X13_isWrong_14.eq_1 ..) ?_
              refine wp_gd qf_18 ?_
              refine wp_ret_bd ?_
              refine wp_ifn qf_19 ?_
              refine wp_of (f_X13_between_65.eq_1 ..) ?_
              refine wp_ret_bd ?_
              refine wp_gd ql_K_149 ?_
              refine wp_bd ?_
              refine wp_of (f_X13_thrown.eq_1 ..) ?_
              refine wp_gd ql_K_149 ?_
              refine wp_lt gI_s ?_
              refine wp_ret_bd ?_
              refine wp_ifp qf_101 ?_
              refine wp_ifn qf_102 ?_
              refine wp_of (f_L_law_2449.eq_1 ..) ?_
              refine wp_of (f_L_law_3632.eq_1 ..) ?_
              refine wp_lt qf_21 ?_
              exact hrc _
            · skip
              refine wp_gd (gZi ql_Z_16 qf_92) ?_
              refine wp_lt (gRk qf_41 ql_R_16_2) ?_
              refine wp_of (f_X8_deckAt_23.eq_1 ..) ?_
              refine wp_ret_bd ?_
              refine wp_ifn qf_93 ?_
              refine wp_ret_bd ?_
              refine wp_bd ?_
              refine wp_of (f_X10_demandRecord.eq_1 ..) ?_
              refine wp_gd ql_K_41 ?_
              refine wp_lt ql_R_41_2 ?_
              refine wp_ifp qf_77 ?_
              refine wp_rs_bd ?_
              refine wp_rs_bdc ?_
              refine wp_ifn qf_98 ?_
              refine wp_ifp qf_99 ?_
              refine wp_ret_bd ?_
              refine wp_gd qf_0 ?_
              refine wp_lt (xsk qf_1 hy1) ?_
              refine wp_gd qf_2 ?_
              refine wp_lt (xsk qf_3 hy2) ?_
              refine wp_gd ql_K_149 ?_
              refine wp_bd ?_
              refine wp_of (f_X13_between.eq_1 ..) ?_
              refine wp_bd ?_
              refine wp_of (f_X13_isDeck.eq_1 ..) ?_
              refine wp_bd ?_
              refine wp_of (f_X13_isBetween.eq_1 ..) ?_
              refine wp_ifn qf_43 ?_
              refine wp_ifn qf_97 ?_
              refine wp_of (f_X13_isBetween_15.eq_1 ..) ?_
              refine wp_gd qf_18 ?_
              refine wp_ret_bd ?_
              refine wp_gd qf_18 ?_
              refine wp_ret_bd ?_
              refine wp_ifn qf_19 ?_
              refine wp_bd ?_
              refine wp_of (f_X13_isDeck.eq_1 ..) ?_
              refine wp_bd ?_
              refine wp_of (f_X13_isBetween.eq_1 ..) ?_
              refine wp_ifn qf_38 ?_
              refine wp_ifn qf_94 ?_
              refine wp_of (f_X13_isBetween_15.eq_1 ..) ?_
              refine wp_gd qf_18 ?_
              refine wp_ret_bd ?_
              refine wp_gd qf_18 ?_
              refine wp_ret_bd ?_
              refine wp_ifn qf_19 ?_
              refine wp_gd ql_K_149 ?_
              refine wp_bd ?_
              refine wp_of (f_X13_isEmpty.eq_1 ..) ?_
              refine wp_gd ql_K_149 ?_
              refine wp_lt ql_R_149_2 ?_
              refine wp_gd ql_K_151 ?_
              refine wp_gd (gZi ql_Z_151 qf_95) ?_
              refine wp_lt (gRk qf_46 ql_R_151_3) ?_
              refine wp_gd ql_K_164 ?_
              refine wp_lt ql_R_164_0 ?_
              refine wp_ifp qf_77 ?_
              refine wp_of (f_X13_isEmpty_17.eq_1 ..) ?_
              refine wp_gd qf_18 ?_
              refine wp_ret_bd ?_
              refine wp_ifn qf_19 ?_
              refine wp_of (f_X13_between_35.eq_1 ..) ?_
              refine wp_of (f_X13_between_40.eq_1 ..) ?_
              refine wp_gd ql_K_149 ?_
              refine wp_bd ?_
              refine wp_of (f_X13_isWrong.eq_1 ..) ?_
              refine wp_gd ql_K_149 ?_
              refine wp_zI ?_
              refine wp_ifn qf_100 ?_
              refine wp_of (f_X13_isWrong_14.eq_1 ..) ?_
              refine wp_gd qf_18 ?_
              refine wp_ret_bd ?_
              refine wp_ifn qf_19 ?_
              refine wp_of (f_X13_between_65.eq_1 ..) ?_
              refine wp_ret_bd ?_
              refine wp_gd ql_K_149 ?_
              refine wp_bd ?_
              refine wp_of (f_X13_thrown.eq_1 ..) ?_
              refine wp_gd ql_K_149 ?_
              refine wp_lt gI_s ?_
              refine wp_ret_bd ?_
              refine wp_ifp qf_101 ?_
              refine wp_ifn qf_102 ?_
              refine wp_of (f_L_law_2449.eq_1 ..) ?_
              refine wp_of (f_L_law_3632.eq_1 ..) ?_
              refine wp_lt qf_21 ?_
              exact hrc _
            · skip
              refine wp_gd (gZi ql_Z_16 qf_95) ?_
              refine wp_lt (gRk qf_46 ql_R_16_3) ?_
              refine wp_of (f_X8_deckAt_23.eq_1 ..) ?_
              refine wp_ret_bd ?_
              refine wp_ifn qf_96 ?_
              refine wp_ret_bd ?_
              refine wp_bd ?_
              refine wp_of (f_X10_demandRecord.eq_1 ..) ?_
              refine wp_gd ql_K_41 ?_
              refine wp_lt ql_R_41_2 ?_
              refine wp_ifp qf_77 ?_
              refine wp_rs_bd ?_
              refine wp_rs_bdc ?_
              refine wp_ifn qf_98 ?_
              refine wp_ifp qf_99 ?_
              refine wp_ret_bd ?_
              refine wp_gd qf_0 ?_
              refine wp_lt (xsk qf_1 hy1) ?_
              refine wp_gd qf_2 ?_
              refine wp_lt (xsk qf_3 hy2) ?_
              refine wp_gd ql_K_149 ?_
              refine wp_bd ?_
              refine wp_of (f_X13_between.eq_1 ..) ?_
              refine wp_bd ?_
              refine wp_of (f_X13_isDeck.eq_1 ..) ?_
              refine wp_bd ?_
              refine wp_of (f_X13_isBetween.eq_1 ..) ?_
              refine wp_ifn qf_43 ?_
              refine wp_ifn qf_97 ?_
              refine wp_of (f_X13_isBetween_15.eq_1 ..) ?_
              refine wp_gd qf_18 ?_
              refine wp_ret_bd ?_
              refine wp_gd qf_18 ?_
              refine wp_ret_bd ?_
              refine wp_ifn qf_19 ?_
              refine wp_bd ?_
              refine wp_of (f_X13_isDeck.eq_1 ..) ?_
              refine wp_bd ?_
              refine wp_of (f_X13_isBetween.eq_1 ..) ?_
              refine wp_ifn qf_43 ?_
              refine wp_ifn qf_97 ?_
              refine wp_of (f_X13_isBetween_15.eq_1 ..) ?_
              refine wp_gd qf_18 ?_
              refine wp_ret_bd ?_
              refine wp_gd qf_18 ?_
              refine wp_ret_bd ?_
              refine wp_ifn qf_19 ?_
              refine wp_gd ql_K_149 ?_
              refine wp_bd ?_
              refine wp_of (f_X13_isEmpty.eq_1 ..) ?_
              refine wp_gd ql_K_149 ?_
              refine wp_lt ql_R_149_2 ?_
              refine wp_gd ql_K_151 ?_
              refine wp_gd (gZi ql_Z_151 qf_95) ?_
              refine wp_lt (gRk qf_46 ql_R_151_3) ?_
              refine wp_gd ql_K_164 ?_
              refine wp_lt ql_R_164_0 ?_
              refine wp_ifp qf_77 ?_
              refine wp_of (f_X13_isEmpty_17.eq_1 ..) ?_
              refine wp_gd qf_18 ?_
              refine wp_ret_bd ?_
              refine wp_ifn qf_19 ?_
              refine wp_of (f_X13_between_35.eq_1 ..) ?_
              refine wp_of (f_X13_between_40.eq_1 ..) ?_
              refine wp_gd ql_K_149 ?_
              refine wp_bd ?_
              refine wp_of (f_X13_isWrong.eq_1 ..) ?_
              refine wp_gd ql_K_149 ?_
              refine wp_zI ?_
              refine wp_ifn qf_100 ?_
              refine wp_of (f_X13_isWrong_14.eq_1 ..) ?_
              refine wp_gd qf_18 ?_
              refine wp_ret_bd ?_
              refine wp_ifn qf_19 ?_
              refine wp_of (f_X13_between_65.eq_1 ..) ?_
              refine wp_ret_bd ?_
              refine wp_gd ql_K_149 ?_
              refine wp_bd ?_
              refine wp_of (f_X13_thrown.eq_1 ..) ?_
              refine wp_gd ql_K_149 ?_
              refine wp_lt gI_s ?_
              refine wp_ret_bd ?_
              refine wp_ifp qf_101 ?_
              refine wp_ifn qf_102 ?_
              refine wp_of (f_L_law_2449.eq_1 ..) ?_
              refine wp_of (f_L_law_3632.eq_1 ..) ?_
              refine wp_lt qf_21 ?_
              exact hrc _
set_option maxRecDepth 100000 in
set_option maxHeartbeats 4000000 in
theorem cs_34 {xs : Nat → Int32} {rc : mS → Nat → Nat → Nat → Nat → Int32 → Option (Rs Int32)} {Q : Rs Int32 → Prop} (hrc : ∀ S, WP Q (rc S 1 149 173 174 8)) : WP Q (f_L_law_2452 8 xs rc (M3I, M3L, M3R, M3D, M3K, M3Z, 174) 1 149 173 174 0) := by
  obtain ⟨y1, hy1⟩ : ∃ y, xs 1 = y := ⟨_, rfl⟩
  obtain ⟨y2, hy2⟩ : ∃ y, xs 2 = y := ⟨_, rfl⟩
  refine wp_of (f_L_law_2452.eq_1 ..) ?_
  refine wp_gd qf_0 ?_
  refine wp_lt (xsk qf_1 hy1) ?_
  refine wp_gd qf_2 ?_
  refine wp_lt (xsk qf_3 hy2) ?_
  refine wp_bd ?_
  refine wp_of (f_L_sync.eq_1 ..) ?_
  refine wp_gd ql_K_1 ?_
  refine wp_bdc ?_
  refine wp_of (f_X10_sync.eq_1 ..) ?_
  refine wp_gd ql_K_1 ?_
  refine wp_bd ?_
  refine wp_of (f_X10_deckOf.eq_1 ..) ?_
  refine wp_gd ql_K_1 ?_
  refine wp_lt ql_R_1_0 ?_
  refine wp_gd ql_K_2 ?_
  refine wp_bd ?_
  refine wp_of (f_X8_deckAt.eq_1 ..) ?_
  refine wp_if (fun c1 => ?_) (fun c1 => ?_)
  · skip
    refine wp_of (f_X8_deckAt_22.eq_1 ..) ?_
    refine wp_of (f_X8_deckAt_23.eq_1 ..) ?_
    refine wp_ret_bd ?_
    refine wp_ifp qf_77 ?_
    refine wp_rs_bd ?_
    refine wp_rs_bdc ?_
    refine wp_ifp qf_78 ?_
    refine wp_ret_bd ?_
    refine wp_gd qf_0 ?_
    refine wp_lt (xsk qf_1 hy1) ?_
    refine wp_gd qf_2 ?_
    refine wp_lt (xsk qf_3 hy2) ?_
    refine wp_gd ql_K_149 ?_
    refine wp_bd ?_
    refine wp_of (f_X13_sync.eq_1 ..) ?_
    refine wp_bd ?_
    refine wp_of (f_X13_isDeck.eq_1 ..) ?_
    refine wp_bd ?_
    refine wp_of (f_X13_isBetween.eq_1 ..) ?_
    refine wp_ifp c1 ?_
    refine wp_of (f_X13_isBetween_14.eq_1 ..) ?_
    refine wp_of (f_X13_isBetween_15.eq_1 ..) ?_
    refine wp_gd qf_14 ?_
    refine wp_ret_bd ?_
    refine wp_gd qf_14 ?_
    refine wp_ret_bd ?_
    refine wp_ifp qf_15 ?_
    refine wp_of (f_X13_sync_15.eq_1 ..) ?_
    refine wp_of (f_X13_sync_45.eq_1 ..) ?_
    refine wp_gd ql_K_149 ?_
    refine wp_bd ?_
    refine wp_of (f_X13_isWrong.eq_1 ..) ?_
    refine wp_gd ql_K_149 ?_
    refine wp_zI ?_
    refine wp_ifn qf_17 ?_
    refine wp_of (f_X13_isWrong_14.eq_1 ..) ?_
    refine wp_gd qf_18 ?_
    refine wp_ret_bd ?_
    refine wp_ifn qf_19 ?_
    refine wp_ret_bd ?_
    refine wp_gd ql_K_149 ?_
    refine wp_bd ?_
    refine wp_of (f_X13_thrown.eq_1 ..) ?_
    refine wp_gd ql_K_149 ?_
    refine wp_lt gI_s ?_
    refine wp_ret_bd ?_
    refine wp_ifp qf_20 ?_
    refine wp_ifn qf_19 ?_
    refine wp_of (f_L_law_2517.eq_1 ..) ?_
    refine wp_of (f_L_law_3632.eq_1 ..) ?_
    refine wp_lt qf_21 ?_
    exact hrc _
  · skip
    refine wp_gd ql_K_2 ?_
    refine wp_lt ql_R_2_1 ?_
    refine wp_gd ql_K_16 ?_
    refine wp_lt (gZo ql_Z_16 qf_82) ?_
    refine wp_if (fun c2 => ?_) (fun c2 => ?_)
    · skip
      refine wp_of (f_X8_deckAt_22.eq_1 ..) ?_
      refine wp_of (f_X8_deckAt_23.eq_1 ..) ?_
      refine wp_ret_bd ?_
      refine wp_ifp qf_77 ?_
      refine wp_rs_bd ?_
      refine wp_rs_bdc ?_
      refine wp_ifp qf_78 ?_
      refine wp_ret_bd ?_
      refine wp_gd qf_0 ?_
      refine wp_lt (xsk qf_1 hy1) ?_
      refine wp_gd qf_2 ?_
      refine wp_lt (xsk qf_3 hy2) ?_
      refine wp_gd ql_K_149 ?_
      refine wp_bd ?_
      refine wp_of (f_X13_sync.eq_1 ..) ?_
      refine wp_bd ?_
      refine wp_of (f_X13_isDeck.eq_1 ..) ?_
      refine wp_bd ?_
      refine wp_of (f_X13_isBetween.eq_1 ..) ?_
      refine wp_ifn c1 ?_
      refine wp_ifp (show ((3 : Int32) < y1) from by have e0 := qf_80; have e1 := qf_83; have e2 := qf_84; simp only [Int32.lt_iff_toInt_lt, Int32.le_iff_toInt_le, ← Int32.toInt_inj] at c1 c2 ⊢; omega) ?_
      refine wp_of (f_X13_isBetween_14.eq_1 ..) ?_
      refine wp_of (f_X13_isBetween_15.eq_1 ..) ?_
      refine wp_gd qf_14 ?_
      refine wp_ret_bd ?_
      refine wp_gd qf_14 ?_
      refine wp_ret_bd ?_
      refine wp_ifp qf_15 ?_
      refine wp_of (f_X13_sync_15.eq_1 ..) ?_
      refine wp_of (f_X13_sync_45.eq_1 ..) ?_
      refine wp_gd ql_K_149 ?_
      refine wp_bd ?_
      refine wp_of (f_X13_isWrong.eq_1 ..) ?_
      refine wp_gd ql_K_149 ?_
      refine wp_zI ?_
      refine wp_ifn qf_17 ?_
      refine wp_of (f_X13_isWrong_14.eq_1 ..) ?_
      refine wp_gd qf_18 ?_
      refine wp_ret_bd ?_
      refine wp_ifn qf_19 ?_
      refine wp_ret_bd ?_
      refine wp_gd ql_K_149 ?_
      refine wp_bd ?_
      refine wp_of (f_X13_thrown.eq_1 ..) ?_
      refine wp_gd ql_K_149 ?_
      refine wp_lt gI_s ?_
      refine wp_ret_bd ?_
      refine wp_ifp qf_20 ?_
      refine wp_ifn qf_19 ?_
      refine wp_of (f_L_law_2517.eq_1 ..) ?_
      refine wp_of (f_L_law_3632.eq_1 ..) ?_
      refine wp_lt qf_21 ?_
      exact hrc _
    · skip
      refine wp_lt ql_R_2_1 ?_
      refine wp_gd ql_K_16 ?_
      rcases (show y1 = (0 : Int32) ∨ y1 = (1 : Int32) ∨ y1 = (2 : Int32) ∨ y1 = (3 : Int32) from by have e0 := qf_80; have e1 := qf_85; have e2 := qf_86; have e3 := qf_83; have e4 := qf_84; simp only [Int32.lt_iff_toInt_lt, Int32.le_iff_toInt_le] at c1 c2; simp only [← Int32.toInt_inj]; omega) with rfl | rfl | rfl | rfl
      · skip
        refine wp_gd (gZi ql_Z_16 qf_87) ?_
        refine wp_lt (gRk qf_32 ql_R_16_0) ?_
        refine wp_of (f_X8_deckAt_23.eq_1 ..) ?_
        refine wp_ret_bd ?_
        refine wp_ifn qf_88 ?_
        refine wp_ret_bd ?_
        refine wp_gd ql_K_1 ?_
        refine wp_bd ?_
        refine wp_of (f_X10_deckOf.eq_1 ..) ?_
        refine wp_gd ql_K_1 ?_
        refine wp_lt ql_R_1_0 ?_
        refine wp_gd ql_K_2 ?_
        refine wp_bd ?_
        refine wp_of (f_X8_deckAt.eq_1 ..) ?_
        refine wp_if (fun c3 => ?_) (fun c3 => ?_)
        · skip
          refine wp_of (f_X8_deckAt_22.eq_1 ..) ?_
          refine wp_of (f_X8_deckAt_23.eq_1 ..) ?_
          refine wp_ret_bd ?_
          refine wp_ifp qf_77 ?_
          refine wp_rs_bd ?_
          refine wp_rs_bdc ?_
          refine wp_ifp qf_78 ?_
          refine wp_ret_bd ?_
          refine wp_gd qf_0 ?_
          refine wp_lt (xsk qf_1 hy1) ?_
          refine wp_gd qf_2 ?_
          refine wp_lt (xsk qf_3 hy2) ?_
          refine wp_gd ql_K_149 ?_
          refine wp_bd ?_
          refine wp_of (f_X13_sync.eq_1 ..) ?_
          refine wp_bd ?_
          refine wp_of (f_X13_isDeck.eq_1 ..) ?_
          refine wp_bd ?_
          refine wp_of (f_X13_isBetween.eq_1 ..) ?_
          refine wp_ifn qf_28 ?_
          refine wp_ifn qf_43 ?_
          refine wp_of (f_X13_isBetween_15.eq_1 ..) ?_
          refine wp_gd qf_18 ?_
          refine wp_ret_bd ?_
          refine wp_gd qf_18 ?_
          refine wp_ret_bd ?_
          refine wp_ifn qf_19 ?_
          refine wp_bd ?_
          refine wp_of (f_X13_isDeck.eq_1 ..) ?_
          refine wp_bd ?_
          refine wp_of (f_X13_isBetween.eq_1 ..) ?_
          refine wp_ifp c3 ?_
          refine wp_of (f_X13_isBetween_14.eq_1 ..) ?_
          refine wp_of (f_X13_isBetween_15.eq_1 ..) ?_
          refine wp_gd qf_14 ?_
          refine wp_ret_bd ?_
          refine wp_gd qf_14 ?_
          refine wp_ret_bd ?_
          refine wp_ifp qf_15 ?_
          refine wp_of (f_X13_sync_15.eq_1 ..) ?_
          refine wp_of (f_X13_sync_45.eq_1 ..) ?_
          refine wp_gd ql_K_149 ?_
          refine wp_bd ?_
          refine wp_of (f_X13_isWrong.eq_1 ..) ?_
          refine wp_gd ql_K_149 ?_
          refine wp_zI ?_
          refine wp_ifn qf_17 ?_
          refine wp_of (f_X13_isWrong_14.eq_1 ..) ?_
          refine wp_gd qf_18 ?_
          refine wp_ret_bd ?_
          refine wp_ifn qf_19 ?_
          refine wp_ret_bd ?_
          refine wp_gd ql_K_149 ?_
          refine wp_bd ?_
          refine wp_of (f_X13_thrown.eq_1 ..) ?_
          refine wp_gd ql_K_149 ?_
          refine wp_lt gI_s ?_
          refine wp_ret_bd ?_
          refine wp_ifp qf_20 ?_
          refine wp_ifn qf_19 ?_
          refine wp_of (f_L_law_2517.eq_1 ..) ?_
          refine wp_of (f_L_law_3632.eq_1 ..) ?_
          refine wp_lt qf_21 ?_
          exact hrc _
        · skip
          refine wp_gd ql_K_2 ?_
          refine wp_lt ql_R_2_1 ?_
          refine wp_gd ql_K_16 ?_
          refine wp_lt (gZo ql_Z_16 qf_82) ?_
          refine wp_if (fun c4 => ?_) (fun c4 => ?_)
          · skip
            refine wp_of (f_X8_deckAt_22.eq_1 ..) ?_
            refine wp_of (f_X8_deckAt_23.eq_1 ..) ?_
            refine wp_ret_bd ?_
            refine wp_ifp qf_77 ?_
            refine wp_rs_bd ?_
            refine wp_rs_bdc ?_
            refine wp_ifp qf_78 ?_
            refine wp_ret_bd ?_
            refine wp_gd qf_0 ?_
            refine wp_lt (xsk qf_1 hy1) ?_
            refine wp_gd qf_2 ?_
            refine wp_lt (xsk qf_3 hy2) ?_
            refine wp_gd ql_K_149 ?_
            refine wp_bd ?_
            refine wp_of (f_X13_sync.eq_1 ..) ?_
            refine wp_bd ?_
            refine wp_of (f_X13_isDeck.eq_1 ..) ?_
            refine wp_bd ?_
            refine wp_of (f_X13_isBetween.eq_1 ..) ?_
            refine wp_ifn qf_28 ?_
            refine wp_ifn qf_43 ?_
            refine wp_of (f_X13_isBetween_15.eq_1 ..) ?_
            refine wp_gd qf_18 ?_
            refine wp_ret_bd ?_
            refine wp_gd qf_18 ?_
            refine wp_ret_bd ?_
            refine wp_ifn qf_19 ?_
            refine wp_bd ?_
            refine wp_of (f_X13_isDeck.eq_1 ..) ?_
            refine wp_bd ?_
            refine wp_of (f_X13_isBetween.eq_1 ..) ?_
            refine wp_ifn c3 ?_
            refine wp_ifp (show ((3 : Int32) < y2) from by have e0 := qf_80; have e1 := qf_83; have e2 := qf_84; simp only [Int32.lt_iff_toInt_lt, Int32.le_iff_toInt_le, ← Int32.toInt_inj] at c3 c4 ⊢; omega) ?_
            refine wp_of (f_X13_isBetween_14.eq_1 ..) ?_
            refine wp_of (f_X13_isBetween_15.eq_1 ..) ?_
            refine wp_gd qf_14 ?_
            refine wp_ret_bd ?_
            refine wp_gd qf_14 ?_
            refine wp_ret_bd ?_
            refine wp_ifp qf_15 ?_
            refine wp_of (f_X13_sync_15.eq_1 ..) ?_
            refine wp_of (f_X13_sync_45.eq_1 ..) ?_
            refine wp_gd ql_K_149 ?_
            refine wp_bd ?_
            refine wp_of (f_X13_isWrong.eq_1 ..) ?_
            refine wp_gd ql_K_149 ?_
            refine wp_zI ?_
            refine wp_ifn qf_17 ?_
            refine wp_of (f_X13_isWrong_14.eq_1 ..) ?_
            refine wp_gd qf_18 ?_
            refine wp_ret_bd ?_
            refine wp_ifn qf_19 ?_
            refine wp_ret_bd ?_
            refine wp_gd ql_K_149 ?_
            refine wp_bd ?_
            refine wp_of (f_X13_thrown.eq_1 ..) ?_
            refine wp_gd ql_K_149 ?_
            refine wp_lt gI_s ?_
            refine wp_ret_bd ?_
            refine wp_ifp qf_20 ?_
            refine wp_ifn qf_19 ?_
            refine wp_of (f_L_law_2517.eq_1 ..) ?_
            refine wp_of (f_L_law_3632.eq_1 ..) ?_
            refine wp_lt qf_21 ?_
            exact hrc _
          · skip
            refine wp_lt ql_R_2_1 ?_
            refine wp_gd ql_K_16 ?_
            rcases (show y2 = (0 : Int32) ∨ y2 = (1 : Int32) ∨ y2 = (2 : Int32) ∨ y2 = (3 : Int32) from by have e0 := qf_80; have e1 := qf_85; have e2 := qf_86; have e3 := qf_83; have e4 := qf_84; simp only [Int32.lt_iff_toInt_lt, Int32.le_iff_toInt_le] at c3 c4; simp only [← Int32.toInt_inj]; omega) with rfl | rfl | rfl | rfl
            · skip
              refine wp_gd (gZi ql_Z_16 qf_87) ?_
              refine wp_lt (gRk qf_32 ql_R_16_0) ?_
              refine wp_of (f_X8_deckAt_23.eq_1 ..) ?_
              refine wp_ret_bd ?_
              refine wp_ifn qf_88 ?_
              refine wp_ret_bd ?_
              refine wp_bd ?_
              refine wp_of (f_X10_demandPair.eq_1 ..) ?_
              refine wp_bd ?_
              refine wp_of (f_X10_demandRecord.eq_1 ..) ?_
              refine wp_gd ql_K_17 ?_
              refine wp_lt ql_R_17_2 ?_
              refine wp_ifp qf_77 ?_
              refine wp_rs_bd ?_
              refine wp_rs_bd ?_
              refine wp_rs_bdc ?_
              refine wp_ifn qf_98 ?_
              refine wp_ifp qf_99 ?_
              refine wp_ret_bd ?_
              refine wp_gd qf_0 ?_
              refine wp_lt (xsk qf_1 hy1) ?_
              refine wp_gd qf_2 ?_
              refine wp_lt (xsk qf_3 hy2) ?_
              refine wp_gd ql_K_149 ?_
              refine wp_bd ?_
              refine wp_of (f_X13_sync.eq_1 ..) ?_
              refine wp_bd ?_
              refine wp_of (f_X13_isDeck.eq_1 ..) ?_
              refine wp_bd ?_
              refine wp_of (f_X13_isBetween.eq_1 ..) ?_
              refine wp_ifn qf_28 ?_
              refine wp_ifn qf_43 ?_
              refine wp_of (f_X13_isBetween_15.eq_1 ..) ?_
              refine wp_gd qf_18 ?_
              refine wp_ret_bd ?_
              refine wp_gd qf_18 ?_
              refine wp_ret_bd ?_
              refine wp_ifn qf_19 ?_
              refine wp_bd ?_
              refine wp_of (f_X13_isDeck.eq_1 ..) ?_
              refine wp_bd ?_
              refine wp_of (f_X13_isBetween.eq_1 ..) ?_
              refine wp_ifn qf_28 ?_
              refine wp_ifn qf_43 ?_
              refine wp_of (f_X13_isBetween_15.eq_1 ..) ?_
              refine wp_gd qf_18 ?_
              refine wp_ret_bd ?_
              refine wp_gd qf_18 ?_
              refine wp_ret_bd ?_
              refine wp_ifn qf_19 ?_
              refine wp_gd ql_K_149 ?_
              refine wp_bd ?_
              refine wp_of (f_X13_isEmpty.eq_1 ..) ?_
              refine wp_gd ql_K_149 ?_
              refine wp_lt ql_R_149_2 ?_
              refine wp_gd ql_K_151 ?_
              refine wp_gd (gZi ql_Z_151 qf_87) ?_
              refine wp_lt (gRk qf_32 ql_R_151_0) ?_
              refine wp_gd ql_K_152 ?_
              refine wp_lt ql_R_152_0 ?_
              refine wp_ifp qf_77 ?_
              refine wp_of (f_X13_isEmpty_17.eq_1 ..) ?_
              refine wp_gd qf_18 ?_
              refine wp_ret_bd ?_
              refine wp_ifn qf_19 ?_
              refine wp_of (f_X13_sync_40.eq_1 ..) ?_
              refine wp_of (f_X13_sync_45.eq_1 ..) ?_
              refine wp_gd ql_K_149 ?_
              refine wp_bd ?_
              refine wp_of (f_X13_isWrong.eq_1 ..) ?_
              refine wp_gd ql_K_149 ?_
              refine wp_zI ?_
              refine wp_ifn qf_100 ?_
              refine wp_of (f_X13_isWrong_14.eq_1 ..) ?_
              refine wp_gd qf_18 ?_
              refine wp_ret_bd ?_
              refine wp_ifn qf_19 ?_
              refine wp_ret_bd ?_
              refine wp_gd ql_K_149 ?_
              refine wp_bd ?_
              refine wp_of (f_X13_thrown.eq_1 ..) ?_
              refine wp_gd ql_K_149 ?_
              refine wp_lt gI_s ?_
              refine wp_ret_bd ?_
              refine wp_ifp qf_101 ?_
              refine wp_ifn qf_102 ?_
              refine wp_of (f_L_law_2517.eq_1 ..) ?_
              refine wp_of (f_L_law_3632.eq_1 ..) ?_
              refine wp_lt qf_21 ?_
              exact hrc _
            · skip
              refine wp_gd (gZi ql_Z_16 qf_89) ?_
              refine wp_lt (gRk qf_36 ql_R_16_1) ?_
              refine wp_of (f_X8_deckAt_23.eq_1 ..) ?_
              refine wp_ret_bd ?_
              refine wp_ifn qf_90 ?_
              refine wp_ret_bd ?_
              refine wp_bd ?_
              refine wp_of (f_X10_demandPair.eq_1 ..) ?_
              refine wp_bd ?_
              refine wp_of (f_X10_demandRecord.eq_1 ..) ?_
              refine wp_gd ql_K_17 ?_
              refine wp_lt ql_R_17_2 ?_
              refine wp_ifp qf_77 ?_
              refine wp_rs_bd ?_
              refine wp_rs_bd ?_
              refine wp_rs_bdc ?_
              refine wp_ifn qf_98 ?_
              refine wp_ifp qf_99 ?_
              refine wp_ret_bd ?_
              refine wp_gd qf_0 ?_
              refine wp_lt (xsk qf_1 hy1) ?_
              refine wp_gd qf_2 ?_
              refine wp_lt (xsk qf_3 hy2) ?_
              refine wp_gd ql_K_149 ?_
              refine wp_bd ?_
              refine wp_of (f_X13_sync.eq_1 ..) ?_
              refine wp_bd ?_
              refine wp_of (f_X13_isDeck.eq_1 ..) ?_
              refine wp_bd ?_
              refine wp_of (f_X13_isBetween.eq_1 ..) ?_
              refine wp_ifn qf_28 ?_
              refine wp_ifn qf_43 ?_
              refine wp_of (f_X13_isBetween_15.eq_1 ..) ?_
              refine wp_gd qf_18 ?_
              refine wp_ret_bd ?_
              refine wp_gd qf_18 ?_
              refine wp_ret_bd ?_
              refine wp_ifn qf_19 ?_
              refine wp_bd ?_
              refine wp_of (f_X13_isDeck.eq_1 ..) ?_
              refine wp_bd ?_
              refine wp_of (f_X13_isBetween.eq_1 ..) ?_
              refine wp_ifn qf_33 ?_
              refine wp_ifn qf_91 ?_
              refine wp_of (f_X13_isBetween_15.eq_1 ..) ?_
              refine wp_gd qf_18 ?_
              refine wp_ret_bd ?_
              refine wp_gd qf_18 ?_
              refine wp_ret_bd ?_
              refine wp_ifn qf_19 ?_
              refine wp_gd ql_K_149 ?_
              refine wp_bd ?_
              refine wp_of (f_X13_isEmpty.eq_1 ..) ?_
              refine wp_gd ql_K_149 ?_
              refine wp_lt ql_R_149_2 ?_
              refine wp_gd ql_K_151 ?_
              refine wp_gd (gZi ql_Z_151 qf_87) ?_
              refine wp_lt (gRk qf_32 ql_R_151_0) ?_
              refine wp_gd ql_K_152 ?_
              refine wp_lt ql_R_152_0 ?_
              refine wp_ifp qf_77 ?_
              refine wp_of (f_X13_isEmpty_17.eq_1 ..) ?_
              refine wp_gd qf_18 ?_
              refine wp_ret_bd ?_
              refine wp_ifn qf_19 ?_
              refine wp_of (f_X13_sync_40.eq_1 ..) ?_
              refine wp_of (f_X13_sync_45.eq_1 ..) ?_
              refine wp_gd ql_K_149 ?_
              refine wp_bd ?_
              refine wp_of (f_X13_isWrong.eq_1 ..) ?_
              refine wp_gd ql_K_149 ?_
              refine wp_zI ?_
              refine wp_ifn qf_100 ?_
              refine wp_of (f_X13_isWrong_14.eq_1 ..) ?_
              refine wp_gd qf_18 ?_
              refine wp_ret_bd ?_
              refine wp_ifn qf_19 ?_
              refine wp_ret_bd ?_
              refine wp_gd ql_K_149 ?_
              refine wp_bd ?_
              refine wp_of (f_X13_thrown.eq_1 ..) ?_
              refine wp_gd ql_K_149 ?_
              refine wp_lt gI_s ?_
              refine wp_ret_bd ?_
              refine wp_ifp qf_101 ?_
              refine wp_ifn qf_102 ?_
              refine wp_of (f_L_law_2517.eq_1 ..) ?_
              refine wp_of (f_L_law_3632.eq_1 ..) ?_
              refine wp_lt qf_21 ?_
              exact hrc _
            · skip
              refine wp_gd (gZi ql_Z_16 qf_92) ?_
              refine wp_lt (gRk qf_41 ql_R_16_2) ?_
              refine wp_of (f_X8_deckAt_23.eq_1 ..) ?_
              refine wp_ret_bd ?_
              refine wp_ifn qf_93 ?_
              refine wp_ret_bd ?_
              refine wp_bd ?_
              refine wp_of (f_X10_demandPair.eq_1 ..) ?_
              refine wp_bd ?_
              refine wp_of (f_X10_demandRecord.eq_1 ..) ?_
              refine wp_gd ql_K_17 ?_
              refine wp_lt ql_R_17_2 ?_
              refine wp_ifp qf_77 ?_
              refine wp_rs_bd ?_
              refine wp_rs_bd ?_
              refine wp_rs_bdc ?_
              refine wp_ifn qf_98 ?_
              refine wp_ifp qf_99 ?_
              refine wp_ret_bd ?_
              refine wp_gd qf_0 ?_
              refine wp_lt (xsk qf_1 hy1) ?_
              refine wp_gd qf_2 ?_
              refine wp_lt (xsk qf_3 hy2) ?_
              refine wp_gd ql_K_149 ?_
              refine wp_bd ?_
              refine wp_of (f_X13_sync.eq_1 ..) ?_
              refine wp_bd ?_
              refine wp_of (f_X13_isDeck.eq_1 ..) ?_
              refine wp_bd ?_
              refine wp_of (f_X13_isBetween.eq_1 ..) ?_
              refine wp_ifn qf_28 ?_
              refine wp_ifn qf_43 ?_
              refine wp_of (f_X13_isBetween_15.eq_1 ..) ?_
              refine wp_gd qf_18 ?_
              refine wp_ret_bd ?_
              refine wp_gd qf_18 ?_
              refine wp_ret_bd ?_
              refine wp_ifn qf_19 ?_
              refine wp_bd ?_
              refine wp_of (f_X13_isDeck.eq_1 ..) ?_
              refine wp_bd ?_
              refine wp_of (f_X13_isBetween.eq_1 ..) ?_
              refine wp_ifn qf_38 ?_
              refine wp_ifn qf_94 ?_
              refine wp_of (f_X13_isBetween_15.eq_1 ..) ?_
              refine wp_gd qf_18 ?_
              refine wp_ret_bd ?_
              refine wp_gd qf_18 ?_
              refine wp_ret_bd ?_
              refine wp_ifn qf_19 ?_
              refine wp_gd ql_K_149 ?_
              refine wp_bd ?_
              refine wp_of (f_X13_isEmpty.eq_1 ..) ?_
              refine wp_gd ql_K_149 ?_
              refine wp_lt ql_R_149_2 ?_
              refine wp_gd ql_K_151 ?_
              refine wp_gd (gZi ql_Z_151 qf_87) ?_
              refine wp_lt (gRk qf_32 ql_R_151_0) ?_
              refine wp_gd ql_K_152 ?_
              refine wp_lt ql_R_152_0 ?_
              refine wp_ifp qf_77 ?_
              refine wp_of (f_X13_isEmpty_17.eq_1 ..) ?_
              refine wp_gd qf_18 ?_
              refine wp_ret_bd ?_
              refine wp_ifn qf_19 ?_
              refine wp_of (f_X13_sync_40.eq_1 ..) ?_
              refine wp_of (f_X13_sync_45.eq_1 ..) ?_
              refine wp_gd ql_K_149 ?_
              refine wp_bd ?_
              refine wp_of (f_X13_isWrong.eq_1 ..) ?_
              refine wp_gd ql_K_149 ?_
              refine wp_zI ?_
              refine wp_ifn qf_100 ?_
              refine wp_of (f_X13_isWrong_14.eq_1 ..) ?_
              refine wp_gd qf_18 ?_
              refine wp_ret_bd ?_
              refine wp_ifn qf_19 ?_
              refine wp_ret_bd ?_
              refine wp_gd ql_K_149 ?_
              refine wp_bd ?_
              refine wp_of (f_X13_thrown.eq_1 ..) ?_
              refine wp_gd ql_K_149 ?_
              refine wp_lt gI_s ?_
              refine wp_ret_bd ?_
              refine wp_ifp qf_101 ?_
              refine wp_ifn qf_102 ?_
              refine wp_of (f_L_law_2517.eq_1 ..) ?_
              refine wp_of (f_L_law_3632.eq_1 ..) ?_
              refine wp_lt qf_21 ?_
              exact hrc _
            · skip
              refine wp_gd (gZi ql_Z_16 qf_95) ?_
              refine wp_lt (gRk qf_46 ql_R_16_3) ?_
              refine wp_of (f_X8_deckAt_23.eq_1 ..) ?_
              refine wp_ret_bd ?_
              refine wp_ifn qf_96 ?_
              refine wp_ret_bd ?_
              refine wp_bd ?_
              refine wp_of (f_X10_demandPair.eq_1 ..) ?_
              refine wp_bd ?_
              refine wp_of (f_X10_demandRecord.eq_1 ..) ?_
              refine wp_gd ql_K_17 ?_
              refine wp_lt ql_R_17_2 ?_
              refine wp_ifp qf_77 ?_
              refine wp_rs_bd ?_
              refine wp_rs_bd ?_
              refine wp_rs_bdc ?_
              refine wp_ifn qf_98 ?_
              refine wp_ifp qf_99 ?_
              refine wp_ret_bd ?_
              refine wp_gd qf_0 ?_
              refine wp_lt (xsk qf_1 hy1) ?_
              refine wp_gd qf_2 ?_
              refine wp_lt (xsk qf_3 hy2) ?_
              refine wp_gd ql_K_149 ?_
              refine wp_bd ?_
              refine wp_of (f_X13_sync.eq_1 ..) ?_
              refine wp_bd ?_
              refine wp_of (f_X13_isDeck.eq_1 ..) ?_
              refine wp_bd ?_
              refine wp_of (f_X13_isBetween.eq_1 ..) ?_
              refine wp_ifn qf_28 ?_
              refine wp_ifn qf_43 ?_
              refine wp_of (f_X13_isBetween_15.eq_1 ..) ?_
              refine wp_gd qf_18 ?_
              refine wp_ret_bd ?_
              refine wp_gd qf_18 ?_
              refine wp_ret_bd ?_
              refine wp_ifn qf_19 ?_
              refine wp_bd ?_
              refine wp_of (f_X13_isDeck.eq_1 ..) ?_
              refine wp_bd ?_
              refine wp_of (f_X13_isBetween.eq_1 ..) ?_
              refine wp_ifn qf_43 ?_
              refine wp_ifn qf_97 ?_
              refine wp_of (f_X13_isBetween_15.eq_1 ..) ?_
              refine wp_gd qf_18 ?_
              refine wp_ret_bd ?_
              refine wp_gd qf_18 ?_
              refine wp_ret_bd ?_
              refine wp_ifn qf_19 ?_
              refine wp_gd ql_K_149 ?_
              refine wp_bd ?_
              refine wp_of (f_X13_isEmpty.eq_1 ..) ?_
              refine wp_gd ql_K_149 ?_
              refine wp_lt ql_R_149_2 ?_
              refine wp_gd ql_K_151 ?_
              refine wp_gd (gZi ql_Z_151 qf_87) ?_
              refine wp_lt (gRk qf_32 ql_R_151_0) ?_
              refine wp_gd ql_K_152 ?_
              refine wp_lt ql_R_152_0 ?_
              refine wp_ifp qf_77 ?_
              refine wp_of (f_X13_isEmpty_17.eq_1 ..) ?_
              refine wp_gd qf_18 ?_
              refine wp_ret_bd ?_
              refine wp_ifn qf_19 ?_
              refine wp_of (f_X13_sync_40.eq_1 ..) ?_
              refine wp_of (f_X13_sync_45.eq_1 ..) ?_
              refine wp_gd ql_K_149 ?_
              refine wp_bd ?_
              refine wp_of (f_X13_isWrong.eq_1 ..) ?_
              refine wp_gd ql_K_149 ?_
              refine wp_zI ?_
              refine wp_ifn qf_100 ?_
              refine wp_of (f_X13_isWrong_14.eq_1 ..) ?_
              refine wp_gd qf_18 ?_
              refine wp_ret_bd ?_
              refine wp_ifn qf_19 ?_
              refine wp_ret_bd ?_
              refine wp_gd ql_K_149 ?_
              refine wp_bd ?_
              refine wp_of (f_X13_thrown.eq_1 ..) ?_
              refine wp_gd ql_K_149 ?_
              refine wp_lt gI_s ?_
              refine wp_ret_bd ?_
              refine wp_ifp qf_101 ?_
              refine wp_ifn qf_102 ?_
              refine wp_of (f_L_law_2517.eq_1 ..) ?_
              refine wp_of (f_L_law_3632.eq_1 ..) ?_
              refine wp_lt qf_21 ?_
              exact hrc _
      · skip
        refine wp_gd (gZi ql_Z_16 qf_89) ?_
        refine wp_lt (gRk qf_36 ql_R_16_1) ?_
        refine wp_of (f_X8_deckAt_23.eq_1 ..) ?_
        refine wp_ret_bd ?_
        refine wp_ifn qf_90 ?_
        refine wp_ret_bd ?_
        refine wp_gd ql_K_1 ?_
        refine wp_bd ?_
        refine wp_of (f_X10_deckOf.eq_1 ..) ?_
        refine wp_gd ql_K_1 ?_
        refine wp_lt ql_R_1_0 ?_
        refine wp_gd ql_K_2 ?_
        refine wp_bd ?_
        refine wp_of (f_X8_deckAt.eq_1 ..) ?_
        refine wp_if (fun c3 => ?_) (fun c3 => ?_)
        · skip
          refine wp_of (f_X8_deckAt_22.eq_1 ..) ?_
          refine wp_of (f_X8_deckAt_23.eq_1 ..) ?_
          refine wp_ret_bd ?_
          refine wp_ifp qf_77 ?_
          refine wp_rs_bd ?_
          refine wp_rs_bdc ?_
          refine wp_ifp qf_78 ?_
          refine wp_ret_bd ?_
          refine wp_gd qf_0 ?_
          refine wp_lt (xsk qf_1 hy1) ?_
          refine wp_gd qf_2 ?_
          refine wp_lt (xsk qf_3 hy2) ?_
          refine wp_gd ql_K_149 ?_
          refine wp_bd ?_
          refine wp_of (f_X13_sync.eq_1 ..) ?_
          refine wp_bd ?_
          refine wp_of (f_X13_isDeck.eq_1 ..) ?_
          refine wp_bd ?_
          refine wp_of (f_X13_isBetween.eq_1 ..) ?_
          refine wp_ifn qf_33 ?_
          refine wp_ifn qf_91 ?_
          refine wp_of (f_X13_isBetween_15.eq_1 ..) ?_
          refine wp_gd qf_18 ?_
          refine wp_ret_bd ?_
          refine wp_gd qf_18 ?_
          refine wp_ret_bd ?_
          refine wp_ifn qf_19 ?_
          refine wp_bd ?_
          refine wp_of (f_X13_isDeck.eq_1 ..) ?_
          refine wp_bd ?_
          refine wp_of (f_X13_isBetween.eq_1 ..) ?_
          refine wp_ifp c3 ?_
          refine wp_of (f_X13_isBetween_14.eq_1 ..) ?_
          refine wp_of (f_X13_isBetween_15.eq_1 ..) ?_
          refine wp_gd qf_14 ?_
          refine wp_ret_bd ?_
          refine wp_gd qf_14 ?_
          refine wp_ret_bd ?_
          refine wp_ifp qf_15 ?_
          refine wp_of (f_X13_sync_15.eq_1 ..) ?_
          refine wp_of (f_X13_sync_45.eq_1 ..) ?_
          refine wp_gd ql_K_149 ?_
          refine wp_bd ?_
          refine wp_of (f_X13_isWrong.eq_1 ..) ?_
          refine wp_gd ql_K_149 ?_
          refine wp_zI ?_
          refine wp_ifn qf_17 ?_
          refine wp_of (f_X13_isWrong_14.eq_1 ..) ?_
          refine wp_gd qf_18 ?_
          refine wp_ret_bd ?_
          refine wp_ifn qf_19 ?_
          refine wp_ret_bd ?_
          refine wp_gd ql_K_149 ?_
          refine wp_bd ?_
          refine wp_of (f_X13_thrown.eq_1 ..) ?_
          refine wp_gd ql_K_149 ?_
          refine wp_lt gI_s ?_
          refine wp_ret_bd ?_
          refine wp_ifp qf_20 ?_
          refine wp_ifn qf_19 ?_
          refine wp_of (f_L_law_2517.eq_1 ..) ?_
          refine wp_of (f_L_law_3632.eq_1 ..) ?_
          refine wp_lt qf_21 ?_
          exact hrc _
        · skip
          refine wp_gd ql_K_2 ?_
          refine wp_lt ql_R_2_1 ?_
          refine wp_gd ql_K_16 ?_
          refine wp_lt (gZo ql_Z_16 qf_82) ?_
          refine wp_if (fun c4 => ?_) (fun c4 => ?_)
          · skip
            refine wp_of (f_X8_deckAt_22.eq_1 ..) ?_
            refine wp_of (f_X8_deckAt_23.eq_1 ..) ?_
            refine wp_ret_bd ?_
            refine wp_ifp qf_77 ?_
            refine wp_rs_bd ?_
            refine wp_rs_bdc ?_
            refine wp_ifp qf_78 ?_
            refine wp_ret_bd ?_
            refine wp_gd qf_0 ?_
            refine wp_lt (xsk qf_1 hy1) ?_
            refine wp_gd qf_2 ?_
            refine wp_lt (xsk qf_3 hy2) ?_
            refine wp_gd ql_K_149 ?_
            refine wp_bd ?_
            refine wp_of (f_X13_sync.eq_1 ..) ?_
            refine wp_bd ?_
            refine wp_of (f_X13_isDeck.eq_1 ..) ?_
            refine wp_bd ?_
            refine wp_of (f_X13_isBetween.eq_1 ..) ?_
            refine wp_ifn qf_33 ?_
            refine wp_ifn qf_91 ?_
            refine wp_of (f_X13_isBetween_15.eq_1 ..) ?_
            refine wp_gd qf_18 ?_
            refine wp_ret_bd ?_
            refine wp_gd qf_18 ?_
            refine wp_ret_bd ?_
            refine wp_ifn qf_19 ?_
            refine wp_bd ?_
            refine wp_of (f_X13_isDeck.eq_1 ..) ?_
            refine wp_bd ?_
            refine wp_of (f_X13_isBetween.eq_1 ..) ?_
            refine wp_ifn c3 ?_
            refine wp_ifp (show ((3 : Int32) < y2) from by have e0 := qf_80; have e1 := qf_83; have e2 := qf_84; simp only [Int32.lt_iff_toInt_lt, Int32.le_iff_toInt_le, ← Int32.toInt_inj] at c3 c4 ⊢; omega) ?_
            refine wp_of (f_X13_isBetween_14.eq_1 ..) ?_
            refine wp_of (f_X13_isBetween_15.eq_1 ..) ?_
            refine wp_gd qf_14 ?_
            refine wp_ret_bd ?_
            refine wp_gd qf_14 ?_
            refine wp_ret_bd ?_
            refine wp_ifp qf_15 ?_
            refine wp_of (f_X13_sync_15.eq_1 ..) ?_
            refine wp_of (f_X13_sync_45.eq_1 ..) ?_
            refine wp_gd ql_K_149 ?_
            refine wp_bd ?_
            refine wp_of (f_X13_isWrong.eq_1 ..) ?_
            refine wp_gd ql_K_149 ?_
            refine wp_zI ?_
            refine wp_ifn qf_17 ?_
            refine wp_of (f_X13_isWrong_14.eq_1 ..) ?_
            refine wp_gd qf_18 ?_
            refine wp_ret_bd ?_
            refine wp_ifn qf_19 ?_
            refine wp_ret_bd ?_
            refine wp_gd ql_K_149 ?_
            refine wp_bd ?_
            refine wp_of (f_X13_thrown.eq_1 ..) ?_
            refine wp_gd ql_K_149 ?_
            refine wp_lt gI_s ?_
            refine wp_ret_bd ?_
            refine wp_ifp qf_20 ?_
            refine wp_ifn qf_19 ?_
            refine wp_of (f_L_law_2517.eq_1 ..) ?_
            refine wp_of (f_L_law_3632.eq_1 ..) ?_
            refine wp_lt qf_21 ?_
            exact hrc _
          · skip
            refine wp_lt ql_R_2_1 ?_
            refine wp_gd ql_K_16 ?_
            rcases (show y2 = (0 : Int32) ∨ y2 = (1 : Int32) ∨ y2 = (2 : Int32) ∨ y2 = (3 : Int32) from by have e0 := qf_80; have e1 := qf_85; have e2 := qf_86; have e3 := qf_83; have e4 := qf_84; simp only [Int32.lt_iff_toInt_lt, Int32.le_iff_toInt_le] at c3 c4; simp only [← Int32.toInt_inj]; omega) with rfl | rfl | rfl | rfl
            · skip
              refine wp_gd (gZi ql_Z_16 qf_87) ?_
              refine wp_lt (gRk qf_32 ql_R_16_0) ?_
              refine wp_of (f_X8_deckAt_23.eq_1 ..) ?_
              refine wp_ret_bd ?_
              refine wp_ifn qf_88 ?_
              refine wp_ret_bd ?_
              refine wp_bd ?_
              refine wp_of (f_X10_demandPair.eq_1 ..) ?_
              refine wp_bd ?_
              refine wp_of (f_X10_demandRecord.eq_1 ..) ?_
              refine wp_gd ql_K_25 ?_
              refine wp_lt ql_R_25_2 ?_
              refine wp_ifp qf_77 ?_
              refine wp_rs_bd ?_
              refine wp_rs_bd ?_
              refine wp_rs_bdc ?_
              refine wp_ifn qf_98 ?_
              refine wp_ifp qf_99 ?_
              refine wp_ret_bd ?_
              refine wp_gd qf_0 ?_
              refine wp_lt (xsk qf_1 hy1) ?_
              refine wp_gd qf_2 ?_
              refine wp_lt (xsk qf_3 hy2) ?_
              refine wp_gd ql_K_149 ?_
              refine wp_bd ?_
              refine wp_of (f_X13_sync.eq_1 ..) ?_
              refine wp_bd ?_
              refine wp_of (f_X13_isDeck.eq_1 ..) ?_
              refine wp_bd ?_
              refine wp_of (f_X13_isBetween.eq_1 ..) ?_
              refine wp_ifn qf_33 ?_
              refine wp_ifn qf_91 ?_
              refine wp_of (f_X13_isBetween_15.eq_1 ..) ?_
              refine wp_gd qf_18 ?_
              refine wp_ret_bd ?_
              refine wp_gd qf_18 ?_
              refine wp_ret_bd ?_
              refine wp_ifn qf_19 ?_
              refine wp_bd ?_
              refine wp_of (f_X13_isDeck.eq_1 ..) ?_
              refine wp_bd ?_
              refine wp_of (f_X13_isBetween.eq_1 ..) ?_
              refine wp_ifn qf_28 ?_
              refine wp_ifn qf_43 ?_
              refine wp_of (f_X13_isBetween_15.eq_1 ..) ?_
              refine wp_gd qf_18 ?_
              refine wp_ret_bd ?_
              refine wp_gd qf_18 ?_
              refine wp_ret_bd ?_
              refine wp_ifn qf_19 ?_
              refine wp_gd ql_K_149 ?_
              refine wp_bd ?_
              refine wp_of (f_X13_isEmpty.eq_1 ..) ?_
              refine wp_gd ql_K_149 ?_
              refine wp_lt ql_R_149_2 ?_
              refine wp_gd ql_K_151 ?_
              refine wp_gd (gZi ql_Z_151 qf_89) ?_
              refine wp_lt (gRk qf_36 ql_R_151_1) ?_
              refine wp_gd ql_K_156 ?_
              refine wp_lt ql_R_156_0 ?_
              refine wp_ifp qf_77 ?_
              refine wp_of (f_X13_isEmpty_17.eq_1 ..) ?_
              refine wp_gd qf_18 ?_
              refine wp_ret_bd ?_
              refine wp_ifn qf_19 ?_
              refine wp_of (f_X13_sync_40.eq_1 ..) ?_
              refine wp_of (f_X13_sync_45.eq_1 ..) ?_
              refine wp_gd ql_K_149 ?_
              refine wp_bd ?_
              refine wp_of (f_X13_isWrong.eq_1 ..) ?_
              refine wp_gd ql_K_149 ?_
              refine wp_zI ?_
              refine wp_ifn qf_100 ?_
              refine wp_of (f_X13_isWrong_14.eq_1 ..) ?_
              refine wp_gd qf_18 ?_
              refine wp_ret_bd ?_
              refine wp_ifn qf_19 ?_
              refine wp_ret_bd ?_
              refine wp_gd ql_K_149 ?_
              refine wp_bd ?_
              refine wp_of (f_X13_thrown.eq_1 ..) ?_
              refine wp_gd ql_K_149 ?_
              refine wp_lt gI_s ?_
              refine wp_ret_bd ?_
              refine wp_ifp qf_101 ?_
              refine wp_ifn qf_102 ?_
              refine wp_of (f_L_law_2517.eq_1 ..) ?_
              refine wp_of (f_L_law_3632.eq_1 ..) ?_
              refine wp_lt qf_21 ?_
              exact hrc _
            · skip
              refine wp_gd (gZi ql_Z_16 qf_89) ?_
              refine wp_lt (gRk qf_36 ql_R_16_1) ?_
              refine wp_of (f_X8_deckAt_23.eq_1 ..) ?_
              refine wp_ret_bd ?_
              refine wp_ifn qf_90 ?_
              refine wp_ret_bd ?_
              refine wp_bd ?_
              refine wp_of (f_X10_demandPair.eq_1 ..) ?_
              refine wp_bd ?_
              refine wp_of (f_X10_demandRecord.eq_1 ..) ?_
              refine wp_gd ql_K_25 ?_
              refine wp_lt ql_R_25_2 ?_
              refine wp_ifp qf_77 ?_
              refine wp_rs_bd ?_
              refine wp_rs_bd ?_
              refine wp_rs_bdc ?_
              refine wp_ifn qf_98 ?_
              refine wp_ifp qf_99 ?_
              refine wp_ret_bd ?_
              refine wp_gd qf_0 ?_
              refine wp_lt (xsk qf_1 hy1) ?_
              refine wp_gd qf_2 ?_
              refine wp_lt (xsk qf_3 hy2) ?_
              refine wp_gd ql_K_149 ?_
              refine wp_bd ?_
              refine wp_of (f_X13_sync.eq_1 ..) ?_
              refine wp_bd ?_
              refine wp_of (f_X13_isDeck.eq_1 ..) ?_
              refine wp_bd ?_
              refine wp_of (f_X13_isBetween.eq_1 ..) ?_
              refine wp_ifn qf_33 ?_
              refine wp_ifn qf_91 ?_
              refine wp_of (f_X13_isBetween_15.eq_1 ..) ?_
              refine wp_gd qf_18 ?_
              refine wp_ret_bd ?_
              refine wp_gd qf_18 ?_
              refine wp_ret_bd ?_
              refine wp_ifn qf_19 ?_
              refine wp_bd ?_
              refine wp_of (f_X13_isDeck.eq_1 ..) ?_
              refine wp_bd ?_
              refine wp_of (f_X13_isBetween.eq_1 ..) ?_
              refine wp_ifn qf_33 ?_
              refine wp_ifn qf_91 ?_
              refine wp_of (f_X13_isBetween_15.eq_1 ..) ?_
              refine wp_gd qf_18 ?_
              refine wp_ret_bd ?_
              refine wp_gd qf_18 ?_
              refine wp_ret_bd ?_
              refine wp_ifn qf_19 ?_
              refine wp_gd ql_K_149 ?_
              refine wp_bd ?_
              refine wp_of (f_X13_isEmpty.eq_1 ..) ?_
              refine wp_gd ql_K_149 ?_
              refine wp_lt ql_R_149_2 ?_
              refine wp_gd ql_K_151 ?_
              refine wp_gd (gZi ql_Z_151 qf_89) ?_
              refine wp_lt (gRk qf_36 ql_R_151_1) ?_
              refine wp_gd ql_K_156 ?_
              refine wp_lt ql_R_156_0 ?_
              refine wp_ifp qf_77 ?_
              refine wp_of (f_X13_isEmpty_17.eq_1 ..) ?_
              refine wp_gd qf_18 ?_
              refine wp_ret_bd ?_
              refine wp_ifn qf_19 ?_
              refine wp_of (f_X13_sync_40.eq_1 ..) ?_
              refine wp_of (f_X13_sync_45.eq_1 ..) ?_
              refine wp_gd ql_K_149 ?_
              refine wp_bd ?_
              refine wp_of (f_X13_isWrong.eq_1 ..) ?_
              refine wp_gd ql_K_149 ?_
              refine wp_zI ?_
              refine wp_ifn qf_100 ?_
              refine wp_of (f_X13_isWrong_14.eq_1 ..) ?_
              refine wp_gd qf_18 ?_
              refine wp_ret_bd ?_
              refine wp_ifn qf_19 ?_
              refine wp_ret_bd ?_
              refine wp_gd ql_K_149 ?_
              refine wp_bd ?_
              refine wp_of (f_X13_thrown.eq_1 ..) ?_
              refine wp_gd ql_K_149 ?_
              refine wp_lt gI_s ?_
              refine wp_ret_bd ?_
              refine wp_ifp qf_101 ?_
              refine wp_ifn qf_102 ?_
              refine wp_of (f_L_law_2517.eq_1 ..) ?_
              refine wp_of (f_L_law_3632.eq_1 ..) ?_
              refine wp_lt qf_21 ?_
              exact hrc _
            · skip
              refine wp_gd (gZi ql_Z_16 qf_92) ?_
              refine wp_lt (gRk qf_41 ql_R_16_2) ?_
              refine wp_of (f_X8_deckAt_23.eq_1 ..) ?_
              refine wp_ret_bd ?_
              refine wp_ifn qf_93 ?_
              refine wp_ret_bd ?_
              refine wp_bd ?_
              refine wp_of (f_X10_demandPair.eq_1 ..) ?_
              refine wp_bd ?_
              refine wp_of (f_X10_demandRecord.eq_1 ..) ?_
              refine wp_gd ql_K_25 ?_
              refine wp_lt ql_R_25_2 ?_
              refine wp_ifp qf_77 ?_
              refine wp_rs_bd ?_
              refine wp_rs_bd ?_
              refine wp_rs_bdc ?_
              refine wp_ifn qf_98 ?_
              refine wp_ifp qf_99 ?_
              refine wp_ret_bd ?_
              refine wp_gd qf_0 ?_
              refine wp_lt (xsk qf_1 hy1) ?_
              refine wp_gd qf_2 ?_
              refine wp_lt (xsk qf_3 hy2) ?_
              refine wp_gd ql_K_149 ?_
              refine wp_bd ?_
              refine wp_of (f_X13_sync.eq_1 ..) ?_
              refine wp_bd ?_
              refine wp_of (f_X13_isDeck.eq_1 ..) ?_
              refine wp_bd ?_
              refine wp_of (f_X13_isBetween.eq_1 ..) ?_
              refine wp_ifn qf_33 ?_
              refine wp_ifn qf_91 ?_
              refine wp_of (f_X13_isBetween_15.eq_1 ..) ?_
              refine wp_gd qf_18 ?_
              refine wp_ret_bd ?_
              refine wp_gd qf_18 ?_
              refine wp_ret_bd ?_
              refine wp_ifn qf_19 ?_
              refine wp_bd ?_
              refine wp_of (f_X13_isDeck.eq_1 ..) ?_
              refine wp_bd ?_
              refine wp_of (f_X13_isBetween.eq_1 ..) ?_
              refine wp_ifn qf_38 ?_
              refine wp_ifn qf_94 ?_
              refine wp_of (f_X13_isBetween_15.eq_1 ..) ?_
              refine wp_gd qf_18 ?_
              refine wp_ret_bd ?_
              refine wp_gd qf_18 ?_
              refine wp_ret_bd ?_
              refine wp_ifn qf_19 ?_
              refine wp_gd ql_K_149 ?_
              refine wp_bd ?_
              refine wp_of (f_X13_isEmpty.eq_1 ..) ?_
              refine wp_gd ql_K_149 ?_
              refine wp_lt ql_R_149_2 ?_
              refine wp_gd ql_K_151 ?_
              refine wp_gd (gZi ql_Z_151 qf_89) ?_
              refine wp_lt (gRk qf_36 ql_R_151_1) ?_
              refine wp_gd ql_K_156 ?_
              refine wp_lt ql_R_156_0 ?_
              refine wp_ifp qf_77 ?_
              refine wp_of (f_X13_isEmpty_17.eq_1 ..) ?_
              refine wp_gd qf_18 ?_
              refine wp_ret_bd ?_
              refine wp_ifn qf_19 ?_
              refine wp_of (f_X13_sync_40.eq_1 ..) ?_
              refine wp_of (f_X13_sync_45.eq_1 ..) ?_
              refine wp_gd ql_K_149 ?_
              refine wp_bd ?_
              refine wp_of (f_X13_isWrong.eq_1 ..) ?_
              refine wp_gd ql_K_149 ?_
              refine wp_zI ?_
              refine wp_ifn qf_100 ?_
              refine wp_of (f_X13_isWrong_14.eq_1 ..) ?_
              refine wp_gd qf_18 ?_
              refine wp_ret_bd ?_
              refine wp_ifn qf_19 ?_
              refine wp_ret_bd ?_
              refine wp_gd ql_K_149 ?_
              refine wp_bd ?_
              refine wp_of (f_X13_thrown.eq_1 ..) ?_
              refine wp_gd ql_K_149 ?_
              refine wp_lt gI_s ?_
              refine wp_ret_bd ?_
              refine wp_ifp qf_101 ?_
              refine wp_ifn qf_102 ?_
              refine wp_of (f_L_law_2517.eq_1 ..) ?_
              refine wp_of (f_L_law_3632.eq_1 ..) ?_
              refine wp_lt qf_21 ?_
              exact hrc _
            · skip
              refine wp_gd (gZi ql_Z_16 qf_95) ?_
              refine wp_lt (gRk qf_46 ql_R_16_3) ?_
              refine wp_of (f_X8_deckAt_23.eq_1 ..) ?_
              refine wp_ret_bd ?_
              refine wp_ifn qf_96 ?_
              refine wp_ret_bd ?_
              refine wp_bd ?_
              refine wp_of (f_X10_demandPair.eq_1 ..) ?_
              refine wp_bd ?_
              refine wp_of (f_X10_demandRecord.eq_1 ..) ?_
              refine wp_gd ql_K_25 ?_
              refine wp_lt ql_R_25_2 ?_
              refine wp_ifp qf_77 ?_
              refine wp_rs_bd ?_
              refine wp_rs_bd ?_
              refine wp_rs_bdc ?_
              refine wp_ifn qf_98 ?_
              refine wp_ifp qf_99 ?_
              refine wp_ret_bd ?_
              refine wp_gd qf_0 ?_
              refine wp_lt (xsk qf_1 hy1) ?_
              refine wp_gd qf_2 ?_
              refine wp_lt (xsk qf_3 hy2) ?_
              refine wp_gd ql_K_149 ?_
              refine wp_bd ?_
              refine wp_of (f_X13_sync.eq_1 ..) ?_
              refine wp_bd ?_
              refine wp_of (f_X13_isDeck.eq_1 ..) ?_
              refine wp_bd ?_
              refine wp_of (f_X13_isBetween.eq_1 ..) ?_
              refine wp_ifn qf_33 ?_
              refine wp_ifn qf_91 ?_
              refine wp_of (f_X13_isBetween_15.eq_1 ..) ?_
              refine wp_gd qf_18 ?_
              refine wp_ret_bd ?_
              refine wp_gd qf_18 ?_
              refine wp_ret_bd ?_
              refine wp_ifn qf_19 ?_
              refine wp_bd ?_
              refine wp_of (f_X13_isDeck.eq_1 ..) ?_
              refine wp_bd ?_
              refine wp_of (f_X13_isBetween.eq_1 ..) ?_
              refine wp_ifn qf_43 ?_
              refine wp_ifn qf_97 ?_
              refine wp_of (f_X13_isBetween_15.eq_1 ..) ?_
              refine wp_gd qf_18 ?_
              refine wp_ret_bd ?_
              refine wp_gd qf_18 ?_
              refine wp_ret_bd ?_
              refine wp_ifn qf_19 ?_
              refine wp_gd ql_K_149 ?_
              refine wp_bd ?_
              refine wp_of (f_X13_isEmpty.eq_1 ..) ?_
              refine wp_gd ql_K_149 ?_
              refine wp_lt ql_R_149_2 ?_
              refine wp_gd ql_K_151 ?_
              refine wp_gd (gZi ql_Z_151 qf_89) ?_
              refine wp_lt (gRk qf_36 ql_R_151_1) ?_
              refine wp_gd ql_K_156 ?_
              refine wp_lt ql_R_156_0 ?_
              refine wp_ifp qf_77 ?_
              refine wp_of (f_X13_isEmpty_17.eq_1 ..) ?_
              refine wp_gd qf_18 ?_
              refine wp_ret_bd ?_
              refine wp_ifn qf_19 ?_
              refine wp_of (f_X13_sync_40.eq_1 ..) ?_
              refine wp_of (f_X13_sync_45.eq_1 ..) ?_
              refine wp_gd ql_K_149 ?_
              refine wp_bd ?_
              refine wp_of (f_X13_isWrong.eq_1 ..) ?_
              refine wp_gd ql_K_149 ?_
              refine wp_zI ?_
              refine wp_ifn qf_100 ?_
              refine wp_of (f_X13_isWrong_14.eq_1 ..) ?_
              refine wp_gd qf_18 ?_
              refine wp_ret_bd ?_
              refine wp_ifn qf_19 ?_
              refine wp_ret_bd ?_
              refine wp_gd ql_K_149 ?_
              refine wp_bd ?_
              refine wp_of (f_X13_thrown.eq_1 ..) ?_
              refine wp_gd ql_K_149 ?_
              refine wp_lt gI_s ?_
              refine wp_ret_bd ?_
              refine wp_ifp qf_101 ?_
              refine wp_ifn qf_102 ?_
              refine wp_of (f_L_law_2517.eq_1 ..) ?_
              refine wp_of (f_L_law_3632.eq_1 ..) ?_
              refine wp_lt qf_21 ?_
              exact hrc _
      · skip
        refine wp_gd (gZi ql_Z_16 qf_92) ?_
        refine wp_lt (gRk qf_41 ql_R_16_2) ?_
        refine wp_of (f_X8_deckAt_23.eq_1 ..) ?_
        refine wp_ret_bd ?_
        refine wp_ifn qf_93 ?_
        refine wp_ret_bd ?_
        refine wp_gd ql_K_1 ?_
        refine wp_bd ?_
        refine wp_of (f_X10_deckOf.eq_1 ..) ?_
        refine wp_gd ql_K_1 ?_
        refine wp_lt ql_R_1_0 ?_
        refine wp_gd ql_K_2 ?_
        refine wp_bd ?_
        refine wp_of (f_X8_deckAt.eq_1 ..) ?_
        refine wp_if (fun c3 => ?_) (fun c3 => ?_)
        · skip
          refine wp_of (f_X8_deckAt_22.eq_1 ..) ?_
          refine wp_of (f_X8_deckAt_23.eq_1 ..) ?_
          refine wp_ret_bd ?_
          refine wp_ifp qf_77 ?_
          refine wp_rs_bd ?_
          refine wp_rs_bdc ?_
          refine wp_ifp qf_78 ?_
          refine wp_ret_bd ?_
          refine wp_gd qf_0 ?_
          refine wp_lt (xsk qf_1 hy1) ?_
          refine wp_gd qf_2 ?_
          refine wp_lt (xsk qf_3 hy2) ?_
          refine wp_gd ql_K_149 ?_
          refine wp_bd ?_
          refine wp_of (f_X13_sync.eq_1 ..) ?_
          refine wp_bd ?_
          refine wp_of (f_X13_isDeck.eq_1 ..) ?_
          refine wp_bd ?_
          refine wp_of (f_X13_isBetween.eq_1 ..) ?_
          refine wp_ifn qf_38 ?_
          refine wp_ifn qf_94 ?_
          refine wp_of (f_X13_isBetween_15.eq_1 ..) ?_
          refine wp_gd qf_18 ?_
          refine wp_ret_bd ?_
          refine wp_gd qf_18 ?_
          refine wp_ret_bd ?_
          refine wp_ifn qf_19 ?_
          refine wp_bd ?_
          refine wp_of (f_X13_isDeck.eq_1 ..) ?_
          refine wp_bd ?_
          refine wp_of (f_X13_isBetween.eq_1 ..) ?_
          refine wp_ifp c3 ?_
          refine wp_of (f_X13_isBetween_14.eq_1 ..) ?_
          refine wp_of (f_X13_isBetween_15.eq_1 ..) ?_
          refine wp_gd qf_14 ?_
          refine wp_ret_bd ?_
          refine wp_gd qf_14 ?_
          refine wp_ret_bd ?_
          refine wp_ifp qf_15 ?_
          refine wp_of (f_X13_sync_15.eq_1 ..) ?_
          refine wp_of (f_X13_sync_45.eq_1 ..) ?_
          refine wp_gd ql_K_149 ?_
          refine wp_bd ?_
          refine wp_of (f_X13_isWrong.eq_1 ..) ?_
          refine wp_gd ql_K_149 ?_
          refine wp_zI ?_
          refine wp_ifn qf_17 ?_
          refine wp_of (f_X13_isWrong_14.eq_1 ..) ?_
          refine wp_gd qf_18 ?_
          refine wp_ret_bd ?_
          refine wp_ifn qf_19 ?_
          refine wp_ret_bd ?_
          refine wp_gd ql_K_149 ?_
          refine wp_bd ?_
          refine wp_of (f_X13_thrown.eq_1 ..) ?_
          refine wp_gd ql_K_149 ?_
          refine wp_lt gI_s ?_
          refine wp_ret_bd ?_
          refine wp_ifp qf_20 ?_
          refine wp_ifn qf_19 ?_
          refine wp_of (f_L_law_2517.eq_1 ..) ?_
          refine wp_of (f_L_law_3632.eq_1 ..) ?_
          refine wp_lt qf_21 ?_
          exact hrc _
        · skip
          refine wp_gd ql_K_2 ?_
          refine wp_lt ql_R_2_1 ?_
          refine wp_gd ql_K_16 ?_
          refine wp_lt (gZo ql_Z_16 qf_82) ?_
          refine wp_if (fun c4 => ?_) (fun c4 => ?_)
          · skip
            refine wp_of (f_X8_deckAt_22.eq_1 ..) ?_
            refine wp_of (f_X8_deckAt_23.eq_1 ..) ?_
            refine wp_ret_bd ?_
            refine wp_ifp qf_77 ?_
            refine wp_rs_bd ?_
            refine wp_rs_bdc ?_
            refine wp_ifp qf_78 ?_
            refine wp_ret_bd ?_
            refine wp_gd qf_0 ?_
            refine wp_lt (xsk qf_1 hy1) ?_
            refine wp_gd qf_2 ?_
            refine wp_lt (xsk qf_3 hy2) ?_
            refine wp_gd ql_K_149 ?_
            refine wp_bd ?_
            refine wp_of (f_X13_sync.eq_1 ..) ?_
            refine wp_bd ?_
            refine wp_of (f_X13_isDeck.eq_1 ..) ?_
            refine wp_bd ?_
            refine wp_of (f_X13_isBetween.eq_1 ..) ?_
            refine wp_ifn qf_38 ?_
            refine wp_ifn qf_94 ?_
            refine wp_of (f_X13_isBetween_15.eq_1 ..) ?_
            refine wp_gd qf_18 ?_
            refine wp_ret_bd ?_
            refine wp_gd qf_18 ?_
            refine wp_ret_bd ?_
            refine wp_ifn qf_19 ?_
            refine wp_bd ?_
            refine wp_of (f_X13_isDeck.eq_1 ..) ?_
            refine wp_bd ?_
            refine wp_of (f_X13_isBetween.eq_1 ..) ?_
            refine wp_ifn c3 ?_
            refine wp_ifp (show ((3 : Int32) < y2) from by have e0 := qf_80; have e1 := qf_83; have e2 := qf_84; simp only [Int32.lt_iff_toInt_lt, Int32.le_iff_toInt_le, ← Int32.toInt_inj] at c3 c4 ⊢; omega) ?_
            refine wp_of (f_X13_isBetween_14.eq_1 ..) ?_
            refine wp_of (f_X13_isBetween_15.eq_1 ..) ?_
            refine wp_gd qf_14 ?_
            refine wp_ret_bd ?_
            refine wp_gd qf_14 ?_
            refine wp_ret_bd ?_
            refine wp_ifp qf_15 ?_
            refine wp_of (f_X13_sync_15.eq_1 ..) ?_
            refine wp_of (f_X13_sync_45.eq_1 ..) ?_
            refine wp_gd ql_K_149 ?_
            refine wp_bd ?_
            refine wp_of (f_X13_isWrong.eq_1 ..) ?_
            refine wp_gd ql_K_149 ?_
            refine wp_zI ?_
            refine wp_ifn qf_17 ?_
            refine wp_of (f_X13_isWrong_14.eq_1 ..) ?_
            refine wp_gd qf_18 ?_
            refine wp_ret_bd ?_
            refine wp_ifn qf_19 ?_
            refine wp_ret_bd ?_
            refine wp_gd ql_K_149 ?_
            refine wp_bd ?_
            refine wp_of (f_X13_thrown.eq_1 ..) ?_
            refine wp_gd ql_K_149 ?_
            refine wp_lt gI_s ?_
            refine wp_ret_bd ?_
            refine wp_ifp qf_20 ?_
            refine wp_ifn qf_19 ?_
            refine wp_of (f_L_law_2517.eq_1 ..) ?_
            refine wp_of (f_L_law_3632.eq_1 ..) ?_
            refine wp_lt qf_21 ?_
            exact hrc _
          · skip
            refine wp_lt ql_R_2_1 ?_
            refine wp_gd ql_K_16 ?_
            rcases (show y2 = (0 : Int32) ∨ y2 = (1 : Int32) ∨ y2 = (2 : Int32) ∨ y2 = (3 : Int32) from by have e0 := qf_80; have e1 := qf_85; have e2 := qf_86; have e3 := qf_83; have e4 := qf_84; simp only [Int32.lt_iff_toInt_lt, Int32.le_iff_toInt_le] at c3 c4; simp only [← Int32.toInt_inj]; omega) with rfl | rfl | rfl | rfl
            · skip
              refine wp_gd (gZi ql_Z_16 qf_87) ?_
              refine wp_lt (gRk qf_32 ql_R_16_0) ?_
              refine wp_of (f_X8_deckAt_23.eq_1 ..) ?_
              refine wp_ret_bd ?_
              refine wp_ifn qf_88 ?_
              refine wp_ret_bd ?_
              refine wp_bd ?_
              refine wp_of (f_X10_demandPair.eq_1 ..) ?_
              refine wp_bd ?_
              refine wp_of (f_X10_demandRecord.eq_1 ..) ?_
              refine wp_gd ql_K_33 ?_
              refine wp_lt ql_R_33_2 ?_
              refine wp_ifp qf_77 ?_
              refine wp_rs_bd ?_
              refine wp_rs_bd ?_
              refine wp_rs_bdc ?_
              refine wp_ifn qf_98 ?_
              refine wp_ifp qf_99 ?_
              refine wp_ret_bd ?_
              refine wp_gd qf_0 ?_
              refine wp_lt (xsk qf_1 hy1) ?_
              refine wp_gd qf_2 ?_
              refine wp_lt (xsk qf_3 hy2) ?_
              refine wp_gd ql_K_149 ?_
              refine wp_bd ?_
              refine wp_of (f_X13_sync.eq_1 ..) ?_
              refine wp_bd ?_
              refine wp_of (f_X13_isDeck.eq_1 ..) ?_
              refine wp_bd ?_
              refine wp_of (f_X13_isBetween.eq_1 ..) ?_
              refine wp_ifn qf_38 ?_
              refine wp_ifn qf_94 ?_
              refine wp_of (f_X13_isBetween_15.eq_1 ..) ?_
              refine wp_gd qf_18 ?_
              refine wp_ret_bd ?_
              refine wp_gd qf_18 ?_
              refine wp_ret_bd ?_
              refine wp_ifn qf_19 ?_
              refine wp_bd ?_
              refine wp_of (f_X13_isDeck.eq_1 ..) ?_
              refine wp_bd ?_
              refine wp_of (f_X13_isBetween.eq_1 ..) ?_
              refine wp_ifn qf_28 ?_
              refine wp_ifn qf_43 ?_
              refine wp_of (f_X13_isBetween_15.eq_1 ..) ?_
              refine wp_gd qf_18 ?_
              refine wp_ret_bd ?_
              refine wp_gd qf_18 ?_
              refine wp_ret_bd ?_
              refine wp_ifn qf_19 ?_
              refine wp_gd ql_K_149 ?_
              refine wp_bd ?_
              refine wp_of (f_X13_isEmpty.eq_1 ..) ?_
              refine wp_gd ql_K_149 ?_
              refine wp_lt ql_R_149_2 ?_
              refine wp_gd ql_K_151 ?_
              refine wp_gd (gZi ql_Z_151 qf_92) ?_
              refine wp_lt (gRk qf_41 ql_R_151_2) ?_
              refine wp_gd ql_K_160 ?_
              refine wp_lt ql_R_160_0 ?_
              refine wp_ifp qf_77 ?_
              refine wp_of (f_X13_isEmpty_17.eq_1 ..) ?_
              refine wp_gd qf_18 ?_
              refine wp_ret_bd ?_
              refine wp_ifn qf_19 ?_
              refine wp_of (f_X13_sync_40.eq_1 ..) ?_
              refine wp_of (f_X13_sync_45.eq_1 ..) ?_
              refine wp_gd ql_K_149 ?_
              refine wp_bd ?_
              refine wp_of (f_X13_isWrong.eq_1 ..) ?_
              refine wp_gd ql_K_149 ?_
              refine wp_zI ?_
              refine wp_ifn qf_100 ?_
              refine wp_of (f_X13_isWrong_14.eq_1 ..) ?_
              refine wp_gd qf_18 ?_
              refine wp_ret_bd ?_
              refine wp_ifn qf_19 ?_
              refine wp_ret_bd ?_
              refine wp_gd ql_K_149 ?_
              refine wp_bd ?_
              refine wp_of (f_X13_thrown.eq_1 ..) ?_
              refine wp_gd ql_K_149 ?_
              refine wp_lt gI_s ?_
              refine wp_ret_bd ?_
              refine wp_ifp qf_101 ?_
              refine wp_ifn qf_102 ?_
              refine wp_of (f_L_law_2517.eq_1 ..) ?_
              refine wp_of (f_L_law_3632.eq_1 ..) ?_
              refine wp_lt qf_21 ?_
              exact hrc _
            · skip
              refine wp_gd (gZi ql_Z_16 qf_89) ?_
              refine wp_lt (gRk qf_36 ql_R_16_1) ?_
              refine wp_of (f_X8_deckAt_23.eq_1 ..) ?_
              refine wp_ret_bd ?_
              refine wp_ifn qf_90 ?_
              refine wp_ret_bd ?_
              refine wp_bd ?_
              refine wp_of (f_X10_demandPair.eq_1 ..) ?_
              refine wp_bd ?_
              refine wp_of (f_X10_demandRecord.eq_1 ..) ?_
              refine wp_gd ql_K_33 ?_
              refine wp_lt ql_R_33_2 ?_
              refine wp_ifp qf_77 ?_
              refine wp_rs_bd ?_
              refine wp_rs_bd ?_
              refine wp_rs_bdc ?_
              refine wp_ifn qf_98 ?_
              refine wp_ifp qf_99 ?_
              refine wp_ret_bd ?_
              refine wp_gd qf_0 ?_
              refine wp_lt (xsk qf_1 hy1) ?_
              refine wp_gd qf_2 ?_
              refine wp_lt (xsk qf_3 hy2) ?_
              refine wp_gd ql_K_149 ?_
              refine wp_bd ?_
              refine wp_of (f_X13_sync.eq_1 ..) ?_
              refine wp_bd ?_
              refine wp_of (f_X13_isDeck.eq_1 ..) ?_
              refine wp_bd ?_
              refine wp_of (f_X13_isBetween.eq_1 ..) ?_
              refine wp_ifn qf_38 ?_
              refine wp_ifn qf_94 ?_
              refine wp_of (f_X13_isBetween_15.eq_1 ..) ?_
              refine wp_gd qf_18 ?_
              refine wp_ret_bd ?_
              refine wp_gd qf_18 ?_
              refine wp_ret_bd ?_
              refine wp_ifn qf_19 ?_
              refine wp_bd ?_
              refine wp_of (f_X13_isDeck.eq_1 ..) ?_
              refine wp_bd ?_
              refine wp_of (f_X13_isBetween.eq_1 ..) ?_
              refine wp_ifn qf_33 ?_
              refine wp_ifn qf_91 ?_
              refine wp_of (f_X13_isBetween_15.eq_1 ..) ?_
              refine wp_gd qf_18 ?_
              refine wp_ret_bd ?_
              refine wp_gd qf_18 ?_
              refine wp_ret_bd ?_
              refine wp_ifn qf_19 ?_
              refine wp_gd ql_K_149 ?_
              refine wp_bd ?_
              refine wp_of (f_X13_isEmpty.eq_1 ..) ?_
              refine wp_gd ql_K_149 ?_
              refine wp_lt ql_R_149_2 ?_
              refine wp_gd ql_K_151 ?_
              refine wp_gd (gZi ql_Z_151 qf_92) ?_
              refine wp_lt (gRk qf_41 ql_R_151_2) ?_
              refine wp_gd ql_K_160 ?_
              refine wp_lt ql_R_160_0 ?_
              refine wp_ifp qf_77 ?_
              refine wp_of (f_X13_isEmpty_17.eq_1 ..) ?_
              refine wp_gd qf_18 ?_
              refine wp_ret_bd ?_
              refine wp_ifn qf_19 ?_
              refine wp_of (f_X13_sync_40.eq_1 ..) ?_
              refine wp_of (f_X13_sync_45.eq_1 ..) ?_
              refine wp_gd ql_K_149 ?_
              refine wp_bd ?_
              refine wp_of (f_X13_isWrong.eq_1 ..) ?_
              refine wp_gd ql_K_149 ?_
              refine wp_zI ?_
              refine wp_ifn qf_100 ?_
              refine wp_of (f_X13_isWrong_14.eq_1 ..) ?_
              refine wp_gd qf_18 ?_
              refine wp_ret_bd ?_
              refine wp_ifn qf_19 ?_
              refine wp_ret_bd ?_
              refine wp_gd ql_K_149 ?_
              refine wp_bd ?_
              refine wp_of (f_X13_thrown.eq_1 ..) ?_
              refine wp_gd ql_K_149 ?_
              refine wp_lt gI_s ?_
              refine wp_ret_bd ?_
              refine wp_ifp qf_101 ?_
              refine wp_ifn qf_102 ?_
              refine wp_of (f_L_law_2517.eq_1 ..) ?_
              refine wp_of (f_L_law_3632.eq_1 ..) ?_
              refine wp_lt qf_21 ?_
              exact hrc _
            · skip
              refine wp_gd (gZi ql_Z_16 qf_92) ?_
              refine wp_lt (gRk qf_41 ql_R_16_2) ?_
              refine wp_of (f_X8_deckAt_23.eq_1 ..) ?_
              refine wp_ret_bd ?_
              refine wp_ifn qf_93 ?_
              refine wp_ret_bd ?_
              refine wp_bd ?_
              refine wp_of (f_X10_demandPair.eq_1 ..) ?_
              refine wp_bd ?_
              refine wp_of (f_X10_demandRecord.eq_1 ..) ?_
              refine wp_gd ql_K_33 ?_
              refine wp_lt ql_R_33_2 ?_
              refine wp_ifp qf_77 ?_
              refine wp_rs_bd ?_
              refine wp_rs_bd ?_
              refine wp_rs_bdc ?_
              refine wp_ifn qf_98 ?_
              refine wp_ifp qf_99 ?_
              refine wp_ret_bd ?_
              refine wp_gd qf_0 ?_
              refine wp_lt (xsk qf_1 hy1) ?_
              refine wp_gd qf_2 ?_
              refine wp_lt (xsk qf_3 hy2) ?_
              refine wp_gd ql_K_149 ?_
              refine wp_bd ?_
              refine wp_of (f_X13_sync.eq_1 ..) ?_
              refine wp_bd ?_
              refine wp_of (f_X13_isDeck.eq_1 ..) ?_
              refine wp_bd ?_
              refine wp_of (f_X13_isBetween.eq_1 ..) ?_
              refine wp_ifn qf_38 ?_
              refine wp_ifn qf_94 ?_
              refine wp_of (f_X13_isBetween_15.eq_1 ..) ?_
              refine wp_gd qf_18 ?_
              refine wp_ret_bd ?_
              refine wp_gd qf_18 ?_
              refine wp_ret_bd ?_
              refine wp_ifn qf_19 ?_
              refine wp_bd ?_
              refine wp_of (f_X13_isDeck.eq_1 ..) ?_
              refine wp_bd ?_
              refine wp_of (f_X13_isBetween.eq_1 ..) ?_
              refine wp_ifn qf_38 ?_
              refine wp_ifn qf_94 ?_
              refine wp_of (f_X13_isBetween_15.eq_1 ..) ?_
              refine wp_gd qf_18 ?_
              refine wp_ret_bd ?_
              refine wp_gd qf_18 ?_
              refine wp_ret_bd ?_
              refine wp_ifn qf_19 ?_
              refine wp_gd ql_K_149 ?_
              refine wp_bd ?_
              refine wp_of (f_X13_isEmpty.eq_1 ..) ?_
              refine wp_gd ql_K_149 ?_
              refine wp_lt ql_R_149_2 ?_
              refine wp_gd ql_K_151 ?_
              refine wp_gd (gZi ql_Z_151 qf_92) ?_
              refine wp_lt (gRk qf_41 ql_R_151_2) ?_
              refine wp_gd ql_K_160 ?_
              refine wp_lt ql_R_160_0 ?_
              refine wp_ifp qf_77 ?_
              refine wp_of (f_X13_isEmpty_17.eq_1 ..) ?_
              refine wp_gd qf_18 ?_
              refine wp_ret_bd ?_
              refine wp_ifn qf_19 ?_
              refine wp_of (f_X13_sync_40.eq_1 ..) ?_
              refine wp_of (f_X13_sync_45.eq_1 ..) ?_
              refine wp_gd ql_K_149 ?_
              refine wp_bd ?_
              refine wp_of (f_X13_isWrong.eq_1 ..) ?_
              refine wp_gd ql_K_149 ?_
              refine wp_zI ?_
              refine wp_ifn qf_100 ?_
              refine wp_of (f_X13_isWrong_14.eq_1 ..) ?_
              refine wp_gd qf_18 ?_
              refine wp_ret_bd ?_
              refine wp_ifn qf_19 ?_
              refine wp_ret_bd ?_
              refine wp_gd ql_K_149 ?_
              refine wp_bd ?_
              refine wp_of (f_X13_thrown.eq_1 ..) ?_
              refine wp_gd ql_K_149 ?_
              refine wp_lt gI_s ?_
              refine wp_ret_bd ?_
              refine wp_ifp qf_101 ?_
              refine wp_ifn qf_102 ?_
              refine wp_of (f_L_law_2517.eq_1 ..) ?_
              refine wp_of (f_L_law_3632.eq_1 ..) ?_
              refine wp_lt qf_21 ?_
              exact hrc _
            · skip
              refine wp_gd (gZi ql_Z_16 qf_95) ?_
              refine wp_lt (gRk qf_46 ql_R_16_3) ?_
              refine wp_of (f_X8_deckAt_23.eq_1 ..) ?_
              refine wp_ret_bd ?_
              refine wp_ifn qf_96 ?_
              refine wp_ret_bd ?_
              refine wp_bd ?_
              refine wp_of (f_X10_demandPair.eq_1 ..) ?_
              refine wp_bd ?_
              refine wp_of (f_X10_demandRecord.eq_1 ..) ?_
              refine wp_gd ql_K_33 ?_
              refine wp_lt ql_R_33_2 ?_
              refine wp_ifp qf_77 ?_
              refine wp_rs_bd ?_
              refine wp_rs_bd ?_
              refine wp_rs_bdc ?_
              refine wp_ifn qf_98 ?_
              refine wp_ifp qf_99 ?_
              refine wp_ret_bd ?_
              refine wp_gd qf_0 ?_
              refine wp_lt (xsk qf_1 hy1) ?_
              refine wp_gd qf_2 ?_
              refine wp_lt (xsk qf_3 hy2) ?_
              refine wp_gd ql_K_149 ?_
              refine wp_bd ?_
              refine wp_of (f_X13_sync.eq_1 ..) ?_
              refine wp_bd ?_
              refine wp_of (f_X13_isDeck.eq_1 ..) ?_
              refine wp_bd ?_
              refine wp_of (f_X13_isBetween.eq_1 ..) ?_
              refine wp_ifn qf_38 ?_
              refine wp_ifn qf_94 ?_
              refine wp_of (f_X13_isBetween_15.eq_1 ..) ?_
              refine wp_gd qf_18 ?_
              refine wp_ret_bd ?_
              refine wp_gd qf_18 ?_
              refine wp_ret_bd ?_
              refine wp_ifn qf_19 ?_
              refine wp_bd ?_
              refine wp_of (f_X13_isDeck.eq_1 ..) ?_
              refine wp_bd ?_
              refine wp_of (f_X13_isBetween.eq_1 ..) ?_
              refine wp_ifn qf_43 ?_
              refine wp_ifn qf_97 ?_
              refine wp_of (f_X13_isBetween_15.eq_1 ..) ?_
              refine wp_gd qf_18 ?_
              refine wp_ret_bd ?_
              refine wp_gd qf_18 ?_
              refine wp_ret_bd ?_
              refine wp_ifn qf_19 ?_
              refine wp_gd ql_K_149 ?_
              refine wp_bd ?_
              refine wp_of (f_X13_isEmpty.eq_1 ..) ?_
              refine wp_gd ql_K_149 ?_
              refine wp_lt ql_R_149_2 ?_
              refine wp_gd ql_K_151 ?_
              refine wp_gd (gZi ql_Z_151 qf_92) ?_
              refine wp_lt (gRk qf_41 ql_R_151_2) ?_
              refine wp_gd ql_K_160 ?_
              refine wp_lt ql_R_160_0 ?_
              refine wp_ifp qf_77 ?_
              refine wp_of (f_X13_isEmpty_17.eq_1 ..) ?_
              refine wp_gd qf_18 ?_
              refine wp_ret_bd ?_
              refine wp_ifn qf_19 ?_
              refine wp_of (f_X13_sync_40.eq_1 ..) ?_
              refine wp_of (f_X13_sync_45.eq_1 ..) ?_
              refine wp_gd ql_K_149 ?_
              refine wp_bd ?_
              refine wp_of (f_X13_isWrong.eq_1 ..) ?_
              refine wp_gd ql_K_149 ?_
              refine wp_zI ?_
              refine wp_ifn qf_100 ?_
              refine wp_of (f_X13_isWrong_14.eq_1 ..) ?_
              refine wp_gd qf_18 ?_
              refine wp_ret_bd ?_
              refine wp_ifn qf_19 ?_
              refine wp_ret_bd ?_
              refine wp_gd ql_K_149 ?_
              refine wp_bd ?_
              refine wp_of (f_X13_thrown.eq_1 ..) ?_
              refine wp_gd ql_K_149 ?_
              refine wp_lt gI_s ?_
              refine wp_ret_bd ?_
              refine wp_ifp qf_101 ?_
              refine wp_ifn qf_102 ?_
              refine wp_of (f_L_law_2517.eq_1 ..) ?_
              refine wp_of (f_L_law_3632.eq_1 ..) ?_
              refine wp_lt qf_21 ?_
              exact hrc _
      · skip
        refine wp_gd (gZi ql_Z_16 qf_95) ?_
        refine wp_lt (gRk qf_46 ql_R_16_3) ?_
        refine wp_of (f_X8_deckAt_23.eq_1 ..) ?_
        refine wp_ret_bd ?_
        refine wp_ifn qf_96 ?_
        refine wp_ret_bd ?_
        refine wp_gd ql_K_1 ?_
        refine wp_bd ?_
        refine wp_of (f_X10_deckOf.eq_1 ..) ?_
        refine wp_gd ql_K_1 ?_
        refine wp_lt ql_R_1_0 ?_
        refine wp_gd ql_K_2 ?_
        refine wp_bd ?_
        refine wp_of (f_X8_deckAt.eq_1 ..) ?_
        refine wp_if (fun c3 => ?_) (fun c3 => ?_)
        · skip
          refine wp_of (f_X8_deckAt_22.eq_1 ..) ?_
          refine wp_of (f_X8_deckAt_23.eq_1 ..) ?_
          refine wp_ret_bd ?_
          refine wp_ifp qf_77 ?_
          refine wp_rs_bd ?_
          refine wp_rs_bdc ?_
          refine wp_ifp qf_78 ?_
          refine wp_ret_bd ?_
          refine wp_gd qf_0 ?_
          refine wp_lt (xsk qf_1 hy1) ?_
          refine wp_gd qf_2 ?_
          refine wp_lt (xsk qf_3 hy2) ?_
          refine wp_gd ql_K_149 ?_
          refine wp_bd ?_
          refine wp_of (f_X13_sync.eq_1 ..) ?_
          refine wp_bd ?_
          refine wp_of (f_X13_isDeck.eq_1 ..) ?_
          refine wp_bd ?_
          refine wp_of (f_X13_isBetween.eq_1 ..) ?_
          refine wp_ifn qf_43 ?_
          refine wp_ifn qf_97 ?_
          refine wp_of (f_X13_isBetween_15.eq_1 ..) ?_
          refine wp_gd qf_18 ?_
          refine wp_ret_bd ?_
          refine wp_gd qf_18 ?_
          refine wp_ret_bd ?_
          refine wp_ifn qf_19 ?_
          refine wp_bd ?_
          refine wp_of (f_X13_isDeck.eq_1 ..) ?_
          refine wp_bd ?_
          refine wp_of (f_X13_isBetween.eq_1 ..) ?_
          refine wp_ifp c3 ?_
          refine wp_of (f_X13_isBetween_14.eq_1 ..) ?_
          refine wp_of (f_X13_isBetween_15.eq_1 ..) ?_
          refine wp_gd qf_14 ?_
          refine wp_ret_bd ?_
          refine wp_gd qf_14 ?_
          refine wp_ret_bd ?_
          refine wp_ifp qf_15 ?_
          refine wp_of (f_X13_sync_15.eq_1 ..) ?_
          refine wp_of (f_X13_sync_45.eq_1 ..) ?_
          refine wp_gd ql_K_149 ?_
          refine wp_bd ?_
          refine wp_of (f_X13_isWrong.eq_1 ..) ?_
          refine wp_gd ql_K_149 ?_
          refine wp_zI ?_
          refine wp_ifn qf_17 ?_
          refine wp_of (f_X13_isWrong_14.eq_1 ..) ?_
          refine wp_gd qf_18 ?_
          refine wp_ret_bd ?_
          refine wp_ifn qf_19 ?_
          refine wp_ret_bd ?_
          refine wp_gd ql_K_149 ?_
          refine wp_bd ?_
          refine wp_of (f_X13_thrown.eq_1 ..) ?_
          refine wp_gd ql_K_149 ?_
          refine wp_lt gI_s ?_
          refine wp_ret_bd ?_
          refine wp_ifp qf_20 ?_
          refine wp_ifn qf_19 ?_
          refine wp_of (f_L_law_2517.eq_1 ..) ?_
          refine wp_of (f_L_law_3632.eq_1 ..) ?_
          refine wp_lt qf_21 ?_
          exact hrc _
        · skip
          refine wp_gd ql_K_2 ?_
          refine wp_lt ql_R_2_1 ?_
          refine wp_gd ql_K_16 ?_
          refine wp_lt (gZo ql_Z_16 qf_82) ?_
          refine wp_if (fun c4 => ?_) (fun c4 => ?_)
          · skip
            refine wp_of (f_X8_deckAt_22.eq_1 ..) ?_
            refine wp_of (f_X8_deckAt_23.eq_1 ..) ?_
            refine wp_ret_bd ?_
            refine wp_ifp qf_77 ?_
            refine wp_rs_bd ?_
            refine wp_rs_bdc ?_
            refine wp_ifp qf_78 ?_
            refine wp_ret_bd ?_
            refine wp_gd qf_0 ?_
            refine wp_lt (xsk qf_1 hy1) ?_
            refine wp_gd qf_2 ?_
            refine wp_lt (xsk qf_3 hy2) ?_
            refine wp_gd ql_K_149 ?_
            refine wp_bd ?_
            refine wp_of (f_X13_sync.eq_1 ..) ?_
            refine wp_bd ?_
            refine wp_of (f_X13_isDeck.eq_1 ..) ?_
            refine wp_bd ?_
            refine wp_of (f_X13_isBetween.eq_1 ..) ?_
            refine wp_ifn qf_43 ?_
            refine wp_ifn qf_97 ?_
            refine wp_of (f_X13_isBetween_15.eq_1 ..) ?_
            refine wp_gd qf_18 ?_
            refine wp_ret_bd ?_
            refine wp_gd qf_18 ?_
            refine wp_ret_bd ?_
            refine wp_ifn qf_19 ?_
            refine wp_bd ?_
            refine wp_of (f_X13_isDeck.eq_1 ..) ?_
            refine wp_bd ?_
            refine wp_of (f_X13_isBetween.eq_1 ..) ?_
            refine wp_ifn c3 ?_
            refine wp_ifp (show ((3 : Int32) < y2) from by have e0 := qf_80; have e1 := qf_83; have e2 := qf_84; simp only [Int32.lt_iff_toInt_lt, Int32.le_iff_toInt_le, ← Int32.toInt_inj] at c3 c4 ⊢; omega) ?_
            refine wp_of (f_X13_isBetween_14.eq_1 ..) ?_
            refine wp_of (f_X13_isBetween_15.eq_1 ..) ?_
            refine wp_gd qf_14 ?_
            refine wp_ret_bd ?_
            refine wp_gd qf_14 ?_
            refine wp_ret_bd ?_
            refine wp_ifp qf_15 ?_
            refine wp_of (f_X13_sync_15.eq_1 ..) ?_
            refine wp_of (f_X13_sync_45.eq_1 ..) ?_
            refine wp_gd ql_K_149 ?_
            refine wp_bd ?_
            refine wp_of (f_X13_isWrong.eq_1 ..) ?_
            refine wp_gd ql_K_149 ?_
            refine wp_zI ?_
            refine wp_ifn qf_17 ?_
            refine wp_of (f_X13_isWrong_14.eq_1 ..) ?_
            refine wp_gd qf_18 ?_
            refine wp_ret_bd ?_
            refine wp_ifn qf_19 ?_
            refine wp_ret_bd ?_
            refine wp_gd ql_K_149 ?_
            refine wp_bd ?_
            refine wp_of (f_X13_thrown.eq_1 ..) ?_
            refine wp_gd ql_K_149 ?_
            refine wp_lt gI_s ?_
            refine wp_ret_bd ?_
            refine wp_ifp qf_20 ?_
            refine wp_ifn qf_19 ?_
            refine wp_of (f_L_law_2517.eq_1 ..) ?_
            refine wp_of (f_L_law_3632.eq_1 ..) ?_
            refine wp_lt qf_21 ?_
            exact hrc _
          · skip
            refine wp_lt ql_R_2_1 ?_
            refine wp_gd ql_K_16 ?_
            rcases (show y2 = (0 : Int32) ∨ y2 = (1 : Int32) ∨ y2 = (2 : Int32) ∨ y2 = (3 : Int32) from by have e0 := qf_80; have e1 := qf_85; have e2 := qf_86; have e3 := qf_83; have e4 := qf_84; simp only [Int32.lt_iff_toInt_lt, Int32.le_iff_toInt_le] at c3 c4; simp only [← Int32.toInt_inj]; omega) with rfl | rfl | rfl | rfl
            · skip
              refine wp_gd (gZi ql_Z_16 qf_87) ?_
              refine wp_lt (gRk qf_32 ql_R_16_0) ?_
              refine wp_of (f_X8_deckAt_23.eq_1 ..) ?_
              refine wp_ret_bd ?_
              refine wp_ifn qf_88 ?_
              refine wp_ret_bd ?_
              refine wp_bd ?_
              refine wp_of (f_X10_demandPair.eq_1 ..) ?_
              refine wp_bd ?_
              refine wp_of (f_X10_demandRecord.eq_1 ..) ?_
              refine wp_gd ql_K_41 ?_
              refine wp_lt ql_R_41_2 ?_
              refine wp_ifp qf_77 ?_
              refine wp_rs_bd ?_
              refine wp_rs_bd ?_
              refine wp_rs_bdc ?_
              refine wp_ifn qf_98 ?_
              refine wp_ifp qf_99 ?_
              refine wp_ret_bd ?_
              refine wp_gd qf_0 ?_
              refine wp_lt (xsk qf_1 hy1) ?_
              refine wp_gd qf_2 ?_
              refine wp_lt (xsk qf_3 hy2) ?_
              refine wp_gd ql_K_149 ?_
              refine wp_bd ?_
              refine wp_of (f_X13_sync.eq_1 ..) ?_
              refine wp_bd ?_
              refine wp_of (f_X13_isDeck.eq_1 ..) ?_
              refine wp_bd ?_
              refine wp_of (f_X13_isBetween.eq_1 ..) ?_
              refine wp_ifn qf_43 ?_
              refine wp_ifn qf_97 ?_
              refine wp_of (f_X13_isBetween_15.eq_1 ..) ?_
              refine wp_gd qf_18 ?_
              refine wp_ret_bd ?_
              refine wp_gd qf_18 ?_
              refine wp_ret_bd ?_
              refine wp_ifn qf_19 ?_
              refine wp_bd ?_
              refine wp_of (f_X13_isDeck.eq_1 ..) ?_
              refine wp_bd ?_
              refine wp_of (f_X13_isBetween.eq_1 ..) ?_
              refine wp_ifn qf_28 ?_
              refine wp_ifn qf_43 ?_
              refine wp_of (f_X13_isBetween_15.eq_1 ..) ?_
              refine wp_gd qf_18 ?_
              refine wp_ret_bd ?_
              refine wp_gd qf_18 ?_
              refine wp_ret_bd ?_
              refine wp_ifn qf_19 ?_
              refine wp_gd ql_K_149 ?_
              refine wp_bd ?_
              refine wp_of (f_X13_isEmpty.eq_1 ..) ?_
              refine wp_gd ql_K_149 ?_
              refine wp_lt ql_R_149_2 ?_
              refine wp_gd ql_K_151 ?_
              refine wp_gd (gZi ql_Z_151 qf_95) ?_
              refine wp_lt (gRk qf_46 ql_R_151_3) ?_
              refine wp_gd ql_K_164 ?_
              refine wp_lt ql_R_164_0 ?_
              refine wp_ifp qf_77 ?_
              refine wp_of (f_X13_isEmpty_17.eq_1 ..) ?_
              refine wp_gd qf_18 ?_
              refine wp_ret_bd ?_
              refine wp_ifn qf_19 ?_
              refine wp_of (f_X13_sync_40.eq_1 ..) ?_
              refine wp_of (f_X13_sync_45.eq_1 ..) ?_
              refine wp_gd ql_K_149 ?_
              refine wp_bd ?_
              refine wp_of (f_X13_isWrong.eq_1 ..) ?_
              refine wp_gd ql_K_149 ?_
              refine wp_zI ?_
              refine wp_ifn qf_100 ?_
              refine wp_of (f_X13_isWrong_14.eq_1 ..) ?_
              refine wp_gd qf_18 ?_
              refine wp_ret_bd ?_
              refine wp_ifn qf_19 ?_
              refine wp_ret_bd ?_
              refine wp_gd ql_K_149 ?_
              refine wp_bd ?_
              refine wp_of (f_X13_thrown.eq_1 ..) ?_
              refine wp_gd ql_K_149 ?_
              refine wp_lt gI_s ?_
              refine wp_ret_bd ?_
              refine wp_ifp qf_101 ?_
              refine wp_ifn qf_102 ?_
              refine wp_of (f_L_law_2517.eq_1 ..) ?_
              refine wp_of (f_L_law_3632.eq_1 ..) ?_
              refine wp_lt qf_21 ?_
              exact hrc _
            · skip
              refine wp_gd (gZi ql_Z_16 qf_89) ?_
              refine wp_lt (gRk qf_36 ql_R_16_1) ?_
              refine wp_of (f_X8_deckAt_23.eq_1 ..) ?_
              refine wp_ret_bd ?_
              refine wp_ifn qf_90 ?_
              refine wp_ret_bd ?_
              refine wp_bd ?_
              refine wp_of (f_X10_demandPair.eq_1 ..) ?_
              refine wp_bd ?_
              refine wp_of (f_X10_demandRecord.eq_1 ..) ?_
              refine wp_gd ql_K_41 ?_
              refine wp_lt ql_R_41_2 ?_
              refine wp_ifp qf_77 ?_
              refine wp_rs_bd ?_
              refine wp_rs_bd ?_
              refine wp_rs_bdc ?_
              refine wp_ifn qf_98 ?_
              refine wp_ifp qf_99 ?_
              refine wp_ret_bd ?_
              refine wp_gd qf_0 ?_
              refine wp_lt (xsk qf_1 hy1) ?_
              refine wp_gd qf_2 ?_
              refine wp_lt (xsk qf_3 hy2) ?_
              refine wp_gd ql_K_149 ?_
              refine wp_bd ?_
              refine wp_of (f_X13_sync.eq_1 ..) ?_
              refine wp_bd ?_
              refine wp_of (f_X13_isDeck.eq_1 ..) ?_
              refine wp_bd ?_
              refine wp_of (f_X13_isBetween.eq_1 ..) ?_
              refine wp_ifn qf_43 ?_
              refine wp_ifn qf_97 ?_
              refine wp_of (f_X13_isBetween_15.eq_1 ..) ?_
              refine wp_gd qf_18 ?_
              refine wp_ret_bd ?_
              refine wp_gd qf_18 ?_
              refine wp_ret_bd ?_
              refine wp_ifn qf_19 ?_
              refine wp_bd ?_
              refine wp_of (f_X13_isDeck.eq_1 ..) ?_
              refine wp_bd ?_
              refine wp_of (f_X13_isBetween.eq_1 ..) ?_
              refine wp_ifn qf_33 ?_
              refine wp_ifn qf_91 ?_
              refine wp_of (f_X13_isBetween_15.eq_1 ..) ?_
              refine wp_gd qf_18 ?_
              refine wp_ret_bd ?_
              refine wp_gd qf_18 ?_
              refine wp_ret_bd ?_
              refine wp_ifn qf_19 ?_
              refine wp_gd ql_K_149 ?_
              refine wp_bd ?_
              refine wp_of (f_X13_isEmpty.eq_1 ..) ?_
              refine wp_gd ql_K_149 ?_
              refine wp_lt ql_R_149_2 ?_
              refine wp_gd ql_K_151 ?_
              refine wp_gd (gZi ql_Z_151 qf_95) ?_
              refine wp_lt (gRk qf_46 ql_R_151_3) ?_
              refine wp_gd ql_K_164 ?_
              refine wp_lt ql_R_164_0 ?_
              refine wp_ifp qf_77 ?_
              refine wp_of (f_X13_isEmpty_17.eq_1 ..) ?_
              refine wp_gd qf_18 ?_
              refine wp_ret_bd ?_
              refine wp_ifn qf_19 ?_
              refine wp_of (f_X13_sync_40.eq_1 ..) ?_
              refine wp_of (f_X13_sync_45.eq_1 ..) ?_
              refine wp_gd ql_K_149 ?_
              refine wp_bd ?_
              refine wp_of (f_X13_isWrong.eq_1 ..) ?_
              refine wp_gd ql_K_149 ?_
              refine wp_zI ?_
              refine wp_ifn qf_100 ?_
              refine wp_of (f_X13_isWrong_14.eq_1 ..) ?_
              refine wp_gd qf_18 ?_
              refine wp_ret_bd ?_
              refine wp_ifn qf_19 ?_
              refine wp_ret_bd ?_
              refine wp_gd ql_K_149 ?_
              refine wp_bd ?_
              refine wp_of (f_X13_thrown.eq_1 ..) ?_
              refine wp_gd ql_K_149 ?_
              refine wp_lt gI_s ?_
              refine wp_ret_bd ?_
              refine wp_ifp qf_101 ?_
              refine wp_ifn qf_102 ?_
              refine wp_of (f_L_law_2517.eq_1 ..) ?_
              refine wp_of (f_L_law_3632.eq_1 ..) ?_
              refine wp_lt qf_21 ?_
              exact hrc _
            · skip
              refine wp_gd (gZi ql_Z_16 qf_92) ?_
              refine wp_lt (gRk qf_41 ql_R_16_2) ?_
              refine wp_of (f_X8_deckAt_23.eq_1 ..) ?_
              refine wp_ret_bd ?_
              refine wp_ifn qf_93 ?_
              refine wp_ret_bd ?_
              refine wp_bd ?_
              refine wp_of (f_X10_demandPair.eq_1 ..) ?_
              refine wp_bd ?_
              refine wp_of (f_X10_demandRecord.eq_1 ..) ?_
              refine wp_gd ql_K_41 ?_
              refine wp_lt ql_R_41_2 ?_
              refine wp_ifp qf_77 ?_
              refine wp_rs_bd ?_
              refine wp_rs_bd ?_
              refine wp_rs_bdc ?_
              refine wp_ifn qf_98 ?_
              refine wp_ifp qf_99 ?_
              refine wp_ret_bd ?_
              refine wp_gd qf_0 ?_
              refine wp_lt (xsk qf_1 hy1) ?_
              refine wp_gd qf_2 ?_
              refine wp_lt (xsk qf_3 hy2) ?_
              refine wp_gd ql_K_149 ?_
              refine wp_bd ?_
              refine wp_of (f_X13_sync.eq_1 ..) ?_
              refine wp_bd ?_
              refine wp_of (f_X13_isDeck.eq_1 ..) ?_
              refine wp_bd ?_
              refine wp_of (f_X13_isBetween.eq_1 ..) ?_
              refine wp_ifn qf_43 ?_
              refine wp_ifn qf_97 ?_
              refine wp_of (f_X13_isBetween_15.eq_1 ..) ?_
              refine wp_gd qf_18 ?_
              refine wp_ret_bd ?_
              refine wp_gd qf_18 ?_
              refine wp_ret_bd ?_
              refine wp_ifn qf_19 ?_
              refine wp_bd ?_
              refine wp_of (f_X13_isDeck.eq_1 ..) ?_
              refine wp_bd ?_
              refine wp_of (f_X13_isBetween.eq_1 ..) ?_
              refine wp_ifn qf_38 ?_
              refine wp_ifn qf_94 ?_
              refine wp_of (f_X13_isBetween_15.eq_1 ..) ?_
              refine wp_gd qf_18 ?_
              refine wp_ret_bd ?_
              refine wp_gd qf_18 ?_
              refine wp_ret_bd ?_
              refine wp_ifn qf_19 ?_
              refine wp_gd ql_K_149 ?_
              refine wp_bd ?_
              refine wp_of (f_X13_isEmpty.eq_1 ..) ?_
              refine wp_gd ql_K_149 ?_
              refine wp_lt ql_R_149_2 ?_
              refine wp_gd ql_K_151 ?_
              refine wp_gd (gZi ql_Z_151 qf_95) ?_
              refine wp_lt (gRk qf_46 ql_R_151_3) ?_
              refine wp_gd ql_K_164 ?_
              refine wp_lt ql_R_164_0 ?_
              refine wp_ifp qf_77 ?_
              refine wp_of (f_X13_isEmpty_17.eq_1 ..) ?_
              refine wp_gd qf_18 ?_
              refine wp_ret_bd ?_
              refine wp_ifn qf_19 ?_
              refine wp_of (f_X13_sync_40.eq_1 ..) ?_
              refine wp_of (f_X13_sync_45.eq_1 ..) ?_
              refine wp_gd ql_K_149 ?_
              refine wp_bd ?_
              refine wp_of (f_X13_isWrong.eq_1 ..) ?_
              refine wp_gd ql_K_149 ?_
              refine wp_zI ?_
              refine wp_ifn qf_100 ?_
              refine wp_of (f_X13_isWrong_14.eq_1 ..) ?_
              refine wp_gd qf_18 ?_
              refine wp_ret_bd ?_
              refine wp_ifn qf_19 ?_
              refine wp_ret_bd ?_
              refine wp_gd ql_K_149 ?_
              refine wp_bd ?_
              refine wp_of (f_X13_thrown.eq_1 ..) ?_
              refine wp_gd ql_K_149 ?_
              refine wp_lt gI_s ?_
              refine wp_ret_bd ?_
              refine wp_ifp qf_101 ?_
              refine wp_ifn qf_102 ?_
              refine wp_of (f_L_law_2517.eq_1 ..) ?_
              refine wp_of (f_L_law_3632.eq_1 ..) ?_
              refine wp_lt qf_21 ?_
              exact hrc _
            · skip
              refine wp_gd (gZi ql_Z_16 qf_95) ?_
              refine wp_lt (gRk qf_46 ql_R_16_3) ?_
              refine wp_of (f_X8_deckAt_23.eq_1 ..) ?_
              refine wp_ret_bd ?_
              refine wp_ifn qf_96 ?_
              refine wp_ret_bd ?_
              refine wp_bd ?_
              refine wp_of (f_X10_demandPair.eq_1 ..) ?_
              refine wp_bd ?_
              refine wp_of (f_X10_demandRecord.eq_1 ..) ?_
              refine wp_gd ql_K_41 ?_
              refine wp_lt ql_R_41_2 ?_
              refine wp_ifp qf_77 ?_
              refine wp_rs_bd ?_
              refine wp_rs_bd ?_
              refine wp_rs_bdc ?_
              refine wp_ifn qf_98 ?_
              refine wp_ifp qf_99 ?_
              refine wp_ret_bd ?_
              refine wp_gd qf_0 ?_
              refine wp_lt (xsk qf_1 hy1) ?_
              refine wp_gd qf_2 ?_
              refine wp_lt (xsk qf_3 hy2) ?_
              refine wp_gd ql_K_149 ?_
              refine wp_bd ?_
              refine wp_of (f_X13_sync.eq_1 ..) ?_
              refine wp_bd ?_
              refine wp_of (f_X13_isDeck.eq_1 ..) ?_
              refine wp_bd ?_
              refine wp_of (f_X13_isBetween.eq_1 ..) ?_
              refine wp_ifn qf_43 ?_
              refine wp_ifn qf_97 ?_
              refine wp_of (f_X13_isBetween_15.eq_1 ..) ?_
              refine wp_gd qf_18 ?_
              refine wp_ret_bd ?_
              refine wp_gd qf_18 ?_
              refine wp_ret_bd ?_
              refine wp_ifn qf_19 ?_
              refine wp_bd ?_
              refine wp_of (f_X13_isDeck.eq_1 ..) ?_
              refine wp_bd ?_
              refine wp_of (f_X13_isBetween.eq_1 ..) ?_
              refine wp_ifn qf_43 ?_
              refine wp_ifn qf_97 ?_
              refine wp_of (f_X13_isBetween_15.eq_1 ..) ?_
              refine wp_gd qf_18 ?_
              refine wp_ret_bd ?_
              refine wp_gd qf_18 ?_
              refine wp_ret_bd ?_
              refine wp_ifn qf_19 ?_
              refine wp_gd ql_K_149 ?_
              refine wp_bd ?_
              refine wp_of (f_X13_isEmpty.eq_1 ..) ?_
              refine wp_gd ql_K_149 ?_
              refine wp_lt ql_R_149_2 ?_
              refine wp_gd ql_K_151 ?_
              refine wp_gd (gZi ql_Z_151 qf_95) ?_
              refine wp_lt (gRk qf_46 ql_R_151_3) ?_
              refine wp_gd ql_K_164 ?_
              refine wp_lt ql_R_164_0 ?_
              refine wp_ifp qf_77 ?_
              refine wp_of (f_X13_isEmpty_17.eq_1 ..) ?_
              refine wp_gd qf_18 ?_
              refine wp_ret_bd ?_
              refine wp_ifn qf_19 ?_
              refine wp_of (f_X13_sync_40.eq_1 ..) ?_
              refine wp_of (f_X13_sync_45.eq_1 ..) ?_
              refine wp_gd ql_K_149 ?_
              refine wp_bd ?_
              refine wp_of (f_X13_isWrong.eq_1 ..) ?_
              refine wp_gd ql_K_149 ?_
              refine wp_zI ?_
              refine wp_ifn qf_100 ?_
              refine wp_of (f_X13_isWrong_14.eq_1 ..) ?_
              refine wp_gd qf_18 ?_
              refine wp_ret_bd ?_
              refine wp_ifn qf_19 ?_
              refine wp_ret_bd ?_
              refine wp_gd ql_K_149 ?_
              refine wp_bd ?_
              refine wp_of (f_X13_thrown.eq_1 ..) ?_
              refine wp_gd ql_K_149 ?_
              refine wp_lt gI_s ?_
              refine wp_ret_bd ?_
              refine wp_ifp qf_101 ?_
              refine wp_ifn qf_102 ?_
              refine wp_of (f_L_law_2517.eq_1 ..) ?_
              refine wp_of (f_L_law_3632.eq_1 ..) ?_
              refine wp_lt qf_21 ?_
              exact hrc _
end CASES6
