section CASES0
set_option maxRecDepth 100000 in
set_option maxHeartbeats 4000000 in
theorem cs_0 {xs : Nat → Int32} {rc : mS → Nat → Nat → Nat → Nat → Int32 → Option (Rs Int32)} {Q : Rs Int32 → Prop} (hrc : ∀ S, WP Q (rc S 1 149 173 174 8)) : WP Q (f_L_law_292 8 xs rc (M3I, M3L, M3R, M3D, M3K, M3Z, 174) 1 149 173 174 0) := by
  obtain ⟨y1, hy1⟩ : ∃ y, xs 1 = y := ⟨_, rfl⟩
  obtain ⟨y2, hy2⟩ : ∃ y, xs 2 = y := ⟨_, rfl⟩
  obtain ⟨y3, hy3⟩ : ∃ y, xs 3 = y := ⟨_, rfl⟩
  obtain ⟨y4, hy4⟩ : ∃ y, xs 4 = y := ⟨_, rfl⟩
  obtain ⟨y5, hy5⟩ : ∃ y, xs 5 = y := ⟨_, rfl⟩
  obtain ⟨y6, hy6⟩ : ∃ y, xs 6 = y := ⟨_, rfl⟩
  obtain ⟨y7, hy7⟩ : ∃ y, xs 7 = y := ⟨_, rfl⟩
  refine wp_of (f_L_law_292.eq_1 ..) ?_
  refine wp_gd qf_0 ?_
  refine wp_lt (xsk qf_1 hy1) ?_
  refine wp_gd qf_2 ?_
  refine wp_lt (xsk qf_3 hy2) ?_
  refine wp_gd qf_4 ?_
  refine wp_lt (xsk qf_5 hy3) ?_
  refine wp_gd qf_6 ?_
  refine wp_lt (xsk qf_7 hy4) ?_
  refine wp_gd qf_8 ?_
  refine wp_lt (xsk qf_9 hy5) ?_
  refine wp_gd qf_10 ?_
  refine wp_lt (xsk qf_11 hy6) ?_
  refine wp_gd qf_12 ?_
  refine wp_lt (xsk qf_13 hy7) ?_
  refine wp_bd ?_
  refine wp_of (f_L_addRecord.eq_1 ..) ?_
  refine wp_gd ql_K_1 ?_
  refine wp_bdc ?_
  refine wp_of (f_X10_addRecord.eq_1 ..) ?_
  refine wp_bd ?_
  refine wp_of (f_X10_isTempo.eq_1 ..) ?_
  refine wp_bd ?_
  refine wp_of (f_X10_isIn.eq_1 ..) ?_
  refine wp_if (fun c1 => ?_) (fun c1 => ?_)
  · skip
    refine wp_of (f_X10_isIn_14.eq_1 ..) ?_
    refine wp_of (f_X10_isIn_15.eq_1 ..) ?_
    refine wp_gd qf_14 ?_
    refine wp_ret_bd ?_
    refine wp_gd qf_14 ?_
    refine wp_ret_bd ?_
    refine wp_ifp qf_15 ?_
    refine wp_of (f_X10_addRecord_44.eq_1 ..) ?_
    refine wp_of (f_X10_addRecord_45.eq_1 ..) ?_
    refine wp_bd ?_
    refine wp_of (f_X10_demand.eq_1 ..) ?_
    refine wp_ifp qf_15 ?_
    refine wp_rs_bd ?_
    refine wp_rs_bdc ?_
    refine wp_ifp qf_16 ?_
    refine wp_ret_bd ?_
    refine wp_gd qf_0 ?_
    refine wp_lt (xsk qf_1 hy1) ?_
    refine wp_gd qf_2 ?_
    refine wp_lt (xsk qf_3 hy2) ?_
    refine wp_gd qf_4 ?_
    refine wp_lt (xsk qf_5 hy3) ?_
    refine wp_gd qf_6 ?_
    refine wp_lt (xsk qf_7 hy4) ?_
    refine wp_gd qf_8 ?_
    refine wp_lt (xsk qf_9 hy5) ?_
    refine wp_gd qf_10 ?_
    refine wp_lt (xsk qf_11 hy6) ?_
    refine wp_gd qf_12 ?_
    refine wp_lt (xsk qf_13 hy7) ?_
    refine wp_gd ql_K_149 ?_
    refine wp_bd ?_
    refine wp_of (f2_X13_addRecord.eq_1 ..) ?_
    refine wp_bd ?_
    refine wp_of (f_X13_isBetween.eq_1 ..) ?_
    refine wp_ifp c1 ?_
    refine wp_of (f_X13_isBetween_14.eq_1 ..) ?_
    refine wp_of (f_X13_isBetween_15.eq_1 ..) ?_
    refine wp_gd qf_14 ?_
    refine wp_ret_bd ?_
    refine wp_ifp qf_15 ?_
    refine wp_of (f2_X13_addRecord_93.eq_1 ..) ?_
    refine wp_of (f2_X13_addRecord_94.eq_1 ..) ?_
    refine wp_ifp qf_15 ?_
    refine wp_of (f2_X13_addRecord_125.eq_1 ..) ?_
    refine wp_gd ql_K_149 ?_
    refine wp_bd ?_
    refine wp_of (f_X13_isWrong.eq_1 ..) ?_
    refine wp_gd ql_K_149 ?_
    refine wp_zI ?_
    refine wp_ifn qf_17 ?_
    refine wp_of (f_X13_isWrong_14.eq_1 ..) ?_
    refine wp_gd qf_18 ?_
    refine wp_ret_bd ?_
    refine wp_ifn qf_19 ?_
    refine wp_ret_bd ?_
    refine wp_gd ql_K_149 ?_
    refine wp_bd ?_
    refine wp_of (f_X13_thrown.eq_1 ..) ?_
    refine wp_gd ql_K_149 ?_
    refine wp_lt gI_s ?_
    refine wp_ret_bd ?_
    refine wp_ifp qf_20 ?_
    refine wp_ifn qf_19 ?_
    refine wp_of (f_L_law_421.eq_1 ..) ?_
    refine wp_of (f_L_law_3632.eq_1 ..) ?_
    refine wp_lt qf_21 ?_
    exact hrc _
  · skip
    refine wp_if (fun c2 => ?_) (fun c2 => ?_)
    · skip
      refine wp_of (f_X10_isIn_14.eq_1 ..) ?_
      refine wp_of (f_X10_isIn_15.eq_1 ..) ?_
      refine wp_gd qf_14 ?_
      refine wp_ret_bd ?_
      refine wp_gd qf_14 ?_
      refine wp_ret_bd ?_
      refine wp_ifp qf_15 ?_
      refine wp_of (f_X10_addRecord_44.eq_1 ..) ?_
      refine wp_of (f_X10_addRecord_45.eq_1 ..) ?_
      refine wp_bd ?_
      refine wp_of (f_X10_demand.eq_1 ..) ?_
      refine wp_ifp qf_15 ?_
      refine wp_rs_bd ?_
      refine wp_rs_bdc ?_
      refine wp_ifp qf_16 ?_
      refine wp_ret_bd ?_
      refine wp_gd qf_0 ?_
      refine wp_lt (xsk qf_1 hy1) ?_
      refine wp_gd qf_2 ?_
      refine wp_lt (xsk qf_3 hy2) ?_
      refine wp_gd qf_4 ?_
      refine wp_lt (xsk qf_5 hy3) ?_
      refine wp_gd qf_6 ?_
      refine wp_lt (xsk qf_7 hy4) ?_
      refine wp_gd qf_8 ?_
      refine wp_lt (xsk qf_9 hy5) ?_
      refine wp_gd qf_10 ?_
      refine wp_lt (xsk qf_11 hy6) ?_
      refine wp_gd qf_12 ?_
      refine wp_lt (xsk qf_13 hy7) ?_
      refine wp_gd ql_K_149 ?_
      refine wp_bd ?_
      refine wp_of (f2_X13_addRecord.eq_1 ..) ?_
      refine wp_bd ?_
      refine wp_of (f_X13_isBetween.eq_1 ..) ?_
      refine wp_ifn c1 ?_
      refine wp_ifp c2 ?_
      refine wp_of (f_X13_isBetween_14.eq_1 ..) ?_
      refine wp_of (f_X13_isBetween_15.eq_1 ..) ?_
      refine wp_gd qf_14 ?_
      refine wp_ret_bd ?_
      refine wp_ifp qf_15 ?_
      refine wp_of (f2_X13_addRecord_93.eq_1 ..) ?_
      refine wp_of (f2_X13_addRecord_94.eq_1 ..) ?_
      refine wp_ifp qf_15 ?_
      refine wp_of (f2_X13_addRecord_125.eq_1 ..) ?_
      refine wp_gd ql_K_149 ?_
      refine wp_bd ?_
      refine wp_of (f_X13_isWrong.eq_1 ..) ?_
      refine wp_gd ql_K_149 ?_
      refine wp_zI ?_
      refine wp_ifn qf_17 ?_
      refine wp_of (f_X13_isWrong_14.eq_1 ..) ?_
      refine wp_gd qf_18 ?_
      refine wp_ret_bd ?_
      refine wp_ifn qf_19 ?_
      refine wp_ret_bd ?_
      refine wp_gd ql_K_149 ?_
      refine wp_bd ?_
      refine wp_of (f_X13_thrown.eq_1 ..) ?_
      refine wp_gd ql_K_149 ?_
      refine wp_lt gI_s ?_
      refine wp_ret_bd ?_
      refine wp_ifp qf_20 ?_
      refine wp_ifn qf_19 ?_
      refine wp_of (f_L_law_421.eq_1 ..) ?_
      refine wp_of (f_L_law_3632.eq_1 ..) ?_
      refine wp_lt qf_21 ?_
      exact hrc _
    · skip
      refine wp_of (f_X10_isIn_15.eq_1 ..) ?_
      refine wp_gd qf_18 ?_
      refine wp_ret_bd ?_
      refine wp_gd qf_18 ?_
      refine wp_ret_bd ?_
      refine wp_ifn qf_19 ?_
      refine wp_bd ?_
      refine wp_of (f_X10_isIn.eq_1 ..) ?_
      refine wp_if (fun c3 => ?_) (fun c3 => ?_)
      · skip
        refine wp_of (f_X10_isIn_14.eq_1 ..) ?_
        refine wp_of (f_X10_isIn_15.eq_1 ..) ?_
        refine wp_gd qf_14 ?_
        refine wp_ret_bd ?_
        refine wp_ifp qf_15 ?_
        refine wp_of (f_X10_addRecord_44.eq_1 ..) ?_
        refine wp_of (f_X10_addRecord_45.eq_1 ..) ?_
        refine wp_bd ?_
        refine wp_of (f_X10_demand.eq_1 ..) ?_
        refine wp_ifp qf_15 ?_
        refine wp_rs_bd ?_
        refine wp_rs_bdc ?_
        refine wp_ifp qf_16 ?_
        refine wp_ret_bd ?_
        refine wp_gd qf_0 ?_
        refine wp_lt (xsk qf_1 hy1) ?_
        refine wp_gd qf_2 ?_
        refine wp_lt (xsk qf_3 hy2) ?_
        refine wp_gd qf_4 ?_
        refine wp_lt (xsk qf_5 hy3) ?_
        refine wp_gd qf_6 ?_
        refine wp_lt (xsk qf_7 hy4) ?_
        refine wp_gd qf_8 ?_
        refine wp_lt (xsk qf_9 hy5) ?_
        refine wp_gd qf_10 ?_
        refine wp_lt (xsk qf_11 hy6) ?_
        refine wp_gd qf_12 ?_
        refine wp_lt (xsk qf_13 hy7) ?_
        refine wp_gd ql_K_149 ?_
        refine wp_bd ?_
        refine wp_of (f2_X13_addRecord.eq_1 ..) ?_
        refine wp_bd ?_
        refine wp_of (f_X13_isBetween.eq_1 ..) ?_
        refine wp_ifn c1 ?_
        refine wp_ifn c2 ?_
        refine wp_of (f_X13_isBetween_15.eq_1 ..) ?_
        refine wp_gd qf_18 ?_
        refine wp_ret_bd ?_
        refine wp_ifn qf_19 ?_
        refine wp_bd ?_
        refine wp_of (f_X13_isBetween.eq_1 ..) ?_
        refine wp_ifp c3 ?_
        refine wp_of (f_X13_isBetween_14.eq_1 ..) ?_
        refine wp_of (f_X13_isBetween_15.eq_1 ..) ?_
        refine wp_gd qf_14 ?_
        refine wp_ret_bd ?_
        refine wp_ifp qf_15 ?_
        refine wp_of (f2_X13_addRecord_93.eq_1 ..) ?_
        refine wp_of (f2_X13_addRecord_94.eq_1 ..) ?_
        refine wp_ifp qf_15 ?_
        refine wp_of (f2_X13_addRecord_125.eq_1 ..) ?_
        refine wp_gd ql_K_149 ?_
        refine wp_bd ?_
        refine wp_of (f_X13_isWrong.eq_1 ..) ?_
        refine wp_gd ql_K_149 ?_
        refine wp_zI ?_
        refine wp_ifn qf_17 ?_
        refine wp_of (f_X13_isWrong_14.eq_1 ..) ?_
        refine wp_gd qf_18 ?_
        refine wp_ret_bd ?_
        refine wp_ifn qf_19 ?_
        refine wp_ret_bd ?_
        refine wp_gd ql_K_149 ?_
        refine wp_bd ?_
        refine wp_of (f_X13_thrown.eq_1 ..) ?_
        refine wp_gd ql_K_149 ?_
        refine wp_lt gI_s ?_
        refine wp_ret_bd ?_
        refine wp_ifp qf_20 ?_
        refine wp_ifn qf_19 ?_
        refine wp_of (f_L_law_421.eq_1 ..) ?_
        refine wp_of (f_L_law_3632.eq_1 ..) ?_
        refine wp_lt qf_21 ?_
        exact hrc _
      · skip
        refine wp_if (fun c4 => ?_) (fun c4 => ?_)
        · skip
          refine wp_of (f_X10_isIn_14.eq_1 ..) ?_
          refine wp_of (f_X10_isIn_15.eq_1 ..) ?_
          refine wp_gd qf_14 ?_
          refine wp_ret_bd ?_
          refine wp_ifp qf_15 ?_
          refine wp_of (f_X10_addRecord_44.eq_1 ..) ?_
          refine wp_of (f_X10_addRecord_45.eq_1 ..) ?_
          refine wp_bd ?_
          refine wp_of (f_X10_demand.eq_1 ..) ?_
          refine wp_ifp qf_15 ?_
          refine wp_rs_bd ?_
          refine wp_rs_bdc ?_
          refine wp_ifp qf_16 ?_
          refine wp_ret_bd ?_
          refine wp_gd qf_0 ?_
          refine wp_lt (xsk qf_1 hy1) ?_
          refine wp_gd qf_2 ?_
          refine wp_lt (xsk qf_3 hy2) ?_
          refine wp_gd qf_4 ?_
          refine wp_lt (xsk qf_5 hy3) ?_
          refine wp_gd qf_6 ?_
          refine wp_lt (xsk qf_7 hy4) ?_
          refine wp_gd qf_8 ?_
          refine wp_lt (xsk qf_9 hy5) ?_
          refine wp_gd qf_10 ?_
          refine wp_lt (xsk qf_11 hy6) ?_
          refine wp_gd qf_12 ?_
          refine wp_lt (xsk qf_13 hy7) ?_
          refine wp_gd ql_K_149 ?_
          refine wp_bd ?_
          refine wp_of (f2_X13_addRecord.eq_1 ..) ?_
          refine wp_bd ?_
          refine wp_of (f_X13_isBetween.eq_1 ..) ?_
          refine wp_ifn c1 ?_
          refine wp_ifn c2 ?_
          refine wp_of (f_X13_isBetween_15.eq_1 ..) ?_
          refine wp_gd qf_18 ?_
          refine wp_ret_bd ?_
          refine wp_ifn qf_19 ?_
          refine wp_bd ?_
          refine wp_of (f_X13_isBetween.eq_1 ..) ?_
          refine wp_ifn c3 ?_
          refine wp_ifp c4 ?_
          refine wp_of (f_X13_isBetween_14.eq_1 ..) ?_
          refine wp_of (f_X13_isBetween_15.eq_1 ..) ?_
          refine wp_gd qf_14 ?_
          refine wp_ret_bd ?_
          refine wp_ifp qf_15 ?_
          refine wp_of (f2_X13_addRecord_93.eq_1 ..) ?_
          refine wp_of (f2_X13_addRecord_94.eq_1 ..) ?_
          refine wp_ifp qf_15 ?_
          refine wp_of (f2_X13_addRecord_125.eq_1 ..) ?_
          refine wp_gd ql_K_149 ?_
          refine wp_bd ?_
          refine wp_of (f_X13_isWrong.eq_1 ..) ?_
          refine wp_gd ql_K_149 ?_
          refine wp_zI ?_
          refine wp_ifn qf_17 ?_
          refine wp_of (f_X13_isWrong_14.eq_1 ..) ?_
          refine wp_gd qf_18 ?_
          refine wp_ret_bd ?_
          refine wp_ifn qf_19 ?_
          refine wp_ret_bd ?_
          refine wp_gd ql_K_149 ?_
          refine wp_bd ?_
          refine wp_of (f_X13_thrown.eq_1 ..) ?_
          refine wp_gd ql_K_149 ?_
          refine wp_lt gI_s ?_
          refine wp_ret_bd ?_
          refine wp_ifp qf_20 ?_
          refine wp_ifn qf_19 ?_
          refine wp_of (f_L_law_421.eq_1 ..) ?_
          refine wp_of (f_L_law_3632.eq_1 ..) ?_
          refine wp_lt qf_21 ?_
          exact hrc _
        · skip
          refine wp_of (f_X10_isIn_15.eq_1 ..) ?_
          refine wp_gd qf_18 ?_
          refine wp_ret_bd ?_
          refine wp_ifn qf_19 ?_
          refine wp_bd ?_
          refine wp_of (f_X10_isIn.eq_1 ..) ?_
          refine wp_if (fun c5 => ?_) (fun c5 => ?_)
          · skip
            refine wp_of (f_X10_isIn_14.eq_1 ..) ?_
            refine wp_of (f_X10_isIn_15.eq_1 ..) ?_
            refine wp_gd qf_14 ?_
            refine wp_ret_bd ?_
            refine wp_ifp qf_15 ?_
            refine wp_of (f_X10_addRecord_44.eq_1 ..) ?_
            refine wp_of (f_X10_addRecord_45.eq_1 ..) ?_
            refine wp_bd ?_
            refine wp_of (f_X10_demand.eq_1 ..) ?_
            refine wp_ifp qf_15 ?_
            refine wp_rs_bd ?_
            refine wp_rs_bdc ?_
            refine wp_ifp qf_16 ?_
            refine wp_ret_bd ?_
            refine wp_gd qf_0 ?_
            refine wp_lt (xsk qf_1 hy1) ?_
            refine wp_gd qf_2 ?_
            refine wp_lt (xsk qf_3 hy2) ?_
            refine wp_gd qf_4 ?_
            refine wp_lt (xsk qf_5 hy3) ?_
            refine wp_gd qf_6 ?_
            refine wp_lt (xsk qf_7 hy4) ?_
            refine wp_gd qf_8 ?_
            refine wp_lt (xsk qf_9 hy5) ?_
            refine wp_gd qf_10 ?_
            refine wp_lt (xsk qf_11 hy6) ?_
            refine wp_gd qf_12 ?_
            refine wp_lt (xsk qf_13 hy7) ?_
            refine wp_gd ql_K_149 ?_
            refine wp_bd ?_
            refine wp_of (f2_X13_addRecord.eq_1 ..) ?_
            refine wp_bd ?_
            refine wp_of (f_X13_isBetween.eq_1 ..) ?_
            refine wp_ifn c1 ?_
            refine wp_ifn c2 ?_
            refine wp_of (f_X13_isBetween_15.eq_1 ..) ?_
            refine wp_gd qf_18 ?_
            refine wp_ret_bd ?_
            refine wp_ifn qf_19 ?_
            refine wp_bd ?_
            refine wp_of (f_X13_isBetween.eq_1 ..) ?_
            refine wp_ifn c3 ?_
            refine wp_ifn c4 ?_
            refine wp_of (f_X13_isBetween_15.eq_1 ..) ?_
            refine wp_gd qf_18 ?_
            refine wp_ret_bd ?_
            refine wp_ifn qf_19 ?_
            refine wp_bd ?_
            refine wp_of (f_X13_isBetween.eq_1 ..) ?_
            refine wp_ifp c5 ?_
            refine wp_of (f_X13_isBetween_14.eq_1 ..) ?_
            refine wp_of (f_X13_isBetween_15.eq_1 ..) ?_
            refine wp_gd qf_14 ?_
            refine wp_ret_bd ?_
            refine wp_ifp qf_15 ?_
            refine wp_of (f2_X13_addRecord_93.eq_1 ..) ?_
            refine wp_of (f2_X13_addRecord_94.eq_1 ..) ?_
            refine wp_ifp qf_15 ?_
            refine wp_of (f2_X13_addRecord_125.eq_1 ..) ?_
            refine wp_gd ql_K_149 ?_
            refine wp_bd ?_
            refine wp_of (f_X13_isWrong.eq_1 ..) ?_
            refine wp_gd ql_K_149 ?_
            refine wp_zI ?_
            refine wp_ifn qf_17 ?_
            refine wp_of (f_X13_isWrong_14.eq_1 ..) ?_
            refine wp_gd qf_18 ?_
            refine wp_ret_bd ?_
            refine wp_ifn qf_19 ?_
            refine wp_ret_bd ?_
            refine wp_gd ql_K_149 ?_
            refine wp_bd ?_
            refine wp_of (f_X13_thrown.eq_1 ..) ?_
            refine wp_gd ql_K_149 ?_
            refine wp_lt gI_s ?_
            refine wp_ret_bd ?_
            refine wp_ifp qf_20 ?_
            refine wp_ifn qf_19 ?_
            refine wp_of (f_L_law_421.eq_1 ..) ?_
            refine wp_of (f_L_law_3632.eq_1 ..) ?_
            refine wp_lt qf_21 ?_
            exact hrc _
          · skip
            refine wp_if (fun c6 => ?_) (fun c6 => ?_)
            · skip
              refine wp_of (f_X10_isIn_14.eq_1 ..) ?_
              refine wp_of (f_X10_isIn_15.eq_1 ..) ?_
              refine wp_gd qf_14 ?_
              refine wp_ret_bd ?_
              refine wp_ifp qf_15 ?_
              refine wp_of (f_X10_addRecord_44.eq_1 ..) ?_
              refine wp_of (f_X10_addRecord_45.eq_1 ..) ?_
              refine wp_bd ?_
              refine wp_of (f_X10_demand.eq_1 ..) ?_
              refine wp_ifp qf_15 ?_
              refine wp_rs_bd ?_
              refine wp_rs_bdc ?_
              refine wp_ifp qf_16 ?_
              refine wp_ret_bd ?_
              refine wp_gd qf_0 ?_
              refine wp_lt (xsk qf_1 hy1) ?_
              refine wp_gd qf_2 ?_
              refine wp_lt (xsk qf_3 hy2) ?_
              refine wp_gd qf_4 ?_
              refine wp_lt (xsk qf_5 hy3) ?_
              refine wp_gd qf_6 ?_
              refine wp_lt (xsk qf_7 hy4) ?_
              refine wp_gd qf_8 ?_
              refine wp_lt (xsk qf_9 hy5) ?_
              refine wp_gd qf_10 ?_
              refine wp_lt (xsk qf_11 hy6) ?_
              refine wp_gd qf_12 ?_
              refine wp_lt (xsk qf_13 hy7) ?_
              refine wp_gd ql_K_149 ?_
              refine wp_bd ?_
              refine wp_of (f2_X13_addRecord.eq_1 ..) ?_
              refine wp_bd ?_
              refine wp_of (f_X13_isBetween.eq_1 ..) ?_
              refine wp_ifn c1 ?_
              refine wp_ifn c2 ?_
              refine wp_of (f_X13_isBetween_15.eq_1 ..) ?_
              refine wp_gd qf_18 ?_
              refine wp_ret_bd ?_
              refine wp_ifn qf_19 ?_
              refine wp_bd ?_
              refine wp_of (f_X13_isBetween.eq_1 ..) ?_
              refine wp_ifn c3 ?_
              refine wp_ifn c4 ?_
              refine wp_of (f_X13_isBetween_15.eq_1 ..) ?_
              refine wp_gd qf_18 ?_
              refine wp_ret_bd ?_
              refine wp_ifn qf_19 ?_
              refine wp_bd ?_
              refine wp_of (f_X13_isBetween.eq_1 ..) ?_
              refine wp_ifn c5 ?_
              refine wp_ifp c6 ?_
              refine wp_of (f_X13_isBetween_14.eq_1 ..) ?_
              refine wp_of (f_X13_isBetween_15.eq_1 ..) ?_
              refine wp_gd qf_14 ?_
              refine wp_ret_bd ?_
              refine wp_ifp qf_15 ?_
              refine wp_of (f2_X13_addRecord_93.eq_1 ..) ?_
              refine wp_of (f2_X13_addRecord_94.eq_1 ..) ?_
              refine wp_ifp qf_15 ?_
              refine wp_of (f2_X13_addRecord_125.eq_1 ..) ?_
              refine wp_gd ql_K_149 ?_
              refine wp_bd ?_
              refine wp_of (f_X13_isWrong.eq_1 ..) ?_
              refine wp_gd ql_K_149 ?_
              refine wp_zI ?_
              refine wp_ifn qf_17 ?_
              refine wp_of (f_X13_isWrong_14.eq_1 ..) ?_
              refine wp_gd qf_18 ?_
              refine wp_ret_bd ?_
              refine wp_ifn qf_19 ?_
              refine wp_ret_bd ?_
              refine wp_gd ql_K_149 ?_
              refine wp_bd ?_
              refine wp_of (f_X13_thrown.eq_1 ..) ?_
              refine wp_gd ql_K_149 ?_
              refine wp_lt gI_s ?_
              refine wp_ret_bd ?_
              refine wp_ifp qf_20 ?_
              refine wp_ifn qf_19 ?_
              refine wp_of (f_L_law_421.eq_1 ..) ?_
              refine wp_of (f_L_law_3632.eq_1 ..) ?_
              refine wp_lt qf_21 ?_
              exact hrc _
            · skip
              refine wp_of (f_X10_isIn_15.eq_1 ..) ?_
              refine wp_gd qf_18 ?_
              refine wp_ret_bd ?_
              refine wp_ifn qf_19 ?_
              refine wp_bd ?_
              refine wp_of (f_X10_isIn.eq_1 ..) ?_
              refine wp_if (fun c7 => ?_) (fun c7 => ?_)
              · skip
                refine wp_of (f_X10_isIn_14.eq_1 ..) ?_
                refine wp_of (f_X10_isIn_15.eq_1 ..) ?_
                refine wp_gd qf_14 ?_
                refine wp_ret_bd ?_
                refine wp_ifp qf_15 ?_
                refine wp_of (f_X10_addRecord_44.eq_1 ..) ?_
                refine wp_of (f_X10_addRecord_45.eq_1 ..) ?_
                refine wp_bd ?_
                refine wp_of (f_X10_demand.eq_1 ..) ?_
                refine wp_ifp qf_15 ?_
                refine wp_rs_bd ?_
                refine wp_rs_bdc ?_
                refine wp_ifp qf_16 ?_
                refine wp_ret_bd ?_
                refine wp_gd qf_0 ?_
                refine wp_lt (xsk qf_1 hy1) ?_
                refine wp_gd qf_2 ?_
                refine wp_lt (xsk qf_3 hy2) ?_
                refine wp_gd qf_4 ?_
                refine wp_lt (xsk qf_5 hy3) ?_
                refine wp_gd qf_6 ?_
                refine wp_lt (xsk qf_7 hy4) ?_
                refine wp_gd qf_8 ?_
                refine wp_lt (xsk qf_9 hy5) ?_
                refine wp_gd qf_10 ?_
                refine wp_lt (xsk qf_11 hy6) ?_
                refine wp_gd qf_12 ?_
                refine wp_lt (xsk qf_13 hy7) ?_
                refine wp_gd ql_K_149 ?_
                refine wp_bd ?_
                refine wp_of (f2_X13_addRecord.eq_1 ..) ?_
                refine wp_bd ?_
                refine wp_of (f_X13_isBetween.eq_1 ..) ?_
                refine wp_ifn c1 ?_
                refine wp_ifn c2 ?_
                refine wp_of (f_X13_isBetween_15.eq_1 ..) ?_
                refine wp_gd qf_18 ?_
                refine wp_ret_bd ?_
                refine wp_ifn qf_19 ?_
                refine wp_bd ?_
                refine wp_of (f_X13_isBetween.eq_1 ..) ?_
                refine wp_ifn c3 ?_
                refine wp_ifn c4 ?_
                refine wp_of (f_X13_isBetween_15.eq_1 ..) ?_
                refine wp_gd qf_18 ?_
                refine wp_ret_bd ?_
                refine wp_ifn qf_19 ?_
                refine wp_bd ?_
                refine wp_of (f_X13_isBetween.eq_1 ..) ?_
                refine wp_ifn c5 ?_
                refine wp_ifn c6 ?_
                refine wp_of (f_X13_isBetween_15.eq_1 ..) ?_
                refine wp_gd qf_18 ?_
                refine wp_ret_bd ?_
                refine wp_ifn qf_19 ?_
                refine wp_bd ?_
                refine wp_of (f_X13_isBetween.eq_1 ..) ?_
                refine wp_ifp c7 ?_
                refine wp_of (f_X13_isBetween_14.eq_1 ..) ?_
                refine wp_of (f_X13_isBetween_15.eq_1 ..) ?_
                refine wp_gd qf_14 ?_
                refine wp_ret_bd ?_
                refine wp_ifp qf_15 ?_
                refine wp_of (f2_X13_addRecord_93.eq_1 ..) ?_
                refine wp_of (f2_X13_addRecord_94.eq_1 ..) ?_
                refine wp_ifp qf_15 ?_
                refine wp_of (f2_X13_addRecord_125.eq_1 ..) ?_
                refine wp_gd ql_K_149 ?_
                refine wp_bd ?_
                refine wp_of (f_X13_isWrong.eq_1 ..) ?_
                refine wp_gd ql_K_149 ?_
                refine wp_zI ?_
                refine wp_ifn qf_17 ?_
                refine wp_of (f_X13_isWrong_14.eq_1 ..) ?_
                refine wp_gd qf_18 ?_
                refine wp_ret_bd ?_
                refine wp_ifn qf_19 ?_
                refine wp_ret_bd ?_
                refine wp_gd ql_K_149 ?_
                refine wp_bd ?_
                refine wp_of (f_X13_thrown.eq_1 ..) ?_
                refine wp_gd ql_K_149 ?_
                refine wp_lt gI_s ?_
                refine wp_ret_bd ?_
                refine wp_ifp qf_20 ?_
                refine wp_ifn qf_19 ?_
                refine wp_of (f_L_law_421.eq_1 ..) ?_
                refine wp_of (f_L_law_3632.eq_1 ..) ?_
                refine wp_lt qf_21 ?_
                exact hrc _
              · skip
                refine wp_if (fun c8 => ?_) (fun c8 => ?_)
                · skip
                  refine wp_of (f_X10_isIn_14.eq_1 ..) ?_
                  refine wp_of (f_X10_isIn_15.eq_1 ..) ?_
                  refine wp_gd qf_14 ?_
                  refine wp_ret_bd ?_
                  refine wp_ifp qf_15 ?_
                  refine wp_of (f_X10_addRecord_44.eq_1 ..) ?_
                  refine wp_of (f_X10_addRecord_45.eq_1 ..) ?_
                  refine wp_bd ?_
                  refine wp_of (f_X10_demand.eq_1 ..) ?_
                  refine wp_ifp qf_15 ?_
                  refine wp_rs_bd ?_
                  refine wp_rs_bdc ?_
                  refine wp_ifp qf_16 ?_
                  refine wp_ret_bd ?_
                  refine wp_gd qf_0 ?_
                  refine wp_lt (xsk qf_1 hy1) ?_
                  refine wp_gd qf_2 ?_
                  refine wp_lt (xsk qf_3 hy2) ?_
                  refine wp_gd qf_4 ?_
                  refine wp_lt (xsk qf_5 hy3) ?_
                  refine wp_gd qf_6 ?_
                  refine wp_lt (xsk qf_7 hy4) ?_
                  refine wp_gd qf_8 ?_
                  refine wp_lt (xsk qf_9 hy5) ?_
                  refine wp_gd qf_10 ?_
                  refine wp_lt (xsk qf_11 hy6) ?_
                  refine wp_gd qf_12 ?_
                  refine wp_lt (xsk qf_13 hy7) ?_
                  refine wp_gd ql_K_149 ?_
                  refine wp_bd ?_
                  refine wp_of (f2_X13_addRecord.eq_1 ..) ?_
                  refine wp_bd ?_
                  refine wp_of (f_X13_isBetween.eq_1 ..) ?_
                  refine wp_ifn c1 ?_
                  refine wp_ifn c2 ?_
                  refine wp_of (f_X13_isBetween_15.eq_1 ..) ?_
                  refine wp_gd qf_18 ?_
                  refine wp_ret_bd ?_
                  refine wp_ifn qf_19 ?_
                  refine wp_bd ?_
                  refine wp_of (f_X13_isBetween.eq_1 ..) ?_
                  refine wp_ifn c3 ?_
                  refine wp_ifn c4 ?_
                  refine wp_of (f_X13_isBetween_15.eq_1 ..) ?_
                  refine wp_gd qf_18 ?_
                  refine wp_ret_bd ?_
                  refine wp_ifn qf_19 ?_
                  refine wp_bd ?_
                  refine wp_of (f_X13_isBetween.eq_1 ..) ?_
                  refine wp_ifn c5 ?_
                  refine wp_ifn c6 ?_
                  refine wp_of (f_X13_isBetween_15.eq_1 ..) ?_
                  refine wp_gd qf_18 ?_
                  refine wp_ret_bd ?_
                  refine wp_ifn qf_19 ?_
                  refine wp_bd ?_
                  refine wp_of (f_X13_isBetween.eq_1 ..) ?_
                  refine wp_ifn c7 ?_
                  refine wp_ifp c8 ?_
                  refine wp_of (f_X13_isBetween_14.eq_1 ..) ?_
                  refine wp_of (f_X13_isBetween_15.eq_1 ..) ?_
                  refine wp_gd qf_14 ?_
                  refine wp_ret_bd ?_
                  refine wp_ifp qf_15 ?_
                  refine wp_of (f2_X13_addRecord_93.eq_1 ..) ?_
                  refine wp_of (f2_X13_addRecord_94.eq_1 ..) ?_
                  refine wp_ifp qf_15 ?_
                  refine wp_of (f2_X13_addRecord_125.eq_1 ..) ?_
                  refine wp_gd ql_K_149 ?_
                  refine wp_bd ?_
                  refine wp_of (f_X13_isWrong.eq_1 ..) ?_
                  refine wp_gd ql_K_149 ?_
                  refine wp_zI ?_
                  refine wp_ifn qf_17 ?_
                  refine wp_of (f_X13_isWrong_14.eq_1 ..) ?_
                  refine wp_gd qf_18 ?_
                  refine wp_ret_bd ?_
                  refine wp_ifn qf_19 ?_
                  refine wp_ret_bd ?_
                  refine wp_gd ql_K_149 ?_
                  refine wp_bd ?_
                  refine wp_of (f_X13_thrown.eq_1 ..) ?_
                  refine wp_gd ql_K_149 ?_
                  refine wp_lt gI_s ?_
                  refine wp_ret_bd ?_
                  refine wp_ifp qf_20 ?_
                  refine wp_ifn qf_19 ?_
                  refine wp_of (f_L_law_421.eq_1 ..) ?_
                  refine wp_of (f_L_law_3632.eq_1 ..) ?_
                  refine wp_lt qf_21 ?_
                  exact hrc _
                · skip
                  refine wp_of (f_X10_isIn_15.eq_1 ..) ?_
                  refine wp_gd qf_18 ?_
                  refine wp_ret_bd ?_
                  refine wp_ifn qf_19 ?_
                  refine wp_of (f_X10_addRecord_45.eq_1 ..) ?_
                  refine wp_bd ?_
                  refine wp_of (f_X10_demand.eq_1 ..) ?_
                  refine wp_ifn qf_19 ?_
                  refine wp_ret_bd ?_
                  refine wp_if (fun c9 => ?_) (fun c9 => ?_)
                  · skip
                    subst c9
                    refine wp_of (f_X10_addRecord_69.eq_1 ..) ?_
                    refine wp_of (f_X10_addRecord_74.eq_1 ..) ?_
                    refine wp_bd ?_
                    refine wp_of (f_X10_demand.eq_1 ..) ?_
                    refine wp_ifn qf_19 ?_
                    refine wp_ret_bd ?_
                    refine wp_bd ?_
                    refine wp_of (f_X10_isIn.eq_1 ..) ?_
                    refine wp_if (fun c10 => ?_) (fun c10 => ?_)
                    · skip
                      refine wp_of (f_X10_isIn_14.eq_1 ..) ?_
                      refine wp_of (f_X10_isIn_15.eq_1 ..) ?_
                      refine wp_gd qf_14 ?_
                      refine wp_ret_bd ?_
                      refine wp_ifp qf_15 ?_
                      refine wp_of (f_X10_addRecord_103.eq_1 ..) ?_
                      refine wp_of (f_X10_addRecord_104.eq_1 ..) ?_
                      refine wp_bd ?_
                      refine wp_of (f_X10_demand.eq_1 ..) ?_
                      refine wp_ifp qf_15 ?_
                      refine wp_rs_bd ?_
                      refine wp_rs_bdc ?_
                      refine wp_ifp qf_16 ?_
                      refine wp_ret_bd ?_
                      refine wp_gd qf_0 ?_
                      refine wp_lt (xsk qf_1 hy1) ?_
                      refine wp_gd qf_2 ?_
                      refine wp_lt (xsk qf_3 hy2) ?_
                      refine wp_gd qf_4 ?_
                      refine wp_lt (xsk qf_5 hy3) ?_
                      refine wp_gd qf_6 ?_
                      refine wp_lt (xsk qf_7 hy4) ?_
                      refine wp_gd qf_8 ?_
                      refine wp_lt (xsk qf_9 hy5) ?_
                      refine wp_gd qf_10 ?_
                      refine wp_lt (xsk qf_11 hy6) ?_
                      refine wp_gd qf_12 ?_
                      refine wp_lt (xsk qf_13 hy7) ?_
                      refine wp_gd ql_K_149 ?_
                      refine wp_bd ?_
                      refine wp_of (f2_X13_addRecord.eq_1 ..) ?_
                      refine wp_bd ?_
                      refine wp_of (f_X13_isBetween.eq_1 ..) ?_
                      refine wp_ifn c1 ?_
                      refine wp_ifn c2 ?_
                      refine wp_of (f_X13_isBetween_15.eq_1 ..) ?_
                      refine wp_gd qf_18 ?_
                      refine wp_ret_bd ?_
                      refine wp_ifn qf_19 ?_
                      refine wp_bd ?_
                      refine wp_of (f_X13_isBetween.eq_1 ..) ?_
                      refine wp_ifn c3 ?_
                      refine wp_ifn c4 ?_
                      refine wp_of (f_X13_isBetween_15.eq_1 ..) ?_
                      refine wp_gd qf_18 ?_
                      refine wp_ret_bd ?_
                      refine wp_ifn qf_19 ?_
                      refine wp_bd ?_
                      refine wp_of (f_X13_isBetween.eq_1 ..) ?_
                      refine wp_ifn c5 ?_
                      refine wp_ifn c6 ?_
                      refine wp_of (f_X13_isBetween_15.eq_1 ..) ?_
                      refine wp_gd qf_18 ?_
                      refine wp_ret_bd ?_
                      refine wp_ifn qf_19 ?_
                      refine wp_bd ?_
                      refine wp_of (f_X13_isBetween.eq_1 ..) ?_
                      refine wp_ifn c7 ?_
                      refine wp_ifn c8 ?_
                      refine wp_of (f_X13_isBetween_15.eq_1 ..) ?_
                      refine wp_gd qf_18 ?_
                      refine wp_ret_bd ?_
                      refine wp_ifn qf_19 ?_
                      refine wp_ifp qf_22 ?_
                      refine wp_of (f2_X13_addRecord_67.eq_1 ..) ?_
                      refine wp_bd ?_
                      refine wp_of (f_X13_isBetween.eq_1 ..) ?_
                      refine wp_ifp c10 ?_
                      refine wp_of (f_X13_isBetween_14.eq_1 ..) ?_
                      refine wp_of (f_X13_isBetween_15.eq_1 ..) ?_
                      refine wp_gd qf_14 ?_
                      refine wp_ret_bd ?_
                      refine wp_ifp qf_15 ?_
                      refine wp_of (f2_X13_addRecord_93.eq_1 ..) ?_
                      refine wp_of (f2_X13_addRecord_94.eq_1 ..) ?_
                      refine wp_ifp qf_15 ?_
                      refine wp_of (f2_X13_addRecord_125.eq_1 ..) ?_
                      refine wp_gd ql_K_149 ?_
                      refine wp_bd ?_
                      refine wp_of (f_X13_isWrong.eq_1 ..) ?_
                      refine wp_gd ql_K_149 ?_
                      refine wp_zI ?_
                      refine wp_ifn qf_17 ?_
                      refine wp_of (f_X13_isWrong_14.eq_1 ..) ?_
                      refine wp_gd qf_18 ?_
                      refine wp_ret_bd ?_
                      refine wp_ifn qf_19 ?_
                      refine wp_ret_bd ?_
                      refine wp_gd ql_K_149 ?_
                      refine wp_bd ?_
                      refine wp_of (f_X13_thrown.eq_1 ..) ?_
                      refine wp_gd ql_K_149 ?_
                      refine wp_lt gI_s ?_
                      refine wp_ret_bd ?_
                      refine wp_ifp qf_20 ?_
                      refine wp_ifn qf_19 ?_
                      refine wp_of (f_L_law_421.eq_1 ..) ?_
                      refine wp_of (f_L_law_3632.eq_1 ..) ?_
                      refine wp_lt qf_21 ?_
                      exact hrc _
                    · skip
                      refine wp_if (fun c11 => ?_) (fun c11 => ?_)
                      · skip
                        refine wp_of (f_X10_isIn_14.eq_1 ..) ?_
                        refine wp_of (f_X10_isIn_15.eq_1 ..) ?_
                        refine wp_gd qf_14 ?_
                        refine wp_ret_bd ?_
                        refine wp_ifp qf_15 ?_
                        refine wp_of (f_X10_addRecord_103.eq_1 ..) ?_
                        refine wp_of (f_X10_addRecord_104.eq_1 ..) ?_
                        refine wp_bd ?_
                        refine wp_of (f_X10_demand.eq_1 ..) ?_
                        refine wp_ifp qf_15 ?_
                        refine wp_rs_bd ?_
                        refine wp_rs_bdc ?_
                        refine wp_ifp qf_16 ?_
                        refine wp_ret_bd ?_
                        refine wp_gd qf_0 ?_
                        refine wp_lt (xsk qf_1 hy1) ?_
                        refine wp_gd qf_2 ?_
                        refine wp_lt (xsk qf_3 hy2) ?_
                        refine wp_gd qf_4 ?_
                        refine wp_lt (xsk qf_5 hy3) ?_
                        refine wp_gd qf_6 ?_
                        refine wp_lt (xsk qf_7 hy4) ?_
                        refine wp_gd qf_8 ?_
                        refine wp_lt (xsk qf_9 hy5) ?_
                        refine wp_gd qf_10 ?_
                        refine wp_lt (xsk qf_11 hy6) ?_
                        refine wp_gd qf_12 ?_
                        refine wp_lt (xsk qf_13 hy7) ?_
                        refine wp_gd ql_K_149 ?_
                        refine wp_bd ?_
                        refine wp_of (f2_X13_addRecord.eq_1 ..) ?_
                        refine wp_bd ?_
                        refine wp_of (f_X13_isBetween.eq_1 ..) ?_
                        refine wp_ifn c1 ?_
                        refine wp_ifn c2 ?_
                        refine wp_of (f_X13_isBetween_15.eq_1 ..) ?_
                        refine wp_gd qf_18 ?_
                        refine wp_ret_bd ?_
                        refine wp_ifn qf_19 ?_
                        refine wp_bd ?_
                        refine wp_of (f_X13_isBetween.eq_1 ..) ?_
                        refine wp_ifn c3 ?_
                        refine wp_ifn c4 ?_
                        refine wp_of (f_X13_isBetween_15.eq_1 ..) ?_
                        refine wp_gd qf_18 ?_
                        refine wp_ret_bd ?_
                        refine wp_ifn qf_19 ?_
                        refine wp_bd ?_
                        refine wp_of (f_X13_isBetween.eq_1 ..) ?_
                        refine wp_ifn c5 ?_
                        refine wp_ifn c6 ?_
                        refine wp_of (f_X13_isBetween_15.eq_1 ..) ?_
                        refine wp_gd qf_18 ?_
                        refine wp_ret_bd ?_
                        refine wp_ifn qf_19 ?_
                        refine wp_bd ?_
                        refine wp_of (f_X13_isBetween.eq_1 ..) ?_
                        refine wp_ifn c7 ?_
                        refine wp_ifn c8 ?_
                        refine wp_of (f_X13_isBetween_15.eq_1 ..) ?_
                        refine wp_gd qf_18 ?_
                        refine wp_ret_bd ?_
                        refine wp_ifn qf_19 ?_
                        refine wp_ifp qf_22 ?_
                        refine wp_of (f2_X13_addRecord_67.eq_1 ..) ?_
                        refine wp_bd ?_
                        refine wp_of (f_X13_isBetween.eq_1 ..) ?_
                        refine wp_ifn c10 ?_
                        refine wp_ifp c11 ?_
                        refine wp_of (f_X13_isBetween_14.eq_1 ..) ?_
                        refine wp_of (f_X13_isBetween_15.eq_1 ..) ?_
                        refine wp_gd qf_14 ?_
                        refine wp_ret_bd ?_
                        refine wp_ifp qf_15 ?_
                        refine wp_of (f2_X13_addRecord_93.eq_1 ..) ?_
                        refine wp_of (f2_X13_addRecord_94.eq_1 ..) ?_
                        refine wp_ifp qf_15 ?_
                        refine wp_of (f2_X13_addRecord_125.eq_1 ..) ?_
                        refine wp_gd ql_K_149 ?_
                        refine wp_bd ?_
                        refine wp_of (f_X13_isWrong.eq_1 ..) ?_
                        refine wp_gd ql_K_149 ?_
                        refine wp_zI ?_
                        refine wp_ifn qf_17 ?_
                        refine wp_of (f_X13_isWrong_14.eq_1 ..) ?_
                        refine wp_gd qf_18 ?_
                        refine wp_ret_bd ?_
                        refine wp_ifn qf_19 ?_
                        refine wp_ret_bd ?_
                        refine wp_gd ql_K_149 ?_
                        refine wp_bd ?_
                        refine wp_of (f_X13_thrown.eq_1 ..) ?_
                        refine wp_gd ql_K_149 ?_
                        refine wp_lt gI_s ?_
                        refine wp_ret_bd ?_
                        refine wp_ifp qf_20 ?_
                        refine wp_ifn qf_19 ?_
                        refine wp_of (f_L_law_421.eq_1 ..) ?_
                        refine wp_of (f_L_law_3632.eq_1 ..) ?_
                        refine wp_lt qf_21 ?_
                        exact hrc _
                      · skip
                        refine wp_of (f_X10_isIn_15.eq_1 ..) ?_
                        refine wp_gd qf_18 ?_
                        refine wp_ret_bd ?_
                        refine wp_ifn qf_19 ?_
                        refine wp_bd ?_
                        refine wp_of (f_X10_isIn.eq_1 ..) ?_
                        refine wp_if (fun c12 => ?_) (fun c12 => ?_)
                        · skip
                          refine wp_of (f_X10_isIn_14.eq_1 ..) ?_
                          refine wp_of (f_X10_isIn_15.eq_1 ..) ?_
                          refine wp_gd qf_14 ?_
                          refine wp_ret_bd ?_
                          refine wp_ifp qf_15 ?_
                          refine wp_of (f_X10_addRecord_103.eq_1 ..) ?_
                          refine wp_of (f_X10_addRecord_104.eq_1 ..) ?_
                          refine wp_bd ?_
                          refine wp_of (f_X10_demand.eq_1 ..) ?_
                          refine wp_ifp qf_15 ?_
                          refine wp_rs_bd ?_
                          refine wp_rs_bdc ?_
                          refine wp_ifp qf_16 ?_
                          refine wp_ret_bd ?_
                          refine wp_gd qf_0 ?_
                          refine wp_lt (xsk qf_1 hy1) ?_
                          refine wp_gd qf_2 ?_
                          refine wp_lt (xsk qf_3 hy2) ?_
                          refine wp_gd qf_4 ?_
                          refine wp_lt (xsk qf_5 hy3) ?_
                          refine wp_gd qf_6 ?_
                          refine wp_lt (xsk qf_7 hy4) ?_
                          refine wp_gd qf_8 ?_
                          refine wp_lt (xsk qf_9 hy5) ?_
                          refine wp_gd qf_10 ?_
                          refine wp_lt (xsk qf_11 hy6) ?_
                          refine wp_gd qf_12 ?_
                          refine wp_lt (xsk qf_13 hy7) ?_
                          refine wp_gd ql_K_149 ?_
                          refine wp_bd ?_
                          refine wp_of (f2_X13_addRecord.eq_1 ..) ?_
                          refine wp_bd ?_
                          refine wp_of (f_X13_isBetween.eq_1 ..) ?_
                          refine wp_ifn c1 ?_
                          refine wp_ifn c2 ?_
                          refine wp_of (f_X13_isBetween_15.eq_1 ..) ?_
                          refine wp_gd qf_18 ?_
                          refine wp_ret_bd ?_
                          refine wp_ifn qf_19 ?_
                          refine wp_bd ?_
                          refine wp_of (f_X13_isBetween.eq_1 ..) ?_
                          refine wp_ifn c3 ?_
                          refine wp_ifn c4 ?_
                          refine wp_of (f_X13_isBetween_15.eq_1 ..) ?_
                          refine wp_gd qf_18 ?_
                          refine wp_ret_bd ?_
                          refine wp_ifn qf_19 ?_
                          refine wp_bd ?_
                          refine wp_of (f_X13_isBetween.eq_1 ..) ?_
                          refine wp_ifn c5 ?_
                          refine wp_ifn c6 ?_
                          refine wp_of (f_X13_isBetween_15.eq_1 ..) ?_
                          refine wp_gd qf_18 ?_
                          refine wp_ret_bd ?_
                          refine wp_ifn qf_19 ?_
                          refine wp_bd ?_
                          refine wp_of (f_X13_isBetween.eq_1 ..) ?_
                          refine wp_ifn c7 ?_
                          refine wp_ifn c8 ?_
                          refine wp_of (f_X13_isBetween_15.eq_1 ..) ?_
                          refine wp_gd qf_18 ?_
                          refine wp_ret_bd ?_
                          refine wp_ifn qf_19 ?_
                          refine wp_ifp qf_22 ?_
                          refine wp_of (f2_X13_addRecord_67.eq_1 ..) ?_
                          refine wp_bd ?_
                          refine wp_of (f_X13_isBetween.eq_1 ..) ?_
                          refine wp_ifn c10 ?_
                          refine wp_ifn c11 ?_
                          refine wp_of (f_X13_isBetween_15.eq_1 ..) ?_
                          refine wp_gd qf_18 ?_
                          refine wp_ret_bd ?_
                          refine wp_ifn qf_19 ?_
                          refine wp_bd ?_
                          refine wp_of (f_X13_isBetween.eq_1 ..) ?_
                          refine wp_ifp c12 ?_
                          refine wp_of (f_X13_isBetween_14.eq_1 ..) ?_
                          refine wp_of (f_X13_isBetween_15.eq_1 ..) ?_
                          refine wp_gd qf_14 ?_
                          refine wp_ret_bd ?_
                          refine wp_ifp qf_15 ?_
                          refine wp_of (f2_X13_addRecord_93.eq_1 ..) ?_
                          refine wp_of (f2_X13_addRecord_94.eq_1 ..) ?_
                          refine wp_ifp qf_15 ?_
                          refine wp_of (f2_X13_addRecord_125.eq_1 ..) ?_
                          refine wp_gd ql_K_149 ?_
                          refine wp_bd ?_
                          refine wp_of (f_X13_isWrong.eq_1 ..) ?_
                          refine wp_gd ql_K_149 ?_
                          refine wp_zI ?_
                          refine wp_ifn qf_17 ?_
                          refine wp_of (f_X13_isWrong_14.eq_1 ..) ?_
                          refine wp_gd qf_18 ?_
                          refine wp_ret_bd ?_
                          refine wp_ifn qf_19 ?_
                          refine wp_ret_bd ?_
                          refine wp_gd ql_K_149 ?_
                          refine wp_bd ?_
                          refine wp_of (f_X13_thrown.eq_1 ..) ?_
                          refine wp_gd ql_K_149 ?_
                          refine wp_lt gI_s ?_
                          refine wp_ret_bd ?_
                          refine wp_ifp qf_20 ?_
                          refine wp_ifn qf_19 ?_
                          refine wp_of (f_L_law_421.eq_1 ..) ?_
                          refine wp_of (f_L_law_3632.eq_1 ..) ?_
                          refine wp_lt qf_21 ?_
                          exact hrc _
                        · skip
                          refine wp_if (fun c13 => ?_) (fun c13 => ?_)
                          · skip
                            refine wp_of (f_X10_isIn_14.eq_1 ..) ?_
                            refine wp_of (f_X10_isIn_15.eq_1 ..) ?_
                            refine wp_gd qf_14 ?_
                            refine wp_ret_bd ?_
                            refine wp_ifp qf_15 ?_
                            refine wp_of (f_X10_addRecord_103.eq_1 ..) ?_
                            refine wp_of (f_X10_addRecord_104.eq_1 ..) ?_
                            refine wp_bd ?_
                            refine wp_of (f_X10_demand.eq_1 ..) ?_
                            refine wp_ifp qf_15 ?_
                            refine wp_rs_bd ?_
                            refine wp_rs_bdc ?_
                            refine wp_ifp qf_16 ?_
                            refine wp_ret_bd ?_
                            refine wp_gd qf_0 ?_
                            refine wp_lt (xsk qf_1 hy1) ?_
                            refine wp_gd qf_2 ?_
                            refine wp_lt (xsk qf_3 hy2) ?_
                            refine wp_gd qf_4 ?_
                            refine wp_lt (xsk qf_5 hy3) ?_
                            refine wp_gd qf_6 ?_
                            refine wp_lt (xsk qf_7 hy4) ?_
                            refine wp_gd qf_8 ?_
                            refine wp_lt (xsk qf_9 hy5) ?_
                            refine wp_gd qf_10 ?_
                            refine wp_lt (xsk qf_11 hy6) ?_
                            refine wp_gd qf_12 ?_
                            refine wp_lt (xsk qf_13 hy7) ?_
                            refine wp_gd ql_K_149 ?_
                            refine wp_bd ?_
                            refine wp_of (f2_X13_addRecord.eq_1 ..) ?_
                            refine wp_bd ?_
                            refine wp_of (f_X13_isBetween.eq_1 ..) ?_
                            refine wp_ifn c1 ?_
                            refine wp_ifn c2 ?_
                            refine wp_of (f_X13_isBetween_15.eq_1 ..) ?_
                            refine wp_gd qf_18 ?_
                            refine wp_ret_bd ?_
                            refine wp_ifn qf_19 ?_
                            refine wp_bd ?_
                            refine wp_of (f_X13_isBetween.eq_1 ..) ?_
                            refine wp_ifn c3 ?_
                            refine wp_ifn c4 ?_
                            refine wp_of (f_X13_isBetween_15.eq_1 ..) ?_
                            refine wp_gd qf_18 ?_
                            refine wp_ret_bd ?_
                            refine wp_ifn qf_19 ?_
                            refine wp_bd ?_
                            refine wp_of (f_X13_isBetween.eq_1 ..) ?_
                            refine wp_ifn c5 ?_
                            refine wp_ifn c6 ?_
                            refine wp_of (f_X13_isBetween_15.eq_1 ..) ?_
                            refine wp_gd qf_18 ?_
                            refine wp_ret_bd ?_
                            refine wp_ifn qf_19 ?_
                            refine wp_bd ?_
                            refine wp_of (f_X13_isBetween.eq_1 ..) ?_
                            refine wp_ifn c7 ?_
                            refine wp_ifn c8 ?_
                            refine wp_of (f_X13_isBetween_15.eq_1 ..) ?_
                            refine wp_gd qf_18 ?_
                            refine wp_ret_bd ?_
                            refine wp_ifn qf_19 ?_
                            refine wp_ifp qf_22 ?_
                            refine wp_of (f2_X13_addRecord_67.eq_1 ..) ?_
                            refine wp_bd ?_
                            refine wp_of (f_X13_isBetween.eq_1 ..) ?_
                            refine wp_ifn c10 ?_
                            refine wp_ifn c11 ?_
                            refine wp_of (f_X13_isBetween_15.eq_1 ..) ?_
                            refine wp_gd qf_18 ?_
                            refine wp_ret_bd ?_
                            refine wp_ifn qf_19 ?_
                            refine wp_bd ?_
                            refine wp_of (f_X13_isBetween.eq_1 ..) ?_
                            refine wp_ifn c12 ?_
                            refine wp_ifp c13 ?_
                            refine wp_of (f_X13_isBetween_14.eq_1 ..) ?_
                            refine wp_of (f_X13_isBetween_15.eq_1 ..) ?_
                            refine wp_gd qf_14 ?_
                            refine wp_ret_bd ?_
                            refine wp_ifp qf_15 ?_
                            refine wp_of (f2_X13_addRecord_93.eq_1 ..) ?_
                            refine wp_of (f2_X13_addRecord_94.eq_1 ..) ?_
                            refine wp_ifp qf_15 ?_
                            refine wp_of (f2_X13_addRecord_125.eq_1 ..) ?_
                            refine wp_gd ql_K_149 ?_
                            refine wp_bd ?_
                            refine wp_of (f_X13_isWrong.eq_1 ..) ?_
                            refine wp_gd ql_K_149 ?_
                            refine wp_zI ?_
                            refine wp_ifn qf_17 ?_
                            refine wp_of (f_X13_isWrong_14.eq_1 ..) ?_
                            refine wp_gd qf_18 ?_
                            refine wp_ret_bd ?_
                            refine wp_ifn qf_19 ?_
                            refine wp_ret_bd ?_
                            refine wp_gd ql_K_149 ?_
                            refine wp_bd ?_
                            refine wp_of (f_X13_thrown.eq_1 ..) ?_
                            refine wp_gd ql_K_149 ?_
                            refine wp_lt gI_s ?_
                            refine wp_ret_bd ?_
                            refine wp_ifp qf_20 ?_
                            refine wp_ifn qf_19 ?_
                            refine wp_of (f_L_law_421.eq_1 ..) ?_
                            refine wp_of (f_L_law_3632.eq_1 ..) ?_
                            refine wp_lt qf_21 ?_
                            exact hrc _
                          · skip
                            refine wp_of (f_X10_isIn_15.eq_1 ..) ?_
                            refine wp_gd qf_18 ?_
                            refine wp_ret_bd ?_
                            refine wp_ifn qf_19 ?_
                            refine wp_of (f_X10_addRecord_104.eq_1 ..) ?_
                            refine wp_bd ?_
                            refine wp_of (f_X10_demand.eq_1 ..) ?_
                            refine wp_ifn qf_19 ?_
                            refine wp_ret_bd ?_
                            refine wp_gd ql_K_1 ?_
                            refine wp_lt ql_R_1_0 ?_
                            refine wp_gd ql_K_2 ?_
                            refine wp_lt ql_I_2_4 ?_
                            refine wp_lt ql_R_1_0 ?_
                            refine wp_gd ql_K_2 ?_
                            refine wp_lt ql_R_2_0 ?_
                            refine wp_gd ql_K_3 ?_
                            refine wp_lt (gZo ql_Z_3 qf_23) ?_
                            refine wp_ifp qf_24 ?_
                            refine wp_lt ql_R_1_2 ?_
                            refine wp_gd ql_K_106 ?_
                            refine wp_bd ?_
                            refine wp_of (f_X6_open.eq_1 ..) ?_
                            refine wp_gd ql_K_106 ?_
                            refine wp_lt ql_I_106_2 ?_
                            refine wp_lt qf_25 ?_
                            refine wp_zI ?_
                            refine wp_lt (Eq.trans (gI_b rfl) ql_I_106_2) ?_
                            refine wp_ifn qf_26 ?_
                            refine wp_lt (Eq.trans (gI_b rfl) ql_I_106_2) ?_
                            refine wp_lt qf_27 ?_
                            refine wp_zI ?_
                            refine wp_of (f_X6_open_31.eq_1 ..) ?_
                            refine wp_gd ql_K_106 ?_
                            refine wp_bd ?_
                            refine wp_of (f_X6_put.eq_1 ..) ?_
                            refine wp_gd ql_K_106 ?_
                            refine wp_lt (Eq.trans (gI_b rfl) gI_s) ?_
                            refine wp_ifn qf_28 ?_
                            refine wp_lt (Eq.trans (gI_b rfl) gI_s) ?_
                            refine wp_lt ql_R_106_0 ?_
                            refine wp_gd ql_K_107 ?_
                            refine wp_lt (gZo ql_Z_107 qf_29) ?_
                            refine wp_ifn qf_30 ?_
                            refine wp_lt ql_R_106_0 ?_
                            refine wp_lt (Eq.trans (gI_b rfl) gI_s) ?_
                            refine wp_gd ql_K_107 ?_
                            refine wp_gd (gZi ql_Z_107 qf_31) ?_
                            refine wp_zIk qf_32 ?_
                            refine wp_lt (Eq.trans (gI_a rfl) (Eq.trans (gI_b rfl) gI_s)) ?_
                            refine wp_lt qf_27 ?_
                            refine wp_zI ?_
                            refine wp_of (f_X6_put_39.eq_1 ..) ?_
                            refine wp_ret_bd ?_
                            refine wp_ret_bd ?_
                            refine wp_gd ql_K_1 ?_
                            refine wp_lt ql_R_1_2 ?_
                            refine wp_gd ql_K_106 ?_
                            refine wp_bd ?_
                            refine wp_of (f_X6_put.eq_1 ..) ?_
                            refine wp_gd ql_K_106 ?_
                            refine wp_lt gI_s ?_
                            refine wp_ifn qf_33 ?_
                            refine wp_lt gI_s ?_
                            refine wp_lt ql_R_106_0 ?_
                            refine wp_gd ql_K_107 ?_
                            refine wp_lt (gZo ql_Z_107 qf_29) ?_
                            refine wp_ifn qf_34 ?_
                            refine wp_lt ql_R_106_0 ?_
                            refine wp_lt gI_s ?_
                            refine wp_gd ql_K_107 ?_
                            refine wp_gd (gZi ql_Z_107 qf_35) ?_
                            refine wp_zIk qf_36 ?_
                            refine wp_lt (Eq.trans (gI_a rfl) gI_s) ?_
                            refine wp_lt qf_37 ?_
                            refine wp_zI ?_
                            refine wp_of (f_X6_put_39.eq_1 ..) ?_
                            refine wp_ret_bd ?_
                            refine wp_gd ql_K_1 ?_
                            refine wp_lt ql_R_1_2 ?_
                            refine wp_gd ql_K_106 ?_
                            refine wp_bd ?_
                            refine wp_of (f_X6_put.eq_1 ..) ?_
                            refine wp_gd ql_K_106 ?_
                            refine wp_lt gI_s ?_
                            refine wp_ifn qf_38 ?_
                            refine wp_lt gI_s ?_
                            refine wp_lt ql_R_106_0 ?_
                            refine wp_gd ql_K_107 ?_
                            refine wp_lt (gZo ql_Z_107 qf_29) ?_
                            refine wp_ifn qf_39 ?_
                            refine wp_lt ql_R_106_0 ?_
                            refine wp_lt gI_s ?_
                            refine wp_gd ql_K_107 ?_
                            refine wp_gd (gZi ql_Z_107 qf_40) ?_
                            refine wp_zIk qf_41 ?_
                            refine wp_lt (Eq.trans (gI_a rfl) gI_s) ?_
                            refine wp_lt qf_42 ?_
                            refine wp_zI ?_
                            refine wp_of (f_X6_put_39.eq_1 ..) ?_
                            refine wp_ret_bd ?_
                            refine wp_gd ql_K_1 ?_
                            refine wp_lt ql_R_1_2 ?_
                            refine wp_gd ql_K_106 ?_
                            refine wp_bd ?_
                            refine wp_of (f_X6_put.eq_1 ..) ?_
                            refine wp_gd ql_K_106 ?_
                            refine wp_lt gI_s ?_
                            refine wp_ifn qf_43 ?_
                            refine wp_lt gI_s ?_
                            refine wp_lt ql_R_106_0 ?_
                            refine wp_gd ql_K_107 ?_
                            refine wp_lt (gZo ql_Z_107 qf_29) ?_
                            refine wp_ifn qf_44 ?_
                            refine wp_lt ql_R_106_0 ?_
                            refine wp_lt gI_s ?_
                            refine wp_gd ql_K_107 ?_
                            refine wp_gd (gZi ql_Z_107 qf_45) ?_
                            refine wp_zIk qf_46 ?_
                            refine wp_lt (Eq.trans (gI_a rfl) gI_s) ?_
                            refine wp_lt qf_47 ?_
                            refine wp_zI ?_
                            refine wp_of (f_X6_put_39.eq_1 ..) ?_
                            refine wp_ret_bd ?_
                            refine wp_gd ql_K_1 ?_
                            refine wp_lt ql_R_1_2 ?_
                            refine wp_gd ql_K_106 ?_
                            refine wp_bd ?_
                            refine wp_of (f_X6_put.eq_1 ..) ?_
                            refine wp_gd ql_K_106 ?_
                            refine wp_lt gI_s ?_
                            refine wp_ifn qf_48 ?_
                            refine wp_lt gI_s ?_
                            refine wp_lt ql_R_106_0 ?_
                            refine wp_gd ql_K_107 ?_
                            refine wp_lt (gZo ql_Z_107 qf_29) ?_
                            refine wp_ifn qf_49 ?_
                            refine wp_lt ql_R_106_0 ?_
                            refine wp_lt gI_s ?_
                            refine wp_gd ql_K_107 ?_
                            refine wp_gd (gZi ql_Z_107 qf_50) ?_
                            refine wp_zIk qf_51 ?_
                            refine wp_lt (Eq.trans (gI_a rfl) gI_s) ?_
                            refine wp_lt qf_52 ?_
                            refine wp_zI ?_
                            refine wp_of (f_X6_put_39.eq_1 ..) ?_
                            refine wp_ret_bd ?_
                            refine wp_gd ql_K_1 ?_
                            refine wp_lt ql_R_1_2 ?_
                            refine wp_gd ql_K_106 ?_
                            refine wp_bd ?_
                            refine wp_of (f_X6_put.eq_1 ..) ?_
                            refine wp_gd ql_K_106 ?_
                            refine wp_lt gI_s ?_
                            refine wp_ifn qf_53 ?_
                            refine wp_lt gI_s ?_
                            refine wp_lt ql_R_106_0 ?_
                            refine wp_gd ql_K_107 ?_
                            refine wp_lt (gZo ql_Z_107 qf_29) ?_
                            refine wp_ifn qf_54 ?_
                            refine wp_lt ql_R_106_0 ?_
                            refine wp_lt gI_s ?_
                            refine wp_gd ql_K_107 ?_
                            refine wp_gd (gZi ql_Z_107 qf_55) ?_
                            refine wp_zIk qf_56 ?_
                            refine wp_lt (Eq.trans (gI_a rfl) gI_s) ?_
                            refine wp_lt qf_57 ?_
                            refine wp_zI ?_
                            refine wp_of (f_X6_put_39.eq_1 ..) ?_
                            refine wp_ret_bd ?_
                            refine wp_gd ql_K_1 ?_
                            refine wp_lt ql_R_1_2 ?_
                            refine wp_gd ql_K_106 ?_
                            refine wp_bd ?_
                            refine wp_of (f_X6_put.eq_1 ..) ?_
                            refine wp_gd ql_K_106 ?_
                            refine wp_lt gI_s ?_
                            refine wp_ifn qf_58 ?_
                            refine wp_lt gI_s ?_
                            refine wp_lt ql_R_106_0 ?_
                            refine wp_gd ql_K_107 ?_
                            refine wp_lt (gZo ql_Z_107 qf_29) ?_
                            refine wp_ifn qf_59 ?_
                            refine wp_lt ql_R_106_0 ?_
                            refine wp_lt gI_s ?_
                            refine wp_gd ql_K_107 ?_
                            refine wp_gd (gZi ql_Z_107 qf_60) ?_
                            refine wp_zIk qf_61 ?_
                            refine wp_lt (Eq.trans (gI_a rfl) gI_s) ?_
                            refine wp_lt qf_62 ?_
                            refine wp_zI ?_
                            refine wp_of (f_X6_put_39.eq_1 ..) ?_
                            refine wp_ret_bd ?_
                            refine wp_gd ql_K_1 ?_
                            refine wp_lt ql_R_1_2 ?_
                            refine wp_gd ql_K_106 ?_
                            refine wp_bd ?_
                            refine wp_of (f_X6_put.eq_1 ..) ?_
                            refine wp_gd ql_K_106 ?_
                            refine wp_lt gI_s ?_
                            refine wp_ifn qf_63 ?_
                            refine wp_lt gI_s ?_
                            refine wp_lt ql_R_106_0 ?_
                            refine wp_gd ql_K_107 ?_
                            refine wp_lt (gZo ql_Z_107 qf_29) ?_
                            refine wp_ifn qf_64 ?_
                            refine wp_lt ql_R_106_0 ?_
                            refine wp_lt gI_s ?_
                            refine wp_gd ql_K_107 ?_
                            refine wp_gd (gZi ql_Z_107 qf_65) ?_
                            refine wp_zIk qf_66 ?_
                            refine wp_lt (Eq.trans (gI_a rfl) gI_s) ?_
                            refine wp_lt qf_67 ?_
                            refine wp_zI ?_
                            refine wp_of (f_X6_put_39.eq_1 ..) ?_
                            refine wp_ret_bd ?_
                            refine wp_gd ql_K_1 ?_
                            refine wp_lt ql_R_1_0 ?_
                            refine wp_gd ql_K_2 ?_
                            refine wp_bd ?_
                            refine wp_of (f_X8_addDisc.eq_1 ..) ?_
                            refine wp_gd ql_K_2 ?_
                            refine wp_lt (Eq.trans (gI_a rfl) (Eq.trans (gI_a rfl) (Eq.trans (gI_a rfl) (Eq.trans (gI_a rfl) (Eq.trans (gI_a rfl) (Eq.trans (gI_a rfl) (Eq.trans (gI_a rfl) (Eq.trans (gI_a rfl) (Eq.trans (gI_a rfl) (Eq.trans (gI_a rfl) (Eq.trans (gI_a rfl) (Eq.trans (gI_a rfl) (Eq.trans (gI_a rfl) (Eq.trans (gI_a rfl) (Eq.trans (gI_a rfl) (Eq.trans (gI_a rfl) (Eq.trans (gI_a rfl) (Eq.trans (gI_a rfl) ql_I_2_4)))))))))))))))))) ?_
                            refine wp_ifn qf_28 ?_
                            refine wp_lt (Eq.trans (gI_a rfl) (Eq.trans (gI_a rfl) (Eq.trans (gI_a rfl) (Eq.trans (gI_a rfl) (Eq.trans (gI_a rfl) (Eq.trans (gI_a rfl) (Eq.trans (gI_a rfl) (Eq.trans (gI_a rfl) (Eq.trans (gI_a rfl) (Eq.trans (gI_a rfl) (Eq.trans (gI_a rfl) (Eq.trans (gI_a rfl) (Eq.trans (gI_a rfl) (Eq.trans (gI_a rfl) (Eq.trans (gI_a rfl) (Eq.trans (gI_a rfl) (Eq.trans (gI_a rfl) (Eq.trans (gI_a rfl) ql_I_2_4)))))))))))))))))) ?_
                            refine wp_lt ql_R_2_0 ?_
                            refine wp_gd ql_K_3 ?_
                            refine wp_lt (gZo ql_Z_3 qf_23) ?_
                            refine wp_ifp qf_24 ?_
                            refine wp_lt ql_R_2_0 ?_
                            refine wp_lt (Eq.trans (gI_a rfl) (Eq.trans (gI_a rfl) (Eq.trans (gI_a rfl) (Eq.trans (gI_a rfl) (Eq.trans (gI_a rfl) (Eq.trans (gI_a rfl) (Eq.trans (gI_a rfl) (Eq.trans (gI_a rfl) (Eq.trans (gI_a rfl) (Eq.trans (gI_a rfl) (Eq.trans (gI_a rfl) (Eq.trans (gI_a rfl) (Eq.trans (gI_a rfl) (Eq.trans (gI_a rfl) (Eq.trans (gI_a rfl) (Eq.trans (gI_a rfl) (Eq.trans (gI_a rfl) (Eq.trans (gI_a rfl) ql_I_2_4)))))))))))))))))) ?_
                            refine wp_gd ql_K_3 ?_
                            refine wp_gd (gZi ql_Z_3 qf_68) ?_
                            refine wp_lt (gRk qf_32 ql_R_3_0) ?_
                            refine wp_gd ql_K_4 ?_
                            refine wp_bd ?_
                            refine wp_of (f_X2_fill.eq_1 ..) ?_
                            refine wp_gd ql_K_4 ?_
                            refine wp_zI ?_
                            refine wp_zI ?_
                            refine wp_zI ?_
                            refine wp_zI ?_
                            refine wp_zI ?_
                            refine wp_zI ?_
                            refine wp_zI ?_
                            refine wp_ret_bd ?_
                            refine wp_gd ql_K_2 ?_
                            refine wp_lt (Eq.trans (gI_a rfl) (Eq.trans (gI_a rfl) (Eq.trans (gI_a rfl) (Eq.trans (gI_a rfl) (Eq.trans (gI_a rfl) (Eq.trans (gI_a rfl) (Eq.trans (gI_a rfl) (Eq.trans (gI_a rfl) (Eq.trans (gI_a rfl) (Eq.trans (gI_a rfl) (Eq.trans (gI_a rfl) (Eq.trans (gI_a rfl) (Eq.trans (gI_a rfl) (Eq.trans (gI_a rfl) (Eq.trans (gI_a rfl) (Eq.trans (gI_a rfl) (Eq.trans (gI_a rfl) (Eq.trans (gI_a rfl) (Eq.trans (gI_a rfl) (Eq.trans (gI_a rfl) (Eq.trans (gI_a rfl) (Eq.trans (gI_a rfl) (Eq.trans (gI_a rfl) (Eq.trans (gI_a rfl) (Eq.trans (gI_a rfl) ql_I_2_4))))))))))))))))))))))))) ?_
                            refine wp_lt qf_27 ?_
                            refine wp_zI ?_
                            refine wp_lt gI_s ?_
                            refine wp_lt qf_69 ?_
                            refine wp_ret_bd ?_
                            refine wp_ret_bdc ?_
                            refine wp_lt qf_70 ?_
                            refine wp_gd ql_K_173 ?_
                            refine wp_gd (gZi ql_Z_173 qf_71) ?_
                            refine wp_zLk qf_32 ?_
                            refine wp_ret_bd ?_
                            refine wp_gd qf_0 ?_
                            refine wp_lt (xsk qf_1 hy1) ?_
                            refine wp_gd qf_2 ?_
                            refine wp_lt (xsk qf_3 hy2) ?_
                            refine wp_gd qf_4 ?_
                            refine wp_lt (xsk qf_5 hy3) ?_
                            refine wp_gd qf_6 ?_
                            refine wp_lt (xsk qf_7 hy4) ?_
                            refine wp_gd qf_8 ?_
                            refine wp_lt (xsk qf_9 hy5) ?_
                            refine wp_gd qf_10 ?_
                            refine wp_lt (xsk qf_11 hy6) ?_
                            refine wp_gd qf_12 ?_
                            refine wp_lt (xsk qf_13 hy7) ?_
                            refine wp_gd ql_K_149 ?_
                            refine wp_bd ?_
                            refine wp_of (f2_X13_addRecord.eq_1 ..) ?_
                            refine wp_bd ?_
                            refine wp_of (f_X13_isBetween.eq_1 ..) ?_
                            refine wp_ifn c1 ?_
                            refine wp_ifn c2 ?_
                            refine wp_of (f_X13_isBetween_15.eq_1 ..) ?_
                            refine wp_gd qf_18 ?_
                            refine wp_ret_bd ?_
                            refine wp_ifn qf_19 ?_
                            refine wp_bd ?_
                            refine wp_of (f_X13_isBetween.eq_1 ..) ?_
                            refine wp_ifn c3 ?_
                            refine wp_ifn c4 ?_
                            refine wp_of (f_X13_isBetween_15.eq_1 ..) ?_
                            refine wp_gd qf_18 ?_
                            refine wp_ret_bd ?_
                            refine wp_ifn qf_19 ?_
                            refine wp_bd ?_
                            refine wp_of (f_X13_isBetween.eq_1 ..) ?_
                            refine wp_ifn c5 ?_
                            refine wp_ifn c6 ?_
                            refine wp_of (f_X13_isBetween_15.eq_1 ..) ?_
                            refine wp_gd qf_18 ?_
                            refine wp_ret_bd ?_
                            refine wp_ifn qf_19 ?_
                            refine wp_bd ?_
                            refine wp_of (f_X13_isBetween.eq_1 ..) ?_
                            refine wp_ifn c7 ?_
                            refine wp_ifn c8 ?_
                            refine wp_of (f_X13_isBetween_15.eq_1 ..) ?_
                            refine wp_gd qf_18 ?_
                            refine wp_ret_bd ?_
                            refine wp_ifn qf_19 ?_
                            refine wp_ifp qf_22 ?_
                            refine wp_of (f2_X13_addRecord_67.eq_1 ..) ?_
                            refine wp_bd ?_
                            refine wp_of (f_X13_isBetween.eq_1 ..) ?_
                            refine wp_ifn c10 ?_
                            refine wp_ifn c11 ?_
                            refine wp_of (f_X13_isBetween_15.eq_1 ..) ?_
                            refine wp_gd qf_18 ?_
                            refine wp_ret_bd ?_
                            refine wp_ifn qf_19 ?_
                            refine wp_bd ?_
                            refine wp_of (f_X13_isBetween.eq_1 ..) ?_
                            refine wp_ifn c12 ?_
                            refine wp_ifn c13 ?_
                            refine wp_of (f_X13_isBetween_15.eq_1 ..) ?_
                            refine wp_gd qf_18 ?_
                            refine wp_ret_bd ?_
                            refine wp_ifn qf_19 ?_
                            refine wp_of (f2_X13_addRecord_94.eq_1 ..) ?_
                            refine wp_ifn qf_19 ?_
                            refine wp_gd ql_K_149 ?_
                            refine wp_lt ql_R_149_1 ?_
                            refine wp_gd ql_K_150 ?_
                            refine wp_bd ?_
                            refine wp_of (f_Jx4a65c_size_8abf5.eq_1 ..) ?_
                            refine wp_gd ql_K_150 ?_
                            refine wp_lt (Eq.trans (gI_a rfl) (Eq.trans (gI_a rfl) (Eq.trans (gI_a rfl) (Eq.trans (gI_a rfl) (Eq.trans (gI_a rfl) (Eq.trans (gI_a rfl) (Eq.trans (gI_a rfl) (Eq.trans (gI_a rfl) (Eq.trans (gI_a rfl) (Eq.trans (gI_a rfl) (Eq.trans (gI_a rfl) (Eq.trans (gI_a rfl) (Eq.trans (gI_a rfl) (Eq.trans (gI_a rfl) (Eq.trans (gI_a rfl) (Eq.trans (gI_a rfl) (Eq.trans (gI_a rfl) (Eq.trans (gI_a rfl) (Eq.trans (gI_a rfl) (Eq.trans (gI_a rfl) (Eq.trans (gI_a rfl) (Eq.trans (gI_a rfl) (Eq.trans (gI_a rfl) (Eq.trans (gI_a rfl) (Eq.trans (gI_a rfl) (Eq.trans (gI_a rfl) ql_I_150_2)))))))))))))))))))))))))) ?_
                            refine wp_ret_bd ?_
                            refine wp_ifn qf_72 ?_
                            refine wp_of (f2_X13_addRecord_125.eq_1 ..) ?_
                            refine wp_gd ql_K_149 ?_
                            refine wp_bd ?_
                            refine wp_of (f_X13_isWrong.eq_1 ..) ?_
                            refine wp_gd ql_K_149 ?_
                            refine wp_zI ?_
                            refine wp_ifp qf_73 ?_
                            refine wp_of (f_X13_isWrong_14.eq_1 ..) ?_
                            refine wp_gd qf_14 ?_
                            refine wp_ret_bd ?_
                            refine wp_ifp qf_15 ?_
                            refine wp_gd ql_K_149 ?_
                            refine wp_lt ql_R_149_1 ?_
                            refine wp_gd (gNk (n := 174) qf_74) ?_
                            refine wp_zW (m := 175) rfl ?_
                            refine wp_lt (show _ = 175 from rfl) ?_
                            refine wp_bd ?_
                            refine wp_of (f_X12_init.eq_1 ..) ?_
                            refine wp_gd gK_n ?_
                            refine wp_zI ?_
                            refine wp_zI ?_
                            refine wp_zI ?_
                            refine wp_zI ?_
                            refine wp_zI ?_
                            refine wp_zI ?_
                            refine wp_zI ?_
                            refine wp_ret_bd ?_
                            refine wp_gd (Eq.trans (gK_w rfl) ql_K_150) ?_
                            refine wp_bd ?_
                            refine wp_of (f2_Jx4a65c_add_9ea2d.eq_1 ..) ?_
                            refine wp_gd (Eq.trans (gK_w rfl) ql_K_150) ?_
                            refine wp_lt (Eq.trans (gI_a rfl) (Eq.trans (gI_a rfl) (Eq.trans (gI_a rfl) (Eq.trans (gI_a rfl) (Eq.trans (gI_a rfl) (Eq.trans (gI_a rfl) (Eq.trans (gI_a rfl) (Eq.trans (gI_w rfl) (Eq.trans (gI_a rfl) (Eq.trans (gI_a rfl) (Eq.trans (gI_a rfl) (Eq.trans (gI_a rfl) (Eq.trans (gI_a rfl) (Eq.trans (gI_a rfl) (Eq.trans (gI_a rfl) (Eq.trans (gI_a rfl) (Eq.trans (gI_a rfl) (Eq.trans (gI_a rfl) (Eq.trans (gI_a rfl) (Eq.trans (gI_a rfl) (Eq.trans (gI_a rfl) (Eq.trans (gI_a rfl) (Eq.trans (gI_a rfl) (Eq.trans (gI_a rfl) (Eq.trans (gI_a rfl) (Eq.trans (gI_a rfl) (Eq.trans (gI_a rfl) (Eq.trans (gI_a rfl) (Eq.trans (gI_a rfl) (Eq.trans (gI_a rfl) (Eq.trans (gI_a rfl) (Eq.trans (gI_a rfl) (Eq.trans (gI_a rfl) (Eq.trans (gI_a rfl) (Eq.trans (gI_a rfl) ql_I_150_0))))))))))))))))))))))))))))))))))) ?_
                            refine wp_lt qf_27 ?_
                            refine wp_zI ?_
                            refine wp_lt (Eq.trans (gR_w rfl) ql_R_150_1) ?_
                            refine wp_lt (Eq.trans (gI_b rfl) (Eq.trans (gI_a rfl) (Eq.trans (gI_a rfl) (Eq.trans (gI_a rfl) (Eq.trans (gI_a rfl) (Eq.trans (gI_a rfl) (Eq.trans (gI_a rfl) (Eq.trans (gI_a rfl) (Eq.trans (gI_w rfl) (Eq.trans (gI_a rfl) (Eq.trans (gI_a rfl) (Eq.trans (gI_a rfl) (Eq.trans (gI_a rfl) (Eq.trans (gI_a rfl) (Eq.trans (gI_a rfl) (Eq.trans (gI_a rfl) (Eq.trans (gI_a rfl) (Eq.trans (gI_a rfl) (Eq.trans (gI_a rfl) (Eq.trans (gI_a rfl) (Eq.trans (gI_a rfl) (Eq.trans (gI_a rfl) (Eq.trans (gI_a rfl) (Eq.trans (gI_a rfl) (Eq.trans (gI_a rfl) (Eq.trans (gI_a rfl) (Eq.trans (gI_a rfl) (Eq.trans (gI_a rfl) (Eq.trans (gI_a rfl) (Eq.trans (gI_a rfl) (Eq.trans (gI_a rfl) (Eq.trans (gI_a rfl) (Eq.trans (gI_a rfl) (Eq.trans (gI_a rfl) (Eq.trans (gI_a rfl) (Eq.trans (gI_a rfl) ql_I_150_2)))))))))))))))))))))))))))))))))))) ?_
                            refine wp_bd ?_
                            refine wp_of (f2_Jx4a65c_add_72be8.eq_1 ..) ?_
                            refine wp_ifp qf_75 ?_
                            refine wp_ifp qf_15 ?_
                            refine wp_gd (Eq.trans (gK_w rfl) ql_K_150) ?_
                            refine wp_bd ?_
                            refine wp_of (f2_Jx4a65c_grow_d5877.eq_1 ..) ?_
                            refine wp_gd (Eq.trans (gK_w rfl) ql_K_150) ?_
                            refine wp_lt (Eq.trans (gI_b rfl) (Eq.trans (gI_a rfl) (Eq.trans (gI_a rfl) (Eq.trans (gI_a rfl) (Eq.trans (gI_a rfl) (Eq.trans (gI_a rfl) (Eq.trans (gI_a rfl) (Eq.trans (gI_a rfl) (Eq.trans (gI_w rfl) (Eq.trans (gI_a rfl) (Eq.trans (gI_a rfl) (Eq.trans (gI_a rfl) (Eq.trans (gI_a rfl) (Eq.trans (gI_a rfl) (Eq.trans (gI_a rfl) (Eq.trans (gI_a rfl) (Eq.trans (gI_a rfl) (Eq.trans (gI_a rfl) (Eq.trans (gI_a rfl) (Eq.trans (gI_a rfl) (Eq.trans (gI_a rfl) (Eq.trans (gI_a rfl) (Eq.trans (gI_a rfl) (Eq.trans (gI_a rfl) (Eq.trans (gI_a rfl) (Eq.trans (gI_a rfl) (Eq.trans (gI_a rfl) (Eq.trans (gI_a rfl) (Eq.trans (gI_a rfl) (Eq.trans (gI_a rfl) (Eq.trans (gI_a rfl) (Eq.trans (gI_a rfl) (Eq.trans (gI_a rfl) (Eq.trans (gI_a rfl) (Eq.trans (gI_a rfl) (Eq.trans (gI_a rfl) ql_I_150_2)))))))))))))))))))))))))))))))))))) ?_
                            refine wp_lt qf_27 ?_
                            refine wp_bd ?_
                            refine wp_of (f2_Jx4a65c_grow_92f84.eq_1 ..) ?_
                            refine wp_gd (Eq.trans (gK_w rfl) ql_K_150) ?_
                            refine wp_lt (Eq.trans (gR_w rfl) ql_R_150_1) ?_
                            refine wp_ifp qf_75 ?_
                            refine wp_ifn qf_28 ?_
                            refine wp_lt (Eq.trans (gR_w rfl) ql_R_150_1) ?_
                            refine wp_gd qf_76 ?_
                            refine wp_ifp qf_75 ?_
                            refine wp_lt qf_77 ?_
                            refine wp_ifp qf_78 ?_
                            refine wp_gd (gNk (n := 175) qf_79) ?_
                            refine wp_zW (m := 176) rfl ?_
                            refine wp_lt (show _ = 176 from rfl) ?_
                            refine wp_gd (Eq.trans (gK_w rfl) (Eq.trans (gK_w rfl) ql_K_150)) ?_
                            refine wp_zR ?_
                            refine wp_ret_bd ?_
                            refine wp_ret_bd ?_
                            refine wp_of (f2_Jx4a65c_add_72be8_11.eq_1 ..) ?_
                            refine wp_gd gK_n ?_
                            refine wp_gd (gZi gZ_n qf_80) ?_
                            refine wp_ifp (Eq.trans (gK_w rfl) gK_n) ?_
                            refine wp_zRk qf_32 ?_
                            refine wp_lt qf_27 ?_
                            refine wp_gd (Eq.trans (gK_w rfl) (Eq.trans (gK_w rfl) ql_K_150)) ?_
                            refine wp_zI ?_
                            refine wp_ret_bd ?_
                            refine wp_ret_bd ?_
                            refine wp_gd (Eq.trans (gK_w rfl) (Eq.trans (gK_w rfl) ql_K_149)) ?_
                            refine wp_bd ?_
                            refine wp_of (f_X13_logs.eq_1 ..) ?_
                            refine wp_gd (Eq.trans (gK_w rfl) (Eq.trans (gK_w rfl) ql_K_149)) ?_
                            refine wp_lt (Eq.trans (gI_a rfl) (Eq.trans (gI_w rfl) (Eq.trans (gI_a rfl) (Eq.trans (gI_a rfl) (Eq.trans (gI_a rfl) (Eq.trans (gI_a rfl) (Eq.trans (gI_a rfl) (Eq.trans (gI_a rfl) (Eq.trans (gI_a rfl) (Eq.trans (gI_a rfl) (Eq.trans (gI_w rfl) (Eq.trans (gI_b rfl) (Eq.trans (gI_a rfl) (Eq.trans (gI_a rfl) (Eq.trans (gI_a rfl) (Eq.trans (gI_a rfl) (Eq.trans (gI_a rfl) (Eq.trans (gI_a rfl) (Eq.trans (gI_a rfl) (Eq.trans (gI_a rfl) (Eq.trans (gI_a rfl) (Eq.trans (gI_a rfl) (Eq.trans (gI_a rfl) (Eq.trans (gI_a rfl) (Eq.trans (gI_a rfl) (Eq.trans (gI_a rfl) (Eq.trans (gI_a rfl) (Eq.trans (gI_a rfl) (Eq.trans (gI_a rfl) (Eq.trans (gI_a rfl) (Eq.trans (gI_a rfl) (Eq.trans (gI_a rfl) (Eq.trans (gI_a rfl) (Eq.trans (gI_a rfl) (Eq.trans (gI_a rfl) (Eq.trans (gI_a rfl) (Eq.trans (gI_a rfl) (Eq.trans (gI_a rfl) ql_I_149_16)))))))))))))))))))))))))))))))))))))) ?_
                            refine wp_lt qf_27 ?_
                            refine wp_zI ?_
                            refine wp_ret_bd ?_
                            refine wp_gd (Eq.trans (gK_w rfl) (Eq.trans (gK_w rfl) ql_K_149)) ?_
                            refine wp_lt (Eq.trans (gR_a rfl) (Eq.trans (gR_a rfl) (Eq.trans (gR_w rfl) (Eq.trans (gR_w rfl) ql_R_149_1)))) ?_
                            refine wp_gd (Eq.trans (gK_w rfl) (Eq.trans (gK_w rfl) ql_K_150)) ?_
                            refine wp_bd ?_
                            refine wp_of (f_Jx4a65c_size_8abf5.eq_1 ..) ?_
                            refine wp_gd (Eq.trans (gK_w rfl) (Eq.trans (gK_w rfl) ql_K_150)) ?_
                            refine wp_lt (Eq.trans (gI_a rfl) gI_s) ?_
                            refine wp_ret_bd ?_
                            refine wp_lt qf_69 ?_
                            refine wp_ret_bd ?_
                            refine wp_gd (Eq.trans (gK_w rfl) (Eq.trans (gK_w rfl) ql_K_149)) ?_
                            refine wp_bd ?_
                            refine wp_of (f_X13_thrown.eq_1 ..) ?_
                            refine wp_gd (Eq.trans (gK_w rfl) (Eq.trans (gK_w rfl) ql_K_149)) ?_
                            refine wp_lt (Eq.trans (gI_b rfl) (Eq.trans (gI_a rfl) (Eq.trans (gI_w rfl) (Eq.trans (gI_a rfl) (Eq.trans (gI_a rfl) (Eq.trans (gI_a rfl) (Eq.trans (gI_a rfl) (Eq.trans (gI_a rfl) (Eq.trans (gI_a rfl) (Eq.trans (gI_a rfl) (Eq.trans (gI_a rfl) (Eq.trans (gI_w rfl) gI_s)))))))))))) ?_
                            refine wp_ret_bd ?_
                            refine wp_ifp qf_15 ?_
                            refine wp_ifp qf_15 ?_
                            refine wp_gd (Eq.trans (gK_w rfl) (Eq.trans (gK_w rfl) ql_K_173)) ?_
                            refine wp_gd (gZi (Eq.trans (gZ_w rfl) (Eq.trans (gZ_w rfl) ql_Z_173)) qf_71) ?_
                            refine wp_lt (gLk qf_32 (Eq.trans (gL_w rfl) (Eq.trans (gL_w rfl) gL_s))) ?_
                            refine wp_lt qf_70 ?_
                            refine wp_lt qf_81 ?_
                            refine wp_ifp qf_15 ?_
                            refine wp_of (f_L_law_421.eq_1 ..) ?_
                            refine wp_of (f_L_law_3632.eq_1 ..) ?_
                            refine wp_lt qf_21 ?_
                            exact hrc _
                  · skip
                    refine wp_if (fun c10 => ?_) (fun c10 => ?_)
                    · skip
                      subst c10
                      refine wp_of (f_X10_addRecord_69.eq_1 ..) ?_
                      refine wp_of (f_X10_addRecord_74.eq_1 ..) ?_
                      refine wp_bd ?_
                      refine wp_of (f_X10_demand.eq_1 ..) ?_
                      refine wp_ifn qf_19 ?_
                      refine wp_ret_bd ?_
                      refine wp_bd ?_
                      refine wp_of (f_X10_isIn.eq_1 ..) ?_
                      refine wp_if (fun c11 => ?_) (fun c11 => ?_)
                      · skip
                        refine wp_of (f_X10_isIn_14.eq_1 ..) ?_
                        refine wp_of (f_X10_isIn_15.eq_1 ..) ?_
                        refine wp_gd qf_14 ?_
                        refine wp_ret_bd ?_
                        refine wp_ifp qf_15 ?_
                        refine wp_of (f_X10_addRecord_103.eq_1 ..) ?_
                        refine wp_of (f_X10_addRecord_104.eq_1 ..) ?_
                        refine wp_bd ?_
                        refine wp_of (f_X10_demand.eq_1 ..) ?_
                        refine wp_ifp qf_15 ?_
                        refine wp_rs_bd ?_
                        refine wp_rs_bdc ?_
                        refine wp_ifp qf_16 ?_
                        refine wp_ret_bd ?_
                        refine wp_gd qf_0 ?_
                        refine wp_lt (xsk qf_1 hy1) ?_
                        refine wp_gd qf_2 ?_
                        refine wp_lt (xsk qf_3 hy2) ?_
                        refine wp_gd qf_4 ?_
                        refine wp_lt (xsk qf_5 hy3) ?_
                        refine wp_gd qf_6 ?_
                        refine wp_lt (xsk qf_7 hy4) ?_
                        refine wp_gd qf_8 ?_
                        refine wp_lt (xsk qf_9 hy5) ?_
                        refine wp_gd qf_10 ?_
                        refine wp_lt (xsk qf_11 hy6) ?_
                        refine wp_gd qf_12 ?_
                        refine wp_lt (xsk qf_13 hy7) ?_
                        refine wp_gd ql_K_149 ?_
                        refine wp_bd ?_
                        refine wp_of (f2_X13_addRecord.eq_1 ..) ?_
                        refine wp_bd ?_
                        refine wp_of (f_X13_isBetween.eq_1 ..) ?_
                        refine wp_ifn c1 ?_
                        refine wp_ifn c2 ?_
                        refine wp_of (f_X13_isBetween_15.eq_1 ..) ?_
                        refine wp_gd qf_18 ?_
                        refine wp_ret_bd ?_
                        refine wp_ifn qf_19 ?_
                        refine wp_bd ?_
                        refine wp_of (f_X13_isBetween.eq_1 ..) ?_
                        refine wp_ifn c3 ?_
                        refine wp_ifn c4 ?_
                        refine wp_of (f_X13_isBetween_15.eq_1 ..) ?_
                        refine wp_gd qf_18 ?_
                        refine wp_ret_bd ?_
                        refine wp_ifn qf_19 ?_
                        refine wp_bd ?_
                        refine wp_of (f_X13_isBetween.eq_1 ..) ?_
                        refine wp_ifn c5 ?_
                        refine wp_ifn c6 ?_
                        refine wp_of (f_X13_isBetween_15.eq_1 ..) ?_
                        refine wp_gd qf_18 ?_
                        refine wp_ret_bd ?_
                        refine wp_ifn qf_19 ?_
                        refine wp_bd ?_
                        refine wp_of (f_X13_isBetween.eq_1 ..) ?_
                        refine wp_ifn c7 ?_
                        refine wp_ifn c8 ?_
                        refine wp_of (f_X13_isBetween_15.eq_1 ..) ?_
                        refine wp_gd qf_18 ?_
                        refine wp_ret_bd ?_
                        refine wp_ifn qf_19 ?_
                        refine wp_ifn qf_82 ?_
                        refine wp_ifp qf_83 ?_
                        refine wp_of (f2_X13_addRecord_67.eq_1 ..) ?_
                        refine wp_bd ?_
                        refine wp_of (f_X13_isBetween.eq_1 ..) ?_
                        refine wp_ifp c11 ?_
                        refine wp_of (f_X13_isBetween_14.eq_1 ..) ?_
                        refine wp_of (f_X13_isBetween_15.eq_1 ..) ?_
                        refine wp_gd qf_14 ?_
                        refine wp_ret_bd ?_
                        refine wp_ifp qf_15 ?_
                        refine wp_of (f2_X13_addRecord_93.eq_1 ..) ?_
                        refine wp_of (f2_X13_addRecord_94.eq_1 ..) ?_
                        refine wp_ifp qf_15 ?_
                        refine wp_of (f2_X13_addRecord_125.eq_1 ..) ?_
                        refine wp_gd ql_K_149 ?_
                        refine wp_bd ?_
                        refine wp_of (f_X13_isWrong.eq_1 ..) ?_
                        refine wp_gd ql_K_149 ?_
                        refine wp_zI ?_
                        refine wp_ifn qf_17 ?_
                        refine wp_of (f_X13_isWrong_14.eq_1 ..) ?_
                        refine wp_gd qf_18 ?_
                        refine wp_ret_bd ?_
                        refine wp_ifn qf_19 ?_
                        refine wp_ret_bd ?_
                        refine wp_gd ql_K_149 ?_
                        refine wp_bd ?_
                        refine wp_of (f_X13_thrown.eq_1 ..) ?_
                        refine wp_gd ql_K_149 ?_
                        refine wp_lt gI_s ?_
                        refine wp_ret_bd ?_
                        refine wp_ifp qf_20 ?_
                        refine wp_ifn qf_19 ?_
                        refine wp_of (f_L_law_421.eq_1 ..) ?_
                        refine wp_of (f_L_law_3632.eq_1 ..) ?_
                        refine wp_lt qf_21 ?_
                        exact hrc _
                      · skip
                        refine wp_if (fun c12 => ?_) (fun c12 => ?_)
                        · skip
                          refine wp_of (f_X10_isIn_14.eq_1 ..) ?_
                          refine wp_of (f_X10_isIn_15.eq_1 ..) ?_
                          refine wp_gd qf_14 ?_
                          refine wp_ret_bd ?_
                          refine wp_ifp qf_15 ?_
                          refine wp_of (f_X10_addRecord_103.eq_1 ..) ?_
                          refine wp_of (f_X10_addRecord_104.eq_1 ..) ?_
                          refine wp_bd ?_
                          refine wp_of (f_X10_demand.eq_1 ..) ?_
                          refine wp_ifp qf_15 ?_
                          refine wp_rs_bd ?_
                          refine wp_rs_bdc ?_
                          refine wp_ifp qf_16 ?_
                          refine wp_ret_bd ?_
                          refine wp_gd qf_0 ?_
                          refine wp_lt (xsk qf_1 hy1) ?_
                          refine wp_gd qf_2 ?_
                          refine wp_lt (xsk qf_3 hy2) ?_
                          refine wp_gd qf_4 ?_
                          refine wp_lt (xsk qf_5 hy3) ?_
                          refine wp_gd qf_6 ?_
                          refine wp_lt (xsk qf_7 hy4) ?_
                          refine wp_gd qf_8 ?_
                          refine wp_lt (xsk qf_9 hy5) ?_
                          refine wp_gd qf_10 ?_
                          refine wp_lt (xsk qf_11 hy6) ?_
                          refine wp_gd qf_12 ?_
                          refine wp_lt (xsk qf_13 hy7) ?_
                          refine wp_gd ql_K_149 ?_
                          refine wp_bd ?_
                          refine wp_of (f2_X13_addRecord.eq_1 ..) ?_
                          refine wp_bd ?_
                          refine wp_of (f_X13_isBetween.eq_1 ..) ?_
                          refine wp_ifn c1 ?_
                          refine wp_ifn c2 ?_
                          refine wp_of (f_X13_isBetween_15.eq_1 ..) ?_
                          refine wp_gd qf_18 ?_
                          refine wp_ret_bd ?_
                          refine wp_ifn qf_19 ?_
                          refine wp_bd ?_
                          refine wp_of (f_X13_isBetween.eq_1 ..) ?_
                          refine wp_ifn c3 ?_
                          refine wp_ifn c4 ?_
                          refine wp_of (f_X13_isBetween_15.eq_1 ..) ?_
                          refine wp_gd qf_18 ?_
                          refine wp_ret_bd ?_
                          refine wp_ifn qf_19 ?_
                          refine wp_bd ?_
                          refine wp_of (f_X13_isBetween.eq_1 ..) ?_
                          refine wp_ifn c5 ?_
                          refine wp_ifn c6 ?_
                          refine wp_of (f_X13_isBetween_15.eq_1 ..) ?_
                          refine wp_gd qf_18 ?_
                          refine wp_ret_bd ?_
                          refine wp_ifn qf_19 ?_
                          refine wp_bd ?_
                          refine wp_of (f_X13_isBetween.eq_1 ..) ?_
                          refine wp_ifn c7 ?_
                          refine wp_ifn c8 ?_
                          refine wp_of (f_X13_isBetween_15.eq_1 ..) ?_
                          refine wp_gd qf_18 ?_
                          refine wp_ret_bd ?_
                          refine wp_ifn qf_19 ?_
                          refine wp_ifn qf_82 ?_
                          refine wp_ifp qf_83 ?_
                          refine wp_of (f2_X13_addRecord_67.eq_1 ..) ?_
                          refine wp_bd ?_
                          refine wp_of (f_X13_isBetween.eq_1 ..) ?_
                          refine wp_ifn c11 ?_
                          refine wp_ifp c12 ?_
                          refine wp_of (f_X13_isBetween_14.eq_1 ..) ?_
                          refine wp_of (f_X13_isBetween_15.eq_1 ..) ?_
                          refine wp_gd qf_14 ?_
                          refine wp_ret_bd ?_
                          refine wp_ifp qf_15 ?_
                          refine wp_of (f2_X13_addRecord_93.eq_1 ..) ?_
                          refine wp_of (f2_X13_addRecord_94.eq_1 ..) ?_
                          refine wp_ifp qf_15 ?_
                          refine wp_of (f2_X13_addRecord_125.eq_1 ..) ?_
                          refine wp_gd ql_K_149 ?_
                          refine wp_bd ?_
                          refine wp_of (f_X13_isWrong.eq_1 ..) ?_
                          refine wp_gd ql_K_149 ?_
                          refine wp_zI ?_
                          refine wp_ifn qf_17 ?_
                          refine wp_of (f_X13_isWrong_14.eq_1 ..) ?_
                          refine wp_gd qf_18 ?_
                          refine wp_ret_bd ?_
                          refine wp_ifn qf_19 ?_
                          refine wp_ret_bd ?_
                          refine wp_gd ql_K_149 ?_
                          refine wp_bd ?_
                          refine wp_of (f_X13_thrown.eq_1 ..) ?_
                          refine wp_gd ql_K_149 ?_
                          refine wp_lt gI_s ?_
                          refine wp_ret_bd ?_
                          refine wp_ifp qf_20 ?_
                          refine wp_ifn qf_19 ?_
                          refine wp_of (f_L_law_421.eq_1 ..) ?_
                          refine wp_of (f_L_law_3632.eq_1 ..) ?_
                          refine wp_lt qf_21 ?_
                          exact hrc _
                        · skip
                          refine wp_of (f_X10_isIn_15.eq_1 ..) ?_
                          refine wp_gd qf_18 ?_
                          refine wp_ret_bd ?_
                          refine wp_ifn qf_19 ?_
                          refine wp_bd ?_
                          refine wp_of (f_X10_isIn.eq_1 ..) ?_
                          refine wp_if (fun c13 => ?_) (fun c13 => ?_)
                          · skip
                            refine wp_of (f_X10_isIn_14.eq_1 ..) ?_
                            refine wp_of (f_X10_isIn_15.eq_1 ..) ?_
                            refine wp_gd qf_14 ?_
                            refine wp_ret_bd ?_
                            refine wp_ifp qf_15 ?_
                            refine wp_of (f_X10_addRecord_103.eq_1 ..) ?_
                            refine wp_of (f_X10_addRecord_104.eq_1 ..) ?_
                            refine wp_bd ?_
                            refine wp_of (f_X10_demand.eq_1 ..) ?_
                            refine wp_ifp qf_15 ?_
                            refine wp_rs_bd ?_
                            refine wp_rs_bdc ?_
                            refine wp_ifp qf_16 ?_
                            refine wp_ret_bd ?_
                            refine wp_gd qf_0 ?_
                            refine wp_lt (xsk qf_1 hy1) ?_
                            refine wp_gd qf_2 ?_
                            refine wp_lt (xsk qf_3 hy2) ?_
                            refine wp_gd qf_4 ?_
                            refine wp_lt (xsk qf_5 hy3) ?_
                            refine wp_gd qf_6 ?_
                            refine wp_lt (xsk qf_7 hy4) ?_
                            refine wp_gd qf_8 ?_
                            refine wp_lt (xsk qf_9 hy5) ?_
                            refine wp_gd qf_10 ?_
                            refine wp_lt (xsk qf_11 hy6) ?_
                            refine wp_gd qf_12 ?_
                            refine wp_lt (xsk qf_13 hy7) ?_
                            refine wp_gd ql_K_149 ?_
                            refine wp_bd ?_
                            refine wp_of (f2_X13_addRecord.eq_1 ..) ?_
                            refine wp_bd ?_
                            refine wp_of (f_X13_isBetween.eq_1 ..) ?_
                            refine wp_ifn c1 ?_
                            refine wp_ifn c2 ?_
                            refine wp_of (f_X13_isBetween_15.eq_1 ..) ?_
                            refine wp_gd qf_18 ?_
                            refine wp_ret_bd ?_
                            refine wp_ifn qf_19 ?_
                            refine wp_bd ?_
                            refine wp_of (f_X13_isBetween.eq_1 ..) ?_
                            refine wp_ifn c3 ?_
                            refine wp_ifn c4 ?_
                            refine wp_of (f_X13_isBetween_15.eq_1 ..) ?_
                            refine wp_gd qf_18 ?_
                            refine wp_ret_bd ?_
                            refine wp_ifn qf_19 ?_
                            refine wp_bd ?_
                            refine wp_of (f_X13_isBetween.eq_1 ..) ?_
                            refine wp_ifn c5 ?_
                            refine wp_ifn c6 ?_
                            refine wp_of (f_X13_isBetween_15.eq_1 ..) ?_
                            refine wp_gd qf_18 ?_
                            refine wp_ret_bd ?_
                            refine wp_ifn qf_19 ?_
                            refine wp_bd ?_
                            refine wp_of (f_X13_isBetween.eq_1 ..) ?_
                            refine wp_ifn c7 ?_
                            refine wp_ifn c8 ?_
                            refine wp_of (f_X13_isBetween_15.eq_1 ..) ?_
                            refine wp_gd qf_18 ?_
                            refine wp_ret_bd ?_
                            refine wp_ifn qf_19 ?_
                            refine wp_ifn qf_82 ?_
                            refine wp_ifp qf_83 ?_
                            refine wp_of (f2_X13_addRecord_67.eq_1 ..) ?_
                            refine wp_bd ?_
                            refine wp_of (f_X13_isBetween.eq_1 ..) ?_
                            refine wp_ifn c11 ?_
                            refine wp_ifn c12 ?_
                            refine wp_of (f_X13_isBetween_15.eq_1 ..) ?_
                            refine wp_gd qf_18 ?_
                            refine wp_ret_bd ?_
                            refine wp_ifn qf_19 ?_
                            refine wp_bd ?_
                            refine wp_of (f_X13_isBetween.eq_1 ..) ?_
                            refine wp_ifp c13 ?_
                            refine wp_of (f_X13_isBetween_14.eq_1 ..) ?_
                            refine wp_of (f_X13_isBetween_15.eq_1 ..) ?_
                            refine wp_gd qf_14 ?_
                            refine wp_ret_bd ?_
                            refine wp_ifp qf_15 ?_
                            refine wp_of (f2_X13_addRecord_93.eq_1 ..) ?_
                            refine wp_of (f2_X13_addRecord_94.eq_1 ..) ?_
                            refine wp_ifp qf_15 ?_
                            refine wp_of (f2_X13_addRecord_125.eq_1 ..) ?_
                            refine wp_gd ql_K_149 ?_
                            refine wp_bd ?_
                            refine wp_of (f_X13_isWrong.eq_1 ..) ?_
                            refine wp_gd ql_K_149 ?_
                            refine wp_zI ?_
                            refine wp_ifn qf_17 ?_
                            refine wp_of (f_X13_isWrong_14.eq_1 ..) ?_
                            refine wp_gd qf_18 ?_
                            refine wp_ret_bd ?_
                            refine wp_ifn qf_19 ?_
                            refine wp_ret_bd ?_
                            refine wp_gd ql_K_149 ?_
                            refine wp_bd ?_
                            refine wp_of (f_X13_thrown.eq_1 ..) ?_
                            refine wp_gd ql_K_149 ?_
                            refine wp_lt gI_s ?_
                            refine wp_ret_bd ?_
                            refine wp_ifp qf_20 ?_
                            refine wp_ifn qf_19 ?_
                            refine wp_of (f_L_law_421.eq_1 ..) ?_
                            refine wp_of (f_L_law_3632.eq_1 ..) ?_
                            refine wp_lt qf_21 ?_
                            exact hrc _
                          · skip
                            refine wp_if (fun c14 => ?_) (fun c14 => ?_)
                            · skip
                              refine wp_of (f_X10_isIn_14.eq_1 ..) ?_
                              refine wp_of (f_X10_isIn_15.eq_1 ..) ?_
                              refine wp_gd qf_14 ?_
                              refine wp_ret_bd ?_
                              refine wp_ifp qf_15 ?_
                              refine wp_of (f_X10_addRecord_103.eq_1 ..) ?_
                              refine wp_of (f_X10_addRecord_104.eq_1 ..) ?_
                              refine wp_bd ?_
                              refine wp_of (f_X10_demand.eq_1 ..) ?_
                              refine wp_ifp qf_15 ?_
                              refine wp_rs_bd ?_
                              refine wp_rs_bdc ?_
                              refine wp_ifp qf_16 ?_
                              refine wp_ret_bd ?_
                              refine wp_gd qf_0 ?_
                              refine wp_lt (xsk qf_1 hy1) ?_
                              refine wp_gd qf_2 ?_
                              refine wp_lt (xsk qf_3 hy2) ?_
                              refine wp_gd qf_4 ?_
                              refine wp_lt (xsk qf_5 hy3) ?_
                              refine wp_gd qf_6 ?_
                              refine wp_lt (xsk qf_7 hy4) ?_
                              refine wp_gd qf_8 ?_
                              refine wp_lt (xsk qf_9 hy5) ?_
                              refine wp_gd qf_10 ?_
                              refine wp_lt (xsk qf_11 hy6) ?_
                              refine wp_gd qf_12 ?_
                              refine wp_lt (xsk qf_13 hy7) ?_
                              refine wp_gd ql_K_149 ?_
                              refine wp_bd ?_
                              refine wp_of (f2_X13_addRecord.eq_1 ..) ?_
                              refine wp_bd ?_
                              refine wp_of (f_X13_isBetween.eq_1 ..) ?_
                              refine wp_ifn c1 ?_
                              refine wp_ifn c2 ?_
                              refine wp_of (f_X13_isBetween_15.eq_1 ..) ?_
                              refine wp_gd qf_18 ?_
                              refine wp_ret_bd ?_
                              refine wp_ifn qf_19 ?_
                              refine wp_bd ?_
                              refine wp_of (f_X13_isBetween.eq_1 ..) ?_
                              refine wp_ifn c3 ?_
                              refine wp_ifn c4 ?_
                              refine wp_of (f_X13_isBetween_15.eq_1 ..) ?_
                              refine wp_gd qf_18 ?_
                              refine wp_ret_bd ?_
                              refine wp_ifn qf_19 ?_
                              refine wp_bd ?_
                              refine wp_of (f_X13_isBetween.eq_1 ..) ?_
                              refine wp_ifn c5 ?_
                              refine wp_ifn c6 ?_
                              refine wp_of (f_X13_isBetween_15.eq_1 ..) ?_
                              refine wp_gd qf_18 ?_
                              refine wp_ret_bd ?_
                              refine wp_ifn qf_19 ?_
                              refine wp_bd ?_
                              refine wp_of (f_X13_isBetween.eq_1 ..) ?_
                              refine wp_ifn c7 ?_
                              refine wp_ifn c8 ?_
                              refine wp_of (f_X13_isBetween_15.eq_1 ..) ?_
                              refine wp_gd qf_18 ?_
                              refine wp_ret_bd ?_
                              refine wp_ifn qf_19 ?_
                              refine wp_ifn qf_82 ?_
                              refine wp_ifp qf_83 ?_
                              refine wp_of (f2_X13_addRecord_67.eq_1 ..) ?_
                              refine wp_bd ?_
                              refine wp_of (f_X13_isBetween.eq_1 ..) ?_
                              refine wp_ifn c11 ?_
                              refine wp_ifn c12 ?_
                              refine wp_of (f_X13_isBetween_15.eq_1 ..) ?_
                              refine wp_gd qf_18 ?_
                              refine wp_ret_bd ?_
                              refine wp_ifn qf_19 ?_
                              refine wp_bd ?_
                              refine wp_of (f_X13_isBetween.eq_1 ..) ?_
                              refine wp_ifn c13 ?_
                              refine wp_ifp c14 ?_
                              refine wp_of (f_X13_isBetween_14.eq_1 ..) ?_
                              refine wp_of (f_X13_isBetween_15.eq_1 ..) ?_
                              refine wp_gd qf_14 ?_
                              refine wp_ret_bd ?_
                              refine wp_ifp qf_15 ?_
                              refine wp_of (f2_X13_addRecord_93.eq_1 ..) ?_
                              refine wp_of (f2_X13_addRecord_94.eq_1 ..) ?_
                              refine wp_ifp qf_15 ?_
                              refine wp_of (f2_X13_addRecord_125.eq_1 ..) ?_
                              refine wp_gd ql_K_149 ?_
                              refine wp_bd ?_
                              refine wp_of (f_X13_isWrong.eq_1 ..) ?_
                              refine wp_gd ql_K_149 ?_
                              refine wp_zI ?_
                              refine wp_ifn qf_17 ?_
                              refine wp_of (f_X13_isWrong_14.eq_1 ..) ?_
                              refine wp_gd qf_18 ?_
                              refine wp_ret_bd ?_
                              refine wp_ifn qf_19 ?_
                              refine wp_ret_bd ?_
                              refine wp_gd ql_K_149 ?_
                              refine wp_bd ?_
                              refine wp_of (f_X13_thrown.eq_1 ..) ?_
                              refine wp_gd ql_K_149 ?_
                              refine wp_lt gI_s ?_
                              refine wp_ret_bd ?_
                              refine wp_ifp qf_20 ?_
                              refine wp_ifn qf_19 ?_
                              refine wp_of (f_L_law_421.eq_1 ..) ?_
                              refine wp_of (f_L_law_3632.eq_1 ..) ?_
                              refine wp_lt qf_21 ?_
                              exact hrc _
                            · skip
                              refine wp_of (f_X10_isIn_15.eq_1 ..) ?_
                              refine wp_gd qf_18 ?_
                              refine wp_ret_bd ?_
                              refine wp_ifn qf_19 ?_
                              refine wp_of (f_X10_addRecord_104.eq_1 ..) ?_
                              refine wp_bd ?_
                              refine wp_of (f_X10_demand.eq_1 ..) ?_
                              refine wp_ifn qf_19 ?_
                              refine wp_ret_bd ?_
                              refine wp_gd ql_K_1 ?_
                              refine wp_lt ql_R_1_0 ?_
                              refine wp_gd ql_K_2 ?_
                              refine wp_lt ql_I_2_4 ?_
                              refine wp_lt ql_R_1_0 ?_
                              refine wp_gd ql_K_2 ?_
                              refine wp_lt ql_R_2_0 ?_
                              refine wp_gd ql_K_3 ?_
                              refine wp_lt (gZo ql_Z_3 qf_23) ?_
                              refine wp_ifp qf_24 ?_
                              refine wp_lt ql_R_1_2 ?_
                              refine wp_gd ql_K_106 ?_
                              refine wp_bd ?_
                              refine wp_of (f_X6_open.eq_1 ..) ?_
                              refine wp_gd ql_K_106 ?_
                              refine wp_lt ql_I_106_2 ?_
                              refine wp_lt qf_25 ?_
                              refine wp_zI ?_
                              refine wp_lt (Eq.trans (gI_b rfl) ql_I_106_2) ?_
                              refine wp_ifn qf_26 ?_
                              refine wp_lt (Eq.trans (gI_b rfl) ql_I_106_2) ?_
                              refine wp_lt qf_27 ?_
                              refine wp_zI ?_
                              refine wp_of (f_X6_open_31.eq_1 ..) ?_
                              refine wp_gd ql_K_106 ?_
                              refine wp_bd ?_
                              refine wp_of (f_X6_put.eq_1 ..) ?_
                              refine wp_gd ql_K_106 ?_
                              refine wp_lt (Eq.trans (gI_b rfl) gI_s) ?_
                              refine wp_ifn qf_28 ?_
                              refine wp_lt (Eq.trans (gI_b rfl) gI_s) ?_
                              refine wp_lt ql_R_106_0 ?_
                              refine wp_gd ql_K_107 ?_
                              refine wp_lt (gZo ql_Z_107 qf_29) ?_
                              refine wp_ifn qf_30 ?_
                              refine wp_lt ql_R_106_0 ?_
                              refine wp_lt (Eq.trans (gI_b rfl) gI_s) ?_
                              refine wp_gd ql_K_107 ?_
                              refine wp_gd (gZi ql_Z_107 qf_31) ?_
                              refine wp_zIk qf_32 ?_
                              refine wp_lt (Eq.trans (gI_a rfl) (Eq.trans (gI_b rfl) gI_s)) ?_
                              refine wp_lt qf_27 ?_
                              refine wp_zI ?_
                              refine wp_of (f_X6_put_39.eq_1 ..) ?_
                              refine wp_ret_bd ?_
                              refine wp_ret_bd ?_
                              refine wp_gd ql_K_1 ?_
                              refine wp_lt ql_R_1_2 ?_
                              refine wp_gd ql_K_106 ?_
                              refine wp_bd ?_
                              refine wp_of (f_X6_put.eq_1 ..) ?_
                              refine wp_gd ql_K_106 ?_
                              refine wp_lt gI_s ?_
                              refine wp_ifn qf_33 ?_
                              refine wp_lt gI_s ?_
                              refine wp_lt ql_R_106_0 ?_
                              refine wp_gd ql_K_107 ?_
                              refine wp_lt (gZo ql_Z_107 qf_29) ?_
                              refine wp_ifn qf_34 ?_
                              refine wp_lt ql_R_106_0 ?_
                              refine wp_lt gI_s ?_
                              refine wp_gd ql_K_107 ?_
                              refine wp_gd (gZi ql_Z_107 qf_35) ?_
                              refine wp_zIk qf_36 ?_
                              refine wp_lt (Eq.trans (gI_a rfl) gI_s) ?_
                              refine wp_lt qf_37 ?_
                              refine wp_zI ?_
                              refine wp_of (f_X6_put_39.eq_1 ..) ?_
                              refine wp_ret_bd ?_
                              refine wp_gd ql_K_1 ?_
                              refine wp_lt ql_R_1_2 ?_
                              refine wp_gd ql_K_106 ?_
                              refine wp_bd ?_
                              refine wp_of (f_X6_put.eq_1 ..) ?_
                              refine wp_gd ql_K_106 ?_
                              refine wp_lt gI_s ?_
                              refine wp_ifn qf_38 ?_
                              refine wp_lt gI_s ?_
                              refine wp_lt ql_R_106_0 ?_
                              refine wp_gd ql_K_107 ?_
                              refine wp_lt (gZo ql_Z_107 qf_29) ?_
                              refine wp_ifn qf_39 ?_
                              refine wp_lt ql_R_106_0 ?_
                              refine wp_lt gI_s ?_
                              refine wp_gd ql_K_107 ?_
                              refine wp_gd (gZi ql_Z_107 qf_40) ?_
                              refine wp_zIk qf_41 ?_
                              refine wp_lt (Eq.trans (gI_a rfl) gI_s) ?_
                              refine wp_lt qf_42 ?_
                              refine wp_zI ?_
                              refine wp_of (f_X6_put_39.eq_1 ..) ?_
                              refine wp_ret_bd ?_
                              refine wp_gd ql_K_1 ?_
                              refine wp_lt ql_R_1_2 ?_
                              refine wp_gd ql_K_106 ?_
                              refine wp_bd ?_
                              refine wp_of (f_X6_put.eq_1 ..) ?_
                              refine wp_gd ql_K_106 ?_
                              refine wp_lt gI_s ?_
                              refine wp_ifn qf_43 ?_
                              refine wp_lt gI_s ?_
                              refine wp_lt ql_R_106_0 ?_
                              refine wp_gd ql_K_107 ?_
                              refine wp_lt (gZo ql_Z_107 qf_29) ?_
                              refine wp_ifn qf_44 ?_
                              refine wp_lt ql_R_106_0 ?_
                              refine wp_lt gI_s ?_
                              refine wp_gd ql_K_107 ?_
                              refine wp_gd (gZi ql_Z_107 qf_45) ?_
                              refine wp_zIk qf_46 ?_
                              refine wp_lt (Eq.trans (gI_a rfl) gI_s) ?_
                              refine wp_lt qf_47 ?_
                              refine wp_zI ?_
                              refine wp_of (f_X6_put_39.eq_1 ..) ?_
                              refine wp_ret_bd ?_
                              refine wp_gd ql_K_1 ?_
                              refine wp_lt ql_R_1_2 ?_
                              refine wp_gd ql_K_106 ?_
                              refine wp_bd ?_
                              refine wp_of (f_X6_put.eq_1 ..) ?_
                              refine wp_gd ql_K_106 ?_
                              refine wp_lt gI_s ?_
                              refine wp_ifn qf_48 ?_
                              refine wp_lt gI_s ?_
                              refine wp_lt ql_R_106_0 ?_
                              refine wp_gd ql_K_107 ?_
                              refine wp_lt (gZo ql_Z_107 qf_29) ?_
                              refine wp_ifn qf_49 ?_
                              refine wp_lt ql_R_106_0 ?_
                              refine wp_lt gI_s ?_
                              refine wp_gd ql_K_107 ?_
                              refine wp_gd (gZi ql_Z_107 qf_50) ?_
                              refine wp_zIk qf_51 ?_
                              refine wp_lt (Eq.trans (gI_a rfl) gI_s) ?_
                              refine wp_lt qf_52 ?_
                              refine wp_zI ?_
                              refine wp_of (f_X6_put_39.eq_1 ..) ?_
                              refine wp_ret_bd ?_
                              refine wp_gd ql_K_1 ?_
                              refine wp_lt ql_R_1_2 ?_
                              refine wp_gd ql_K_106 ?_
                              refine wp_bd ?_
                              refine wp_of (f_X6_put.eq_1 ..) ?_
                              refine wp_gd ql_K_106 ?_
                              refine wp_lt gI_s ?_
                              refine wp_ifn qf_53 ?_
                              refine wp_lt gI_s ?_
                              refine wp_lt ql_R_106_0 ?_
                              refine wp_gd ql_K_107 ?_
                              refine wp_lt (gZo ql_Z_107 qf_29) ?_
                              refine wp_ifn qf_54 ?_
                              refine wp_lt ql_R_106_0 ?_
                              refine wp_lt gI_s ?_
                              refine wp_gd ql_K_107 ?_
                              refine wp_gd (gZi ql_Z_107 qf_55) ?_
                              refine wp_zIk qf_56 ?_
                              refine wp_lt (Eq.trans (gI_a rfl) gI_s) ?_
                              refine wp_lt qf_57 ?_
                              refine wp_zI ?_
                              refine wp_of (f_X6_put_39.eq_1 ..) ?_
                              refine wp_ret_bd ?_
                              refine wp_gd ql_K_1 ?_
                              refine wp_lt ql_R_1_2 ?_
                              refine wp_gd ql_K_106 ?_
                              refine wp_bd ?_
                              refine wp_of (f_X6_put.eq_1 ..) ?_
                              refine wp_gd ql_K_106 ?_
                              refine wp_lt gI_s ?_
                              refine wp_ifn qf_58 ?_
                              refine wp_lt gI_s ?_
                              refine wp_lt ql_R_106_0 ?_
                              refine wp_gd ql_K_107 ?_
                              refine wp_lt (gZo ql_Z_107 qf_29) ?_
                              refine wp_ifn qf_59 ?_
                              refine wp_lt ql_R_106_0 ?_
                              refine wp_lt gI_s ?_
                              refine wp_gd ql_K_107 ?_
                              refine wp_gd (gZi ql_Z_107 qf_60) ?_
                              refine wp_zIk qf_61 ?_
                              refine wp_lt (Eq.trans (gI_a rfl) gI_s) ?_
                              refine wp_lt qf_62 ?_
                              refine wp_zI ?_
                              refine wp_of (f_X6_put_39.eq_1 ..) ?_
                              refine wp_ret_bd ?_
                              refine wp_gd ql_K_1 ?_
                              refine wp_lt ql_R_1_2 ?_
                              refine wp_gd ql_K_106 ?_
                              refine wp_bd ?_
                              refine wp_of (f_X6_put.eq_1 ..) ?_
                              refine wp_gd ql_K_106 ?_
                              refine wp_lt gI_s ?_
                              refine wp_ifn qf_63 ?_
                              refine wp_lt gI_s ?_
                              refine wp_lt ql_R_106_0 ?_
                              refine wp_gd ql_K_107 ?_
                              refine wp_lt (gZo ql_Z_107 qf_29) ?_
                              refine wp_ifn qf_64 ?_
                              refine wp_lt ql_R_106_0 ?_
                              refine wp_lt gI_s ?_
                              refine wp_gd ql_K_107 ?_
                              refine wp_gd (gZi ql_Z_107 qf_65) ?_
                              refine wp_zIk qf_66 ?_
                              refine wp_lt (Eq.trans (gI_a rfl) gI_s) ?_
                              refine wp_lt qf_67 ?_
                              refine wp_zI ?_
                              refine wp_of (f_X6_put_39.eq_1 ..) ?_
                              refine wp_ret_bd ?_
                              refine wp_gd ql_K_1 ?_
                              refine wp_lt ql_R_1_0 ?_
                              refine wp_gd ql_K_2 ?_
                              refine wp_bd ?_
                              refine wp_of (f_X8_addDisc.eq_1 ..) ?_
                              refine wp_gd ql_K_2 ?_
                              refine wp_lt (Eq.trans (gI_a rfl) (Eq.trans (gI_a rfl) (Eq.trans (gI_a rfl) (Eq.trans (gI_a rfl) (Eq.trans (gI_a rfl) (Eq.trans (gI_a rfl) (Eq.trans (gI_a rfl) (Eq.trans (gI_a rfl) (Eq.trans (gI_a rfl) (Eq.trans (gI_a rfl) (Eq.trans (gI_a rfl) (Eq.trans (gI_a rfl) (Eq.trans (gI_a rfl) (Eq.trans (gI_a rfl) (Eq.trans (gI_a rfl) (Eq.trans (gI_a rfl) (Eq.trans (gI_a rfl) (Eq.trans (gI_a rfl) ql_I_2_4)))))))))))))))))) ?_
                              refine wp_ifn qf_28 ?_
                              refine wp_lt (Eq.trans (gI_a rfl) (Eq.trans (gI_a rfl) (Eq.trans (gI_a rfl) (Eq.trans (gI_a rfl) (Eq.trans (gI_a rfl) (Eq.trans (gI_a rfl) (Eq.trans (gI_a rfl) (Eq.trans (gI_a rfl) (Eq.trans (gI_a rfl) (Eq.trans (gI_a rfl) (Eq.trans (gI_a rfl) (Eq.trans (gI_a rfl) (Eq.trans (gI_a rfl) (Eq.trans (gI_a rfl) (Eq.trans (gI_a rfl) (Eq.trans (gI_a rfl) (Eq.trans (gI_a rfl) (Eq.trans (gI_a rfl) ql_I_2_4)))))))))))))))))) ?_
                              refine wp_lt ql_R_2_0 ?_
                              refine wp_gd ql_K_3 ?_
                              refine wp_lt (gZo ql_Z_3 qf_23) ?_
                              refine wp_ifp qf_24 ?_
                              refine wp_lt ql_R_2_0 ?_
                              refine wp_lt (Eq.trans (gI_a rfl) (Eq.trans (gI_a rfl) (Eq.trans (gI_a rfl) (Eq.trans (gI_a rfl) (Eq.trans (gI_a rfl) (Eq.trans (gI_a rfl) (Eq.trans (gI_a rfl) (Eq.trans (gI_a rfl) (Eq.trans (gI_a rfl) (Eq.trans (gI_a rfl) (Eq.trans (gI_a rfl) (Eq.trans (gI_a rfl) (Eq.trans (gI_a rfl) (Eq.trans (gI_a rfl) (Eq.trans (gI_a rfl) (Eq.trans (gI_a rfl) (Eq.trans (gI_a rfl) (Eq.trans (gI_a rfl) ql_I_2_4)))))))))))))))))) ?_
                              refine wp_gd ql_K_3 ?_
                              refine wp_gd (gZi ql_Z_3 qf_68) ?_
                              refine wp_lt (gRk qf_32 ql_R_3_0) ?_
                              refine wp_gd ql_K_4 ?_
                              refine wp_bd ?_
                              refine wp_of (f_X2_fill.eq_1 ..) ?_
                              refine wp_gd ql_K_4 ?_
                              refine wp_zI ?_
                              refine wp_zI ?_
                              refine wp_zI ?_
                              refine wp_zI ?_
                              refine wp_zI ?_
                              refine wp_zI ?_
                              refine wp_zI ?_
                              refine wp_ret_bd ?_
                              refine wp_gd ql_K_2 ?_
                              refine wp_lt (Eq.trans (gI_a rfl) (Eq.trans (gI_a rfl) (Eq.trans (gI_a rfl) (Eq.trans (gI_a rfl) (Eq.trans (gI_a rfl) (Eq.trans (gI_a rfl) (Eq.trans (gI_a rfl) (Eq.trans (gI_a rfl) (Eq.trans (gI_a rfl) (Eq.trans (gI_a rfl) (Eq.trans (gI_a rfl) (Eq.trans (gI_a rfl) (Eq.trans (gI_a rfl) (Eq.trans (gI_a rfl) (Eq.trans (gI_a rfl) (Eq.trans (gI_a rfl) (Eq.trans (gI_a rfl) (Eq.trans (gI_a rfl) (Eq.trans (gI_a rfl) (Eq.trans (gI_a rfl) (Eq.trans (gI_a rfl) (Eq.trans (gI_a rfl) (Eq.trans (gI_a rfl) (Eq.trans (gI_a rfl) (Eq.trans (gI_a rfl) ql_I_2_4))))))))))))))))))))))))) ?_
                              refine wp_lt qf_27 ?_
                              refine wp_zI ?_
                              refine wp_lt gI_s ?_
                              refine wp_lt qf_69 ?_
                              refine wp_ret_bd ?_
                              refine wp_ret_bdc ?_
                              refine wp_lt qf_70 ?_
                              refine wp_gd ql_K_173 ?_
                              refine wp_gd (gZi ql_Z_173 qf_71) ?_
                              refine wp_zLk qf_32 ?_
                              refine wp_ret_bd ?_
                              refine wp_gd qf_0 ?_
                              refine wp_lt (xsk qf_1 hy1) ?_
                              refine wp_gd qf_2 ?_
                              refine wp_lt (xsk qf_3 hy2) ?_
                              refine wp_gd qf_4 ?_
                              refine wp_lt (xsk qf_5 hy3) ?_
                              refine wp_gd qf_6 ?_
                              refine wp_lt (xsk qf_7 hy4) ?_
                              refine wp_gd qf_8 ?_
                              refine wp_lt (xsk qf_9 hy5) ?_
                              refine wp_gd qf_10 ?_
                              refine wp_lt (xsk qf_11 hy6) ?_
                              refine wp_gd qf_12 ?_
                              refine wp_lt (xsk qf_13 hy7) ?_
                              refine wp_gd ql_K_149 ?_
                              refine wp_bd ?_
                              refine wp_of (f2_X13_addRecord.eq_1 ..) ?_
                              refine wp_bd ?_
                              refine wp_of (f_X13_isBetween.eq_1 ..) ?_
                              refine wp_ifn c1 ?_
                              refine wp_ifn c2 ?_
                              refine wp_of (f_X13_isBetween_15.eq_1 ..) ?_
                              refine wp_gd qf_18 ?_
                              refine wp_ret_bd ?_
                              refine wp_ifn qf_19 ?_
                              refine wp_bd ?_
                              refine wp_of (f_X13_isBetween.eq_1 ..) ?_
                              refine wp_ifn c3 ?_
                              refine wp_ifn c4 ?_
                              refine wp_of (f_X13_isBetween_15.eq_1 ..) ?_
                              refine wp_gd qf_18 ?_
                              refine wp_ret_bd ?_
                              refine wp_ifn qf_19 ?_
                              refine wp_bd ?_
                              refine wp_of (f_X13_isBetween.eq_1 ..) ?_
                              refine wp_ifn c5 ?_
                              refine wp_ifn c6 ?_
                              refine wp_of (f_X13_isBetween_15.eq_1 ..) ?_
                              refine wp_gd qf_18 ?_
                              refine wp_ret_bd ?_
                              refine wp_ifn qf_19 ?_
                              refine wp_bd ?_
                              refine wp_of (f_X13_isBetween.eq_1 ..) ?_
                              refine wp_ifn c7 ?_
                              refine wp_ifn c8 ?_
                              refine wp_of (f_X13_isBetween_15.eq_1 ..) ?_
                              refine wp_gd qf_18 ?_
                              refine wp_ret_bd ?_
                              refine wp_ifn qf_19 ?_
                              refine wp_ifn qf_82 ?_
                              refine wp_ifp qf_83 ?_
                              refine wp_of (f2_X13_addRecord_67.eq_1 ..) ?_
                              refine wp_bd ?_
                              refine wp_of (f_X13_isBetween.eq_1 ..) ?_
                              refine wp_ifn c11 ?_
                              refine wp_ifn c12 ?_
                              refine wp_of (f_X13_isBetween_15.eq_1 ..) ?_
                              refine wp_gd qf_18 ?_
                              refine wp_ret_bd ?_
                              refine wp_ifn qf_19 ?_
                              refine wp_bd ?_
                              refine wp_of (f_X13_isBetween.eq_1 ..) ?_
                              refine wp_ifn c13 ?_
                              refine wp_ifn c14 ?_
                              refine wp_of (f_X13_isBetween_15.eq_1 ..) ?_
                              refine wp_gd qf_18 ?_
                              refine wp_ret_bd ?_
                              refine wp_ifn qf_19 ?_
                              refine wp_of (f2_X13_addRecord_94.eq_1 ..) ?_
                              refine wp_ifn qf_19 ?_
                              refine wp_gd ql_K_149 ?_
                              refine wp_lt ql_R_149_1 ?_
                              refine wp_gd ql_K_150 ?_
                              refine wp_bd ?_
                              refine wp_of (f_Jx4a65c_size_8abf5.eq_1 ..) ?_
                              refine wp_gd ql_K_150 ?_
                              refine wp_lt (Eq.trans (gI_a rfl) (Eq.trans (gI_a rfl) (Eq.trans (gI_a rfl) (Eq.trans (gI_a rfl) (Eq.trans (gI_a rfl) (Eq.trans (gI_a rfl) (Eq.trans (gI_a rfl) (Eq.trans (gI_a rfl) (Eq.trans (gI_a rfl) (Eq.trans (gI_a rfl) (Eq.trans (gI_a rfl) (Eq.trans (gI_a rfl) (Eq.trans (gI_a rfl) (Eq.trans (gI_a rfl) (Eq.trans (gI_a rfl) (Eq.trans (gI_a rfl) (Eq.trans (gI_a rfl) (Eq.trans (gI_a rfl) (Eq.trans (gI_a rfl) (Eq.trans (gI_a rfl) (Eq.trans (gI_a rfl) (Eq.trans (gI_a rfl) (Eq.trans (gI_a rfl) (Eq.trans (gI_a rfl) (Eq.trans (gI_a rfl) (Eq.trans (gI_a rfl) ql_I_150_2)))))))))))))))))))))))))) ?_
                              refine wp_ret_bd ?_
                              refine wp_ifn qf_72 ?_
                              refine wp_of (f2_X13_addRecord_125.eq_1 ..) ?_
                              refine wp_gd ql_K_149 ?_
                              refine wp_bd ?_
                              refine wp_of (f_X13_isWrong.eq_1 ..) ?_
                              refine wp_gd ql_K_149 ?_
                              refine wp_zI ?_
                              refine wp_ifp qf_73 ?_
                              refine wp_of (f_X13_isWrong_14.eq_1 ..) ?_
                              refine wp_gd qf_14 ?_
                              refine wp_ret_bd ?_
                              refine wp_ifp qf_15 ?_
                              refine wp_gd ql_K_149 ?_
                              refine wp_lt ql_R_149_1 ?_
                              refine wp_gd (gNk (n := 174) qf_74) ?_
                              refine wp_zW (m := 175) rfl ?_
                              refine wp_lt (show _ = 175 from rfl) ?_
                              refine wp_bd ?_
                              refine wp_of (f_X12_init.eq_1 ..) ?_
                              refine wp_gd gK_n ?_
                              refine wp_zI ?_
                              refine wp_zI ?_
                              refine wp_zI ?_
                              refine wp_zI ?_
                              refine wp_zI ?_
                              refine wp_zI ?_
                              refine wp_zI ?_
                              refine wp_ret_bd ?_
                              refine wp_gd (Eq.trans (gK_w rfl) ql_K_150) ?_
                              refine wp_bd ?_
                              refine wp_of (f2_Jx4a65c_add_9ea2d.eq_1 ..) ?_
                              refine wp_gd (Eq.trans (gK_w rfl) ql_K_150) ?_
                              refine wp_lt (Eq.trans (gI_a rfl) (Eq.trans (gI_a rfl) (Eq.trans (gI_a rfl) (Eq.trans (gI_a rfl) (Eq.trans (gI_a rfl) (Eq.trans (gI_a rfl) (Eq.trans (gI_a rfl) (Eq.trans (gI_w rfl) (Eq.trans (gI_a rfl) (Eq.trans (gI_a rfl) (Eq.trans (gI_a rfl) (Eq.trans (gI_a rfl) (Eq.trans (gI_a rfl) (Eq.trans (gI_a rfl) (Eq.trans (gI_a rfl) (Eq.trans (gI_a rfl) (Eq.trans (gI_a rfl) (Eq.trans (gI_a rfl) (Eq.trans (gI_a rfl) (Eq.trans (gI_a rfl) (Eq.trans (gI_a rfl) (Eq.trans (gI_a rfl) (Eq.trans (gI_a rfl) (Eq.trans (gI_a rfl) (Eq.trans (gI_a rfl) (Eq.trans (gI_a rfl) (Eq.trans (gI_a rfl) (Eq.trans (gI_a rfl) (Eq.trans (gI_a rfl) (Eq.trans (gI_a rfl) (Eq.trans (gI_a rfl) (Eq.trans (gI_a rfl) (Eq.trans (gI_a rfl) (Eq.trans (gI_a rfl) (Eq.trans (gI_a rfl) ql_I_150_0))))))))))))))))))))))))))))))))))) ?_
                              refine wp_lt qf_27 ?_
                              refine wp_zI ?_
                              refine wp_lt (Eq.trans (gR_w rfl) ql_R_150_1) ?_
                              refine wp_lt (Eq.trans (gI_b rfl) (Eq.trans (gI_a rfl) (Eq.trans (gI_a rfl) (Eq.trans (gI_a rfl) (Eq.trans (gI_a rfl) (Eq.trans (gI_a rfl) (Eq.trans (gI_a rfl) (Eq.trans (gI_a rfl) (Eq.trans (gI_w rfl) (Eq.trans (gI_a rfl) (Eq.trans (gI_a rfl) (Eq.trans (gI_a rfl) (Eq.trans (gI_a rfl) (Eq.trans (gI_a rfl) (Eq.trans (gI_a rfl) (Eq.trans (gI_a rfl) (Eq.trans (gI_a rfl) (Eq.trans (gI_a rfl) (Eq.trans (gI_a rfl) (Eq.trans (gI_a rfl) (Eq.trans (gI_a rfl) (Eq.trans (gI_a rfl) (Eq.trans (gI_a rfl) (Eq.trans (gI_a rfl) (Eq.trans (gI_a rfl) (Eq.trans (gI_a rfl) (Eq.trans (gI_a rfl) (Eq.trans (gI_a rfl) (Eq.trans (gI_a rfl) (Eq.trans (gI_a rfl) (Eq.trans (gI_a rfl) (Eq.trans (gI_a rfl) (Eq.trans (gI_a rfl) (Eq.trans (gI_a rfl) (Eq.trans (gI_a rfl) (Eq.trans (gI_a rfl) ql_I_150_2)))))))))))))))))))))))))))))))))))) ?_
                              refine wp_bd ?_
                              refine wp_of (f2_Jx4a65c_add_72be8.eq_1 ..) ?_
                              refine wp_ifp qf_75 ?_
                              refine wp_ifp qf_15 ?_
                              refine wp_gd (Eq.trans (gK_w rfl) ql_K_150) ?_
                              refine wp_bd ?_
                              refine wp_of (f2_Jx4a65c_grow_d5877.eq_1 ..) ?_
                              refine wp_gd (Eq.trans (gK_w rfl) ql_K_150) ?_
                              refine wp_lt (Eq.trans (gI_b rfl) (Eq.trans (gI_a rfl) (Eq.trans (gI_a rfl) (Eq.trans (gI_a rfl) (Eq.trans (gI_a rfl) (Eq.trans (gI_a rfl) (Eq.trans (gI_a rfl) (Eq.trans (gI_a rfl) (Eq.trans (gI_w rfl) (Eq.trans (gI_a rfl) (Eq.trans (gI_a rfl) (Eq.trans (gI_a rfl) (Eq.trans (gI_a rfl) (Eq.trans (gI_a rfl) (Eq.trans (gI_a rfl) (Eq.trans (gI_a rfl) (Eq.trans (gI_a rfl) (Eq.trans (gI_a rfl) (Eq.trans (gI_a rfl) (Eq.trans (gI_a rfl) (Eq.trans (gI_a rfl) (Eq.trans (gI_a rfl) (Eq.trans (gI_a rfl) (Eq.trans (gI_a rfl) (Eq.trans (gI_a rfl) (Eq.trans (gI_a rfl) (Eq.trans (gI_a rfl) (Eq.trans (gI_a rfl) (Eq.trans (gI_a rfl) (Eq.trans (gI_a rfl) (Eq.trans (gI_a rfl) (Eq.trans (gI_a rfl) (Eq.trans (gI_a rfl) (Eq.trans (gI_a rfl) (Eq.trans (gI_a rfl) (Eq.trans (gI_a rfl) ql_I_150_2)))))))))))))))))))))))))))))))))))) ?_
                              refine wp_lt qf_27 ?_
                              refine wp_bd ?_
                              refine wp_of (f2_Jx4a65c_grow_92f84.eq_1 ..) ?_
                              refine wp_gd (Eq.trans (gK_w rfl) ql_K_150) ?_
                              refine wp_lt (Eq.trans (gR_w rfl) ql_R_150_1) ?_
                              refine wp_ifp qf_75 ?_
                              refine wp_ifn qf_28 ?_
                              refine wp_lt (Eq.trans (gR_w rfl) ql_R_150_1) ?_
                              refine wp_gd qf_76 ?_
                              refine wp_ifp qf_75 ?_
                              refine wp_lt qf_77 ?_
                              refine wp_ifp qf_78 ?_
                              refine wp_gd (gNk (n := 175) qf_79) ?_
                              refine wp_zW (m := 176) rfl ?_
                              refine wp_lt (show _ = 176 from rfl) ?_
                              refine wp_gd (Eq.trans (gK_w rfl) (Eq.trans (gK_w rfl) ql_K_150)) ?_
                              refine wp_zR ?_
                              refine wp_ret_bd ?_
                              refine wp_ret_bd ?_
                              refine wp_of (f2_Jx4a65c_add_72be8_11.eq_1 ..) ?_
                              refine wp_gd gK_n ?_
                              refine wp_gd (gZi gZ_n qf_80) ?_
                              refine wp_ifp (Eq.trans (gK_w rfl) gK_n) ?_
                              refine wp_zRk qf_32 ?_
                              refine wp_lt qf_27 ?_
                              refine wp_gd (Eq.trans (gK_w rfl) (Eq.trans (gK_w rfl) ql_K_150)) ?_
                              refine wp_zI ?_
                              refine wp_ret_bd ?_
                              refine wp_ret_bd ?_
                              refine wp_gd (Eq.trans (gK_w rfl) (Eq.trans (gK_w rfl) ql_K_149)) ?_
                              refine wp_bd ?_
                              refine wp_of (f_X13_logs.eq_1 ..) ?_
                              refine wp_gd (Eq.trans (gK_w rfl) (Eq.trans (gK_w rfl) ql_K_149)) ?_
                              refine wp_lt (Eq.trans (gI_a rfl) (Eq.trans (gI_w rfl) (Eq.trans (gI_a rfl) (Eq.trans (gI_a rfl) (Eq.trans (gI_a rfl) (Eq.trans (gI_a rfl) (Eq.trans (gI_a rfl) (Eq.trans (gI_a rfl) (Eq.trans (gI_a rfl) (Eq.trans (gI_a rfl) (Eq.trans (gI_w rfl) (Eq.trans (gI_b rfl) (Eq.trans (gI_a rfl) (Eq.trans (gI_a rfl) (Eq.trans (gI_a rfl) (Eq.trans (gI_a rfl) (Eq.trans (gI_a rfl) (Eq.trans (gI_a rfl) (Eq.trans (gI_a rfl) (Eq.trans (gI_a rfl) (Eq.trans (gI_a rfl) (Eq.trans (gI_a rfl) (Eq.trans (gI_a rfl) (Eq.trans (gI_a rfl) (Eq.trans (gI_a rfl) (Eq.trans (gI_a rfl) (Eq.trans (gI_a rfl) (Eq.trans (gI_a rfl) (Eq.trans (gI_a rfl) (Eq.trans (gI_a rfl) (Eq.trans (gI_a rfl) (Eq.trans (gI_a rfl) (Eq.trans (gI_a rfl) (Eq.trans (gI_a rfl) (Eq.trans (gI_a rfl) (Eq.trans (gI_a rfl) (Eq.trans (gI_a rfl) (Eq.trans (gI_a rfl) ql_I_149_16)))))))))))))))))))))))))))))))))))))) ?_
                              refine wp_lt qf_27 ?_
                              refine wp_zI ?_
                              refine wp_ret_bd ?_
                              refine wp_gd (Eq.trans (gK_w rfl) (Eq.trans (gK_w rfl) ql_K_149)) ?_
                              refine wp_lt (Eq.trans (gR_a rfl) (Eq.trans (gR_a rfl) (Eq.trans (gR_w rfl) (Eq.trans (gR_w rfl) ql_R_149_1)))) ?_
                              refine wp_gd (Eq.trans (gK_w rfl) (Eq.trans (gK_w rfl) ql_K_150)) ?_
                              refine wp_bd ?_
                              refine wp_of (f_Jx4a65c_size_8abf5.eq_1 ..) ?_
                              refine wp_gd (Eq.trans (gK_w rfl) (Eq.trans (gK_w rfl) ql_K_150)) ?_
                              refine wp_lt (Eq.trans (gI_a rfl) gI_s) ?_
                              refine wp_ret_bd ?_
                              refine wp_lt qf_69 ?_
                              refine wp_ret_bd ?_
                              refine wp_gd (Eq.trans (gK_w rfl) (Eq.trans (gK_w rfl) ql_K_149)) ?_
                              refine wp_bd ?_
                              refine wp_of (f_X13_thrown.eq_1 ..) ?_
                              refine wp_gd (Eq.trans (gK_w rfl) (Eq.trans (gK_w rfl) ql_K_149)) ?_
                              refine wp_lt (Eq.trans (gI_b rfl) (Eq.trans (gI_a rfl) (Eq.trans (gI_w rfl) (Eq.trans (gI_a rfl) (Eq.trans (gI_a rfl) (Eq.trans (gI_a rfl) (Eq.trans (gI_a rfl) (Eq.trans (gI_a rfl) (Eq.trans (gI_a rfl) (Eq.trans (gI_a rfl) (Eq.trans (gI_a rfl) (Eq.trans (gI_w rfl) gI_s)))))))))))) ?_
                              refine wp_ret_bd ?_
                              refine wp_ifp qf_15 ?_
                              refine wp_ifp qf_15 ?_
                              refine wp_gd (Eq.trans (gK_w rfl) (Eq.trans (gK_w rfl) ql_K_173)) ?_
                              refine wp_gd (gZi (Eq.trans (gZ_w rfl) (Eq.trans (gZ_w rfl) ql_Z_173)) qf_71) ?_
                              refine wp_lt (gLk qf_32 (Eq.trans (gL_w rfl) (Eq.trans (gL_w rfl) gL_s))) ?_
                              refine wp_lt qf_70 ?_
                              refine wp_lt qf_81 ?_
                              refine wp_ifp qf_15 ?_
                              refine wp_of (f_L_law_421.eq_1 ..) ?_
                              refine wp_of (f_L_law_3632.eq_1 ..) ?_
                              refine wp_lt qf_21 ?_
                              exact hrc _
                    · skip
                      refine wp_if (fun c11 => ?_) (fun c11 => ?_)
                      · skip
                        subst c11
                        refine wp_of (f_X10_addRecord_69.eq_1 ..) ?_
                        refine wp_of (f_X10_addRecord_74.eq_1 ..) ?_
                        refine wp_bd ?_
                        refine wp_of (f_X10_demand.eq_1 ..) ?_
                        refine wp_ifn qf_19 ?_
                        refine wp_ret_bd ?_
                        refine wp_bd ?_
                        refine wp_of (f_X10_isIn.eq_1 ..) ?_
                        refine wp_if (fun c12 => ?_) (fun c12 => ?_)
                        · skip
                          refine wp_of (f_X10_isIn_14.eq_1 ..) ?_
                          refine wp_of (f_X10_isIn_15.eq_1 ..) ?_
                          refine wp_gd qf_14 ?_
                          refine wp_ret_bd ?_
                          refine wp_ifp qf_15 ?_
                          refine wp_of (f_X10_addRecord_103.eq_1 ..) ?_
                          refine wp_of (f_X10_addRecord_104.eq_1 ..) ?_
                          refine wp_bd ?_
                          refine wp_of (f_X10_demand.eq_1 ..) ?_
                          refine wp_ifp qf_15 ?_
                          refine wp_rs_bd ?_
                          refine wp_rs_bdc ?_
                          refine wp_ifp qf_16 ?_
                          refine wp_ret_bd ?_
                          refine wp_gd qf_0 ?_
                          refine wp_lt (xsk qf_1 hy1) ?_
                          refine wp_gd qf_2 ?_
                          refine wp_lt (xsk qf_3 hy2) ?_
                          refine wp_gd qf_4 ?_
                          refine wp_lt (xsk qf_5 hy3) ?_
                          refine wp_gd qf_6 ?_
                          refine wp_lt (xsk qf_7 hy4) ?_
                          refine wp_gd qf_8 ?_
                          refine wp_lt (xsk qf_9 hy5) ?_
                          refine wp_gd qf_10 ?_
                          refine wp_lt (xsk qf_11 hy6) ?_
                          refine wp_gd qf_12 ?_
                          refine wp_lt (xsk qf_13 hy7) ?_
                          refine wp_gd ql_K_149 ?_
                          refine wp_bd ?_
                          refine wp_of (f2_X13_addRecord.eq_1 ..) ?_
                          refine wp_bd ?_
                          refine wp_of (f_X13_isBetween.eq_1 ..) ?_
                          refine wp_ifn c1 ?_
                          refine wp_ifn c2 ?_
                          refine wp_of (f_X13_isBetween_15.eq_1 ..) ?_
                          refine wp_gd qf_18 ?_
                          refine wp_ret_bd ?_
                          refine wp_ifn qf_19 ?_
                          refine wp_bd ?_
                          refine wp_of (f_X13_isBetween.eq_1 ..) ?_
                          refine wp_ifn c3 ?_
                          refine wp_ifn c4 ?_
                          refine wp_of (f_X13_isBetween_15.eq_1 ..) ?_
                          refine wp_gd qf_18 ?_
                          refine wp_ret_bd ?_
                          refine wp_ifn qf_19 ?_
                          refine wp_bd ?_
                          refine wp_of (f_X13_isBetween.eq_1 ..) ?_
                          refine wp_ifn c5 ?_
                          refine wp_ifn c6 ?_
                          refine wp_of (f_X13_isBetween_15.eq_1 ..) ?_
                          refine wp_gd qf_18 ?_
                          refine wp_ret_bd ?_
                          refine wp_ifn qf_19 ?_
                          refine wp_bd ?_
                          refine wp_of (f_X13_isBetween.eq_1 ..) ?_
                          refine wp_ifn c7 ?_
                          refine wp_ifn c8 ?_
                          refine wp_of (f_X13_isBetween_15.eq_1 ..) ?_
                          refine wp_gd qf_18 ?_
                          refine wp_ret_bd ?_
                          refine wp_ifn qf_19 ?_
                          refine wp_ifn qf_84 ?_
                          refine wp_ifn qf_85 ?_
                          refine wp_ifp qf_86 ?_
                          refine wp_of (f2_X13_addRecord_67.eq_1 ..) ?_
                          refine wp_bd ?_
                          refine wp_of (f_X13_isBetween.eq_1 ..) ?_
                          refine wp_ifp c12 ?_
                          refine wp_of (f_X13_isBetween_14.eq_1 ..) ?_
                          refine wp_of (f_X13_isBetween_15.eq_1 ..) ?_
                          refine wp_gd qf_14 ?_
                          refine wp_ret_bd ?_
                          refine wp_ifp qf_15 ?_
                          refine wp_of (f2_X13_addRecord_93.eq_1 ..) ?_
                          refine wp_of (f2_X13_addRecord_94.eq_1 ..) ?_
                          refine wp_ifp qf_15 ?_
                          refine wp_of (f2_X13_addRecord_125.eq_1 ..) ?_
                          refine wp_gd ql_K_149 ?_
                          refine wp_bd ?_
                          refine wp_of (f_X13_isWrong.eq_1 ..) ?_
                          refine wp_gd ql_K_149 ?_
                          refine wp_zI ?_
                          refine wp_ifn qf_17 ?_
                          refine wp_of (f_X13_isWrong_14.eq_1 ..) ?_
                          refine wp_gd qf_18 ?_
                          refine wp_ret_bd ?_
                          refine wp_ifn qf_19 ?_
                          refine wp_ret_bd ?_
                          refine wp_gd ql_K_149 ?_
                          refine wp_bd ?_
                          refine wp_of (f_X13_thrown.eq_1 ..) ?_
                          refine wp_gd ql_K_149 ?_
                          refine wp_lt gI_s ?_
                          refine wp_ret_bd ?_
                          refine wp_ifp qf_20 ?_
                          refine wp_ifn qf_19 ?_
                          refine wp_of (f_L_law_421.eq_1 ..) ?_
                          refine wp_of (f_L_law_3632.eq_1 ..) ?_
                          refine wp_lt qf_21 ?_
                          exact hrc _
                        · skip
                          refine wp_if (fun c13 => ?_) (fun c13 => ?_)
                          · skip
                            refine wp_of (f_X10_isIn_14.eq_1 ..) ?_
                            refine wp_of (f_X10_isIn_15.eq_1 ..) ?_
                            refine wp_gd qf_14 ?_
                            refine wp_ret_bd ?_
                            refine wp_ifp qf_15 ?_
                            refine wp_of (f_X10_addRecord_103.eq_1 ..) ?_
                            refine wp_of (f_X10_addRecord_104.eq_1 ..) ?_
                            refine wp_bd ?_
                            refine wp_of (f_X10_demand.eq_1 ..) ?_
                            refine wp_ifp qf_15 ?_
                            refine wp_rs_bd ?_
                            refine wp_rs_bdc ?_
                            refine wp_ifp qf_16 ?_
                            refine wp_ret_bd ?_
                            refine wp_gd qf_0 ?_
                            refine wp_lt (xsk qf_1 hy1) ?_
                            refine wp_gd qf_2 ?_
                            refine wp_lt (xsk qf_3 hy2) ?_
                            refine wp_gd qf_4 ?_
                            refine wp_lt (xsk qf_5 hy3) ?_
                            refine wp_gd qf_6 ?_
                            refine wp_lt (xsk qf_7 hy4) ?_
                            refine wp_gd qf_8 ?_
                            refine wp_lt (xsk qf_9 hy5) ?_
                            refine wp_gd qf_10 ?_
                            refine wp_lt (xsk qf_11 hy6) ?_
                            refine wp_gd qf_12 ?_
                            refine wp_lt (xsk qf_13 hy7) ?_
                            refine wp_gd ql_K_149 ?_
                            refine wp_bd ?_
                            refine wp_of (f2_X13_addRecord.eq_1 ..) ?_
                            refine wp_bd ?_
                            refine wp_of (f_X13_isBetween.eq_1 ..) ?_
                            refine wp_ifn c1 ?_
                            refine wp_ifn c2 ?_
                            refine wp_of (f_X13_isBetween_15.eq_1 ..) ?_
                            refine wp_gd qf_18 ?_
                            refine wp_ret_bd ?_
                            refine wp_ifn qf_19 ?_
                            refine wp_bd ?_
                            refine wp_of (f_X13_isBetween.eq_1 ..) ?_
                            refine wp_ifn c3 ?_
                            refine wp_ifn c4 ?_
                            refine wp_of (f_X13_isBetween_15.eq_1 ..) ?_
                            refine wp_gd qf_18 ?_
                            refine wp_ret_bd ?_
                            refine wp_ifn qf_19 ?_
                            refine wp_bd ?_
                            refine wp_of (f_X13_isBetween.eq_1 ..) ?_
                            refine wp_ifn c5 ?_
                            refine wp_ifn c6 ?_
                            refine wp_of (f_X13_isBetween_15.eq_1 ..) ?_
                            refine wp_gd qf_18 ?_
                            refine wp_ret_bd ?_
                            refine wp_ifn qf_19 ?_
                            refine wp_bd ?_
                            refine wp_of (f_X13_isBetween.eq_1 ..) ?_
                            refine wp_ifn c7 ?_
                            refine wp_ifn c8 ?_
                            refine wp_of (f_X13_isBetween_15.eq_1 ..) ?_
                            refine wp_gd qf_18 ?_
                            refine wp_ret_bd ?_
                            refine wp_ifn qf_19 ?_
                            refine wp_ifn qf_84 ?_
                            refine wp_ifn qf_85 ?_
                            refine wp_ifp qf_86 ?_
                            refine wp_of (f2_X13_addRecord_67.eq_1 ..) ?_
                            refine wp_bd ?_
                            refine wp_of (f_X13_isBetween.eq_1 ..) ?_
                            refine wp_ifn c12 ?_
                            refine wp_ifp c13 ?_
                            refine wp_of (f_X13_isBetween_14.eq_1 ..) ?_
                            refine wp_of (f_X13_isBetween_15.eq_1 ..) ?_
                            refine wp_gd qf_14 ?_
                            refine wp_ret_bd ?_
                            refine wp_ifp qf_15 ?_
                            refine wp_of (f2_X13_addRecord_93.eq_1 ..) ?_
                            refine wp_of (f2_X13_addRecord_94.eq_1 ..) ?_
                            refine wp_ifp qf_15 ?_
                            refine wp_of (f2_X13_addRecord_125.eq_1 ..) ?_
                            refine wp_gd ql_K_149 ?_
                            refine wp_bd ?_
                            refine wp_of (f_X13_isWrong.eq_1 ..) ?_
                            refine wp_gd ql_K_149 ?_
                            refine wp_zI ?_
                            refine wp_ifn qf_17 ?_
                            refine wp_of (f_X13_isWrong_14.eq_1 ..) ?_
                            refine wp_gd qf_18 ?_
                            refine wp_ret_bd ?_
                            refine wp_ifn qf_19 ?_
                            refine wp_ret_bd ?_
                            refine wp_gd ql_K_149 ?_
                            refine wp_bd ?_
                            refine wp_of (f_X13_thrown.eq_1 ..) ?_
                            refine wp_gd ql_K_149 ?_
                            refine wp_lt gI_s ?_
                            refine wp_ret_bd ?_
                            refine wp_ifp qf_20 ?_
                            refine wp_ifn qf_19 ?_
                            refine wp_of (f_L_law_421.eq_1 ..) ?_
                            refine wp_of (f_L_law_3632.eq_1 ..) ?_
                            refine wp_lt qf_21 ?_
                            exact hrc _
                          · skip
                            refine wp_of (f_X10_isIn_15.eq_1 ..) ?_
                            refine wp_gd qf_18 ?_
                            refine wp_ret_bd ?_
                            refine wp_ifn qf_19 ?_
                            refine wp_bd ?_
                            refine wp_of (f_X10_isIn.eq_1 ..) ?_
                            refine wp_if (fun c14 => ?_) (fun c14 => ?_)
                            · skip
                              refine wp_of (f_X10_isIn_14.eq_1 ..) ?_
                              refine wp_of (f_X10_isIn_15.eq_1 ..) ?_
                              refine wp_gd qf_14 ?_
                              refine wp_ret_bd ?_
                              refine wp_ifp qf_15 ?_
                              refine wp_of (f_X10_addRecord_103.eq_1 ..) ?_
                              refine wp_of (f_X10_addRecord_104.eq_1 ..) ?_
                              refine wp_bd ?_
                              refine wp_of (f_X10_demand.eq_1 ..) ?_
                              refine wp_ifp qf_15 ?_
                              refine wp_rs_bd ?_
                              refine wp_rs_bdc ?_
                              refine wp_ifp qf_16 ?_
                              refine wp_ret_bd ?_
                              refine wp_gd qf_0 ?_
                              refine wp_lt (xsk qf_1 hy1) ?_
                              refine wp_gd qf_2 ?_
                              refine wp_lt (xsk qf_3 hy2) ?_
                              refine wp_gd qf_4 ?_
                              refine wp_lt (xsk qf_5 hy3) ?_
                              refine wp_gd qf_6 ?_
                              refine wp_lt (xsk qf_7 hy4) ?_
                              refine wp_gd qf_8 ?_
                              refine wp_lt (xsk qf_9 hy5) ?_
                              refine wp_gd qf_10 ?_
                              refine wp_lt (xsk qf_11 hy6) ?_
                              refine wp_gd qf_12 ?_
                              refine wp_lt (xsk qf_13 hy7) ?_
                              refine wp_gd ql_K_149 ?_
                              refine wp_bd ?_
                              refine wp_of (f2_X13_addRecord.eq_1 ..) ?_
                              refine wp_bd ?_
                              refine wp_of (f_X13_isBetween.eq_1 ..) ?_
                              refine wp_ifn c1 ?_
                              refine wp_ifn c2 ?_
                              refine wp_of (f_X13_isBetween_15.eq_1 ..) ?_
                              refine wp_gd qf_18 ?_
                              refine wp_ret_bd ?_
                              refine wp_ifn qf_19 ?_
                              refine wp_bd ?_
                              refine wp_of (f_X13_isBetween.eq_1 ..) ?_
                              refine wp_ifn c3 ?_
                              refine wp_ifn c4 ?_
                              refine wp_of (f_X13_isBetween_15.eq_1 ..) ?_
                              refine wp_gd qf_18 ?_
                              refine wp_ret_bd ?_
                              refine wp_ifn qf_19 ?_
                              refine wp_bd ?_
                              refine wp_of (f_X13_isBetween.eq_1 ..) ?_
                              refine wp_ifn c5 ?_
                              refine wp_ifn c6 ?_
                              refine wp_of (f_X13_isBetween_15.eq_1 ..) ?_
                              refine wp_gd qf_18 ?_
                              refine wp_ret_bd ?_
                              refine wp_ifn qf_19 ?_
                              refine wp_bd ?_
                              refine wp_of (f_X13_isBetween.eq_1 ..) ?_
                              refine wp_ifn c7 ?_
                              refine wp_ifn c8 ?_
                              refine wp_of (f_X13_isBetween_15.eq_1 ..) ?_
                              refine wp_gd qf_18 ?_
                              refine wp_ret_bd ?_
                              refine wp_ifn qf_19 ?_
                              refine wp_ifn qf_84 ?_
                              refine wp_ifn qf_85 ?_
                              refine wp_ifp qf_86 ?_
                              refine wp_of (f2_X13_addRecord_67.eq_1 ..) ?_
                              refine wp_bd ?_
                              refine wp_of (f_X13_isBetween.eq_1 ..) ?_
                              refine wp_ifn c12 ?_
                              refine wp_ifn c13 ?_
                              refine wp_of (f_X13_isBetween_15.eq_1 ..) ?_
                              refine wp_gd qf_18 ?_
                              refine wp_ret_bd ?_
                              refine wp_ifn qf_19 ?_
                              refine wp_bd ?_
                              refine wp_of (f_X13_isBetween.eq_1 ..) ?_
                              refine wp_ifp c14 ?_
                              refine wp_of (f_X13_isBetween_14.eq_1 ..) ?_
                              refine wp_of (f_X13_isBetween_15.eq_1 ..) ?_
                              refine wp_gd qf_14 ?_
                              refine wp_ret_bd ?_
                              refine wp_ifp qf_15 ?_
                              refine wp_of (f2_X13_addRecord_93.eq_1 ..) ?_
                              refine wp_of (f2_X13_addRecord_94.eq_1 ..) ?_
                              refine wp_ifp qf_15 ?_
                              refine wp_of (f2_X13_addRecord_125.eq_1 ..) ?_
                              refine wp_gd ql_K_149 ?_
                              refine wp_bd ?_
                              refine wp_of (f_X13_isWrong.eq_1 ..) ?_
                              refine wp_gd ql_K_149 ?_
                              refine wp_zI ?_
                              refine wp_ifn qf_17 ?_
                              refine wp_of (f_X13_isWrong_14.eq_1 ..) ?_
                              refine wp_gd qf_18 ?_
                              refine wp_ret_bd ?_
                              refine wp_ifn qf_19 ?_
                              refine wp_ret_bd ?_
                              refine wp_gd ql_K_149 ?_
                              refine wp_bd ?_
                              refine wp_of (f_X13_thrown.eq_1 ..) ?_
                              refine wp_gd ql_K_149 ?_
                              refine wp_lt gI_s ?_
                              refine wp_ret_bd ?_
                              refine wp_ifp qf_20 ?_
                              refine wp_ifn qf_19 ?_
                              refine wp_of (f_L_law_421.eq_1 ..) ?_
                              refine wp_of (f_L_law_3632.eq_1 ..) ?_
                              refine wp_lt qf_21 ?_
                              exact hrc _
                            · skip
                              refine wp_if (fun c15 => ?_) (fun c15 => ?_)
                              · skip
                                refine wp_of (f_X10_isIn_14.eq_1 ..) ?_
                                refine wp_of (f_X10_isIn_15.eq_1 ..) ?_
                                refine wp_gd qf_14 ?_
                                refine wp_ret_bd ?_
                                refine wp_ifp qf_15 ?_
                                refine wp_of (f_X10_addRecord_103.eq_1 ..) ?_
                                refine wp_of (f_X10_addRecord_104.eq_1 ..) ?_
                                refine wp_bd ?_
                                refine wp_of (f_X10_demand.eq_1 ..) ?_
                                refine wp_ifp qf_15 ?_
                                refine wp_rs_bd ?_
                                refine wp_rs_bdc ?_
                                refine wp_ifp qf_16 ?_
                                refine wp_ret_bd ?_
                                refine wp_gd qf_0 ?_
                                refine wp_lt (xsk qf_1 hy1) ?_
                                refine wp_gd qf_2 ?_
                                refine wp_lt (xsk qf_3 hy2) ?_
                                refine wp_gd qf_4 ?_
                                refine wp_lt (xsk qf_5 hy3) ?_
                                refine wp_gd qf_6 ?_
                                refine wp_lt (xsk qf_7 hy4) ?_
                                refine wp_gd qf_8 ?_
                                refine wp_lt (xsk qf_9 hy5) ?_
                                refine wp_gd qf_10 ?_
                                refine wp_lt (xsk qf_11 hy6) ?_
                                refine wp_gd qf_12 ?_
                                refine wp_lt (xsk qf_13 hy7) ?_
                                refine wp_gd ql_K_149 ?_
                                refine wp_bd ?_
                                refine wp_of (f2_X13_addRecord.eq_1 ..) ?_
                                refine wp_bd ?_
                                refine wp_of (f_X13_isBetween.eq_1 ..) ?_
                                refine wp_ifn c1 ?_
                                refine wp_ifn c2 ?_
                                refine wp_of (f_X13_isBetween_15.eq_1 ..) ?_
                                refine wp_gd qf_18 ?_
                                refine wp_ret_bd ?_
                                refine wp_ifn qf_19 ?_
                                refine wp_bd ?_
                                refine wp_of (f_X13_isBetween.eq_1 ..) ?_
                                refine wp_ifn c3 ?_
                                refine wp_ifn c4 ?_
                                refine wp_of (f_X13_isBetween_15.eq_1 ..) ?_
                                refine wp_gd qf_18 ?_
                                refine wp_ret_bd ?_
                                refine wp_ifn qf_19 ?_
                                refine wp_bd ?_
                                refine wp_of (f_X13_isBetween.eq_1 ..) ?_
                                refine wp_ifn c5 ?_
                                refine wp_ifn c6 ?_
                                refine wp_of (f_X13_isBetween_15.eq_1 ..) ?_
                                refine wp_gd qf_18 ?_
                                refine wp_ret_bd ?_
                                refine wp_ifn qf_19 ?_
                                refine wp_bd ?_
                                refine wp_of (f_X13_isBetween.eq_1 ..) ?_
                                refine wp_ifn c7 ?_
                                refine wp_ifn c8 ?_
                                refine wp_of (f_X13_isBetween_15.eq_1 ..) ?_
                                refine wp_gd qf_18 ?_
                                refine wp_ret_bd ?_
                                refine wp_ifn qf_19 ?_
                                refine wp_ifn qf_84 ?_
                                refine wp_ifn qf_85 ?_
                                refine wp_ifp qf_86 ?_
                                refine wp_of (f2_X13_addRecord_67.eq_1 ..) ?_
                                refine wp_bd ?_
                                refine wp_of (f_X13_isBetween.eq_1 ..) ?_
                                refine wp_ifn c12 ?_
                                refine wp_ifn c13 ?_
                                refine wp_of (f_X13_isBetween_15.eq_1 ..) ?_
                                refine wp_gd qf_18 ?_
                                refine wp_ret_bd ?_
                                refine wp_ifn qf_19 ?_
                                refine wp_bd ?_
                                refine wp_of (f_X13_isBetween.eq_1 ..) ?_
                                refine wp_ifn c14 ?_
                                refine wp_ifp c15 ?_
                                refine wp_of (f_X13_isBetween_14.eq_1 ..) ?_
                                refine wp_of (f_X13_isBetween_15.eq_1 ..) ?_
                                refine wp_gd qf_14 ?_
                                refine wp_ret_bd ?_
                                refine wp_ifp qf_15 ?_
                                refine wp_of (f2_X13_addRecord_93.eq_1 ..) ?_
                                refine wp_of (f2_X13_addRecord_94.eq_1 ..) ?_
                                refine wp_ifp qf_15 ?_
                                refine wp_of (f2_X13_addRecord_125.eq_1 ..) ?_
                                refine wp_gd ql_K_149 ?_
                                refine wp_bd ?_
                                refine wp_of (f_X13_isWrong.eq_1 ..) ?_
                                refine wp_gd ql_K_149 ?_
                                refine wp_zI ?_
                                refine wp_ifn qf_17 ?_
                                refine wp_of (f_X13_isWrong_14.eq_1 ..) ?_
                                refine wp_gd qf_18 ?_
                                refine wp_ret_bd ?_
                                refine wp_ifn qf_19 ?_
                                refine wp_ret_bd ?_
                                refine wp_gd ql_K_149 ?_
                                refine wp_bd ?_
                                refine wp_of (f_X13_thrown.eq_1 ..) ?_
                                refine wp_gd ql_K_149 ?_
                                refine wp_lt gI_s ?_
                                refine wp_ret_bd ?_
                                refine wp_ifp qf_20 ?_
                                refine wp_ifn qf_19 ?_
                                refine wp_of (f_L_law_421.eq_1 ..) ?_
                                refine wp_of (f_L_law_3632.eq_1 ..) ?_
                                refine wp_lt qf_21 ?_
                                exact hrc _
                              · skip
                                refine wp_of (f_X10_isIn_15.eq_1 ..) ?_
                                refine wp_gd qf_18 ?_
                                refine wp_ret_bd ?_
                                refine wp_ifn qf_19 ?_
                                refine wp_of (f_X10_addRecord_104.eq_1 ..) ?_
                                refine wp_bd ?_
                                refine wp_of (f_X10_demand.eq_1 ..) ?_
                                refine wp_ifn qf_19 ?_
                                refine wp_ret_bd ?_
                                refine wp_gd ql_K_1 ?_
                                refine wp_lt ql_R_1_0 ?_
                                refine wp_gd ql_K_2 ?_
                                refine wp_lt ql_I_2_4 ?_
                                refine wp_lt ql_R_1_0 ?_
                                refine wp_gd ql_K_2 ?_
                                refine wp_lt ql_R_2_0 ?_
                                refine wp_gd ql_K_3 ?_
                                refine wp_lt (gZo ql_Z_3 qf_23) ?_
                                refine wp_ifp qf_24 ?_
                                refine wp_lt ql_R_1_2 ?_
                                refine wp_gd ql_K_106 ?_
                                refine wp_bd ?_
                                refine wp_of (f_X6_open.eq_1 ..) ?_
                                refine wp_gd ql_K_106 ?_
                                refine wp_lt ql_I_106_2 ?_
                                refine wp_lt qf_25 ?_
                                refine wp_zI ?_
                                refine wp_lt (Eq.trans (gI_b rfl) ql_I_106_2) ?_
                                refine wp_ifn qf_26 ?_
                                refine wp_lt (Eq.trans (gI_b rfl) ql_I_106_2) ?_
                                refine wp_lt qf_27 ?_
                                refine wp_zI ?_
                                refine wp_of (f_X6_open_31.eq_1 ..) ?_
                                refine wp_gd ql_K_106 ?_
                                refine wp_bd ?_
                                refine wp_of (f_X6_put.eq_1 ..) ?_
                                refine wp_gd ql_K_106 ?_
                                refine wp_lt (Eq.trans (gI_b rfl) gI_s) ?_
                                refine wp_ifn qf_28 ?_
                                refine wp_lt (Eq.trans (gI_b rfl) gI_s) ?_
                                refine wp_lt ql_R_106_0 ?_
                                refine wp_gd ql_K_107 ?_
                                refine wp_lt (gZo ql_Z_107 qf_29) ?_
                                refine wp_ifn qf_30 ?_
                                refine wp_lt ql_R_106_0 ?_
                                refine wp_lt (Eq.trans (gI_b rfl) gI_s) ?_
                                refine wp_gd ql_K_107 ?_
                                refine wp_gd (gZi ql_Z_107 qf_31) ?_
                                refine wp_zIk qf_32 ?_
                                refine wp_lt (Eq.trans (gI_a rfl) (Eq.trans (gI_b rfl) gI_s)) ?_
                                refine wp_lt qf_27 ?_
                                refine wp_zI ?_
                                refine wp_of (f_X6_put_39.eq_1 ..) ?_
                                refine wp_ret_bd ?_
                                refine wp_ret_bd ?_
                                refine wp_gd ql_K_1 ?_
                                refine wp_lt ql_R_1_2 ?_
                                refine wp_gd ql_K_106 ?_
                                refine wp_bd ?_
                                refine wp_of (f_X6_put.eq_1 ..) ?_
                                refine wp_gd ql_K_106 ?_
                                refine wp_lt gI_s ?_
                                refine wp_ifn qf_33 ?_
                                refine wp_lt gI_s ?_
                                refine wp_lt ql_R_106_0 ?_
                                refine wp_gd ql_K_107 ?_
                                refine wp_lt (gZo ql_Z_107 qf_29) ?_
                                refine wp_ifn qf_34 ?_
                                refine wp_lt ql_R_106_0 ?_
                                refine wp_lt gI_s ?_
                                refine wp_gd ql_K_107 ?_
                                refine wp_gd (gZi ql_Z_107 qf_35) ?_
                                refine wp_zIk qf_36 ?_
                                refine wp_lt (Eq.trans (gI_a rfl) gI_s) ?_
                                refine wp_lt qf_37 ?_
                                refine wp_zI ?_
                                refine wp_of (f_X6_put_39.eq_1 ..) ?_
                                refine wp_ret_bd ?_
                                refine wp_gd ql_K_1 ?_
                                refine wp_lt ql_R_1_2 ?_
                                refine wp_gd ql_K_106 ?_
                                refine wp_bd ?_
                                refine wp_of (f_X6_put.eq_1 ..) ?_
                                refine wp_gd ql_K_106 ?_
                                refine wp_lt gI_s ?_
                                refine wp_ifn qf_38 ?_
                                refine wp_lt gI_s ?_
                                refine wp_lt ql_R_106_0 ?_
                                refine wp_gd ql_K_107 ?_
                                refine wp_lt (gZo ql_Z_107 qf_29) ?_
                                refine wp_ifn qf_39 ?_
                                refine wp_lt ql_R_106_0 ?_
                                refine wp_lt gI_s ?_
                                refine wp_gd ql_K_107 ?_
                                refine wp_gd (gZi ql_Z_107 qf_40) ?_
                                refine wp_zIk qf_41 ?_
                                refine wp_lt (Eq.trans (gI_a rfl) gI_s) ?_
                                refine wp_lt qf_42 ?_
                                refine wp_zI ?_
                                refine wp_of (f_X6_put_39.eq_1 ..) ?_
                                refine wp_ret_bd ?_
                                refine wp_gd ql_K_1 ?_
                                refine wp_lt ql_R_1_2 ?_
                                refine wp_gd ql_K_106 ?_
                                refine wp_bd ?_
                                refine wp_of (f_X6_put.eq_1 ..) ?_
                                refine wp_gd ql_K_106 ?_
                                refine wp_lt gI_s ?_
                                refine wp_ifn qf_43 ?_
                                refine wp_lt gI_s ?_
                                refine wp_lt ql_R_106_0 ?_
                                refine wp_gd ql_K_107 ?_
                                refine wp_lt (gZo ql_Z_107 qf_29) ?_
                                refine wp_ifn qf_44 ?_
                                refine wp_lt ql_R_106_0 ?_
                                refine wp_lt gI_s ?_
                                refine wp_gd ql_K_107 ?_
                                refine wp_gd (gZi ql_Z_107 qf_45) ?_
                                refine wp_zIk qf_46 ?_
                                refine wp_lt (Eq.trans (gI_a rfl) gI_s) ?_
                                refine wp_lt qf_47 ?_
                                refine wp_zI ?_
                                refine wp_of (f_X6_put_39.eq_1 ..) ?_
                                refine wp_ret_bd ?_
                                refine wp_gd ql_K_1 ?_
                                refine wp_lt ql_R_1_2 ?_
                                refine wp_gd ql_K_106 ?_
                                refine wp_bd ?_
                                refine wp_of (f_X6_put.eq_1 ..) ?_
                                refine wp_gd ql_K_106 ?_
                                refine wp_lt gI_s ?_
                                refine wp_ifn qf_48 ?_
                                refine wp_lt gI_s ?_
                                refine wp_lt ql_R_106_0 ?_
                                refine wp_gd ql_K_107 ?_
                                refine wp_lt (gZo ql_Z_107 qf_29) ?_
                                refine wp_ifn qf_49 ?_
                                refine wp_lt ql_R_106_0 ?_
                                refine wp_lt gI_s ?_
                                refine wp_gd ql_K_107 ?_
                                refine wp_gd (gZi ql_Z_107 qf_50) ?_
                                refine wp_zIk qf_51 ?_
                                refine wp_lt (Eq.trans (gI_a rfl) gI_s) ?_
                                refine wp_lt qf_52 ?_
                                refine wp_zI ?_
                                refine wp_of (f_X6_put_39.eq_1 ..) ?_
                                refine wp_ret_bd ?_
                                refine wp_gd ql_K_1 ?_
                                refine wp_lt ql_R_1_2 ?_
                                refine wp_gd ql_K_106 ?_
                                refine wp_bd ?_
                                refine wp_of (f_X6_put.eq_1 ..) ?_
                                refine wp_gd ql_K_106 ?_
                                refine wp_lt gI_s ?_
                                refine wp_ifn qf_53 ?_
                                refine wp_lt gI_s ?_
                                refine wp_lt ql_R_106_0 ?_
                                refine wp_gd ql_K_107 ?_
                                refine wp_lt (gZo ql_Z_107 qf_29) ?_
                                refine wp_ifn qf_54 ?_
                                refine wp_lt ql_R_106_0 ?_
                                refine wp_lt gI_s ?_
                                refine wp_gd ql_K_107 ?_
                                refine wp_gd (gZi ql_Z_107 qf_55) ?_
                                refine wp_zIk qf_56 ?_
                                refine wp_lt (Eq.trans (gI_a rfl) gI_s) ?_
                                refine wp_lt qf_57 ?_
                                refine wp_zI ?_
                                refine wp_of (f_X6_put_39.eq_1 ..) ?_
                                refine wp_ret_bd ?_
                                refine wp_gd ql_K_1 ?_
                                refine wp_lt ql_R_1_2 ?_
                                refine wp_gd ql_K_106 ?_
                                refine wp_bd ?_
                                refine wp_of (f_X6_put.eq_1 ..) ?_
                                refine wp_gd ql_K_106 ?_
                                refine wp_lt gI_s ?_
                                refine wp_ifn qf_58 ?_
                                refine wp_lt gI_s ?_
                                refine wp_lt ql_R_106_0 ?_
                                refine wp_gd ql_K_107 ?_
                                refine wp_lt (gZo ql_Z_107 qf_29) ?_
                                refine wp_ifn qf_59 ?_
                                refine wp_lt ql_R_106_0 ?_
                                refine wp_lt gI_s ?_
                                refine wp_gd ql_K_107 ?_
                                refine wp_gd (gZi ql_Z_107 qf_60) ?_
                                refine wp_zIk qf_61 ?_
                                refine wp_lt (Eq.trans (gI_a rfl) gI_s) ?_
                                refine wp_lt qf_62 ?_
                                refine wp_zI ?_
                                refine wp_of (f_X6_put_39.eq_1 ..) ?_
                                refine wp_ret_bd ?_
                                refine wp_gd ql_K_1 ?_
                                refine wp_lt ql_R_1_2 ?_
                                refine wp_gd ql_K_106 ?_
                                refine wp_bd ?_
                                refine wp_of (f_X6_put.eq_1 ..) ?_
                                refine wp_gd ql_K_106 ?_
                                refine wp_lt gI_s ?_
                                refine wp_ifn qf_63 ?_
                                refine wp_lt gI_s ?_
                                refine wp_lt ql_R_106_0 ?_
                                refine wp_gd ql_K_107 ?_
                                refine wp_lt (gZo ql_Z_107 qf_29) ?_
                                refine wp_ifn qf_64 ?_
                                refine wp_lt ql_R_106_0 ?_
                                refine wp_lt gI_s ?_
                                refine wp_gd ql_K_107 ?_
                                refine wp_gd (gZi ql_Z_107 qf_65) ?_
                                refine wp_zIk qf_66 ?_
                                refine wp_lt (Eq.trans (gI_a rfl) gI_s) ?_
                                refine wp_lt qf_67 ?_
                                refine wp_zI ?_
                                refine wp_of (f_X6_put_39.eq_1 ..) ?_
                                refine wp_ret_bd ?_
                                refine wp_gd ql_K_1 ?_
                                refine wp_lt ql_R_1_0 ?_
                                refine wp_gd ql_K_2 ?_
                                refine wp_bd ?_
                                refine wp_of (f_X8_addDisc.eq_1 ..) ?_
                                refine wp_gd ql_K_2 ?_
                                refine wp_lt (Eq.trans (gI_a rfl) (Eq.trans (gI_a rfl) (Eq.trans (gI_a rfl) (Eq.trans (gI_a rfl) (Eq.trans (gI_a rfl) (Eq.trans (gI_a rfl) (Eq.trans (gI_a rfl) (Eq.trans (gI_a rfl) (Eq.trans (gI_a rfl) (Eq.trans (gI_a rfl) (Eq.trans (gI_a rfl) (Eq.trans (gI_a rfl) (Eq.trans (gI_a rfl) (Eq.trans (gI_a rfl) (Eq.trans (gI_a rfl) (Eq.trans (gI_a rfl) (Eq.trans (gI_a rfl) (Eq.trans (gI_a rfl) ql_I_2_4)))))))))))))))))) ?_
                                refine wp_ifn qf_28 ?_
                                refine wp_lt (Eq.trans (gI_a rfl) (Eq.trans (gI_a rfl) (Eq.trans (gI_a rfl) (Eq.trans (gI_a rfl) (Eq.trans (gI_a rfl) (Eq.trans (gI_a rfl) (Eq.trans (gI_a rfl) (Eq.trans (gI_a rfl) (Eq.trans (gI_a rfl) (Eq.trans (gI_a rfl) (Eq.trans (gI_a rfl) (Eq.trans (gI_a rfl) (Eq.trans (gI_a rfl) (Eq.trans (gI_a rfl) (Eq.trans (gI_a rfl) (Eq.trans (gI_a rfl) (Eq.trans (gI_a rfl) (Eq.trans (gI_a rfl) ql_I_2_4)))))))))))))))))) ?_
                                refine wp_lt ql_R_2_0 ?_
                                refine wp_gd ql_K_3 ?_
                                refine wp_lt (gZo ql_Z_3 qf_23) ?_
                                refine wp_ifp qf_24 ?_
                                refine wp_lt ql_R_2_0 ?_
                                refine wp_lt (Eq.trans (gI_a rfl) (Eq.trans (gI_a rfl) (Eq.trans (gI_a rfl) (Eq.trans (gI_a rfl) (Eq.trans (gI_a rfl) (Eq.trans (gI_a rfl) (Eq.trans (gI_a rfl) (Eq.trans (gI_a rfl) (Eq.trans (gI_a rfl) (Eq.trans (gI_a rfl) (Eq.trans (gI_a rfl) (Eq.trans (gI_a rfl) (Eq.trans (gI_a rfl) (Eq.trans (gI_a rfl) (Eq.trans (gI_a rfl) (Eq.trans (gI_a rfl) (Eq.trans (gI_a rfl) (Eq.trans (gI_a rfl) ql_I_2_4)))))))))))))))))) ?_
                                refine wp_gd ql_K_3 ?_
                                refine wp_gd (gZi ql_Z_3 qf_68) ?_
                                refine wp_lt (gRk qf_32 ql_R_3_0) ?_
                                refine wp_gd ql_K_4 ?_
                                refine wp_bd ?_
                                refine wp_of (f_X2_fill.eq_1 ..) ?_
                                refine wp_gd ql_K_4 ?_
                                refine wp_zI ?_
                                refine wp_zI ?_
                                refine wp_zI ?_
                                refine wp_zI ?_
                                refine wp_zI ?_
                                refine wp_zI ?_
                                refine wp_zI ?_
                                refine wp_ret_bd ?_
                                refine wp_gd ql_K_2 ?_
                                refine wp_lt (Eq.trans (gI_a rfl) (Eq.trans (gI_a rfl) (Eq.trans (gI_a rfl) (Eq.trans (gI_a rfl) (Eq.trans (gI_a rfl) (Eq.trans (gI_a rfl) (Eq.trans (gI_a rfl) (Eq.trans (gI_a rfl) (Eq.trans (gI_a rfl) (Eq.trans (gI_a rfl) (Eq.trans (gI_a rfl) (Eq.trans (gI_a rfl) (Eq.trans (gI_a rfl) (Eq.trans (gI_a rfl) (Eq.trans (gI_a rfl) (Eq.trans (gI_a rfl) (Eq.trans (gI_a rfl) (Eq.trans (gI_a rfl) (Eq.trans (gI_a rfl) (Eq.trans (gI_a rfl) (Eq.trans (gI_a rfl) (Eq.trans (gI_a rfl) (Eq.trans (gI_a rfl) (Eq.trans (gI_a rfl) (Eq.trans (gI_a rfl) ql_I_2_4))))))))))))))))))))))))) ?_
                                refine wp_lt qf_27 ?_
                                refine wp_zI ?_
                                refine wp_lt gI_s ?_
                                refine wp_lt qf_69 ?_
                                refine wp_ret_bd ?_
                                refine wp_ret_bdc ?_
                                refine wp_lt qf_70 ?_
                                refine wp_gd ql_K_173 ?_
                                refine wp_gd (gZi ql_Z_173 qf_71) ?_
                                refine wp_zLk qf_32 ?_
                                refine wp_ret_bd ?_
                                refine wp_gd qf_0 ?_
                                refine wp_lt (xsk qf_1 hy1) ?_
                                refine wp_gd qf_2 ?_
                                refine wp_lt (xsk qf_3 hy2) ?_
                                refine wp_gd qf_4 ?_
                                refine wp_lt (xsk qf_5 hy3) ?_
                                refine wp_gd qf_6 ?_
                                refine wp_lt (xsk qf_7 hy4) ?_
                                refine wp_gd qf_8 ?_
                                refine wp_lt (xsk qf_9 hy5) ?_
                                refine wp_gd qf_10 ?_
                                refine wp_lt (xsk qf_11 hy6) ?_
                                refine wp_gd qf_12 ?_
                                refine wp_lt (xsk qf_13 hy7) ?_
                                refine wp_gd ql_K_149 ?_
                                refine wp_bd ?_
                                refine wp_of (f2_X13_addRecord.eq_1 ..) ?_
                                refine wp_bd ?_
                                refine wp_of (f_X13_isBetween.eq_1 ..) ?_
                                refine wp_ifn c1 ?_
                                refine wp_ifn c2 ?_
                                refine wp_of (f_X13_isBetween_15.eq_1 ..) ?_
                                refine wp_gd qf_18 ?_
                                refine wp_ret_bd ?_
                                refine wp_ifn qf_19 ?_
                                refine wp_bd ?_
                                refine wp_of (f_X13_isBetween.eq_1 ..) ?_
                                refine wp_ifn c3 ?_
                                refine wp_ifn c4 ?_
                                refine wp_of (f_X13_isBetween_15.eq_1 ..) ?_
                                refine wp_gd qf_18 ?_
                                refine wp_ret_bd ?_
                                refine wp_ifn qf_19 ?_
                                refine wp_bd ?_
                                refine wp_of (f_X13_isBetween.eq_1 ..) ?_
                                refine wp_ifn c5 ?_
                                refine wp_ifn c6 ?_
                                refine wp_of (f_X13_isBetween_15.eq_1 ..) ?_
                                refine wp_gd qf_18 ?_
                                refine wp_ret_bd ?_
                                refine wp_ifn qf_19 ?_
                                refine wp_bd ?_
                                refine wp_of (f_X13_isBetween.eq_1 ..) ?_
                                refine wp_ifn c7 ?_
                                refine wp_ifn c8 ?_
                                refine wp_of (f_X13_isBetween_15.eq_1 ..) ?_
                                refine wp_gd qf_18 ?_
                                refine wp_ret_bd ?_
                                refine wp_ifn qf_19 ?_
                                refine wp_ifn qf_84 ?_
                                refine wp_ifn qf_85 ?_
                                refine wp_ifp qf_86 ?_
                                refine wp_of (f2_X13_addRecord_67.eq_1 ..) ?_
                                refine wp_bd ?_
                                refine wp_of (f_X13_isBetween.eq_1 ..) ?_
                                refine wp_ifn c12 ?_
                                refine wp_ifn c13 ?_
                                refine wp_of (f_X13_isBetween_15.eq_1 ..) ?_
                                refine wp_gd qf_18 ?_
                                refine wp_ret_bd ?_
                                refine wp_ifn qf_19 ?_
                                refine wp_bd ?_
                                refine wp_of (f_X13_isBetween.eq_1 ..) ?_
                                refine wp_ifn c14 ?_
                                refine wp_ifn c15 ?_
                                refine wp_of (f_X13_isBetween_15.eq_1 ..) ?_
                                refine wp_gd qf_18 ?_
                                refine wp_ret_bd ?_
                                refine wp_ifn qf_19 ?_
                                refine wp_of (f2_X13_addRecord_94.eq_1 ..) ?_
                                refine wp_ifn qf_19 ?_
                                refine wp_gd ql_K_149 ?_
                                refine wp_lt ql_R_149_1 ?_
                                refine wp_gd ql_K_150 ?_
                                refine wp_bd ?_
                                refine wp_of (f_Jx4a65c_size_8abf5.eq_1 ..) ?_
                                refine wp_gd ql_K_150 ?_
                                refine wp_lt (Eq.trans (gI_a rfl) (Eq.trans (gI_a rfl) (Eq.trans (gI_a rfl) (Eq.trans (gI_a rfl) (Eq.trans (gI_a rfl) (Eq.trans (gI_a rfl) (Eq.trans (gI_a rfl) (Eq.trans (gI_a rfl) (Eq.trans (gI_a rfl) (Eq.trans (gI_a rfl) (Eq.trans (gI_a rfl) (Eq.trans (gI_a rfl) (Eq.trans (gI_a rfl) (Eq.trans (gI_a rfl) (Eq.trans (gI_a rfl) (Eq.trans (gI_a rfl) (Eq.trans (gI_a rfl) (Eq.trans (gI_a rfl) (Eq.trans (gI_a rfl) (Eq.trans (gI_a rfl) (Eq.trans (gI_a rfl) (Eq.trans (gI_a rfl) (Eq.trans (gI_a rfl) (Eq.trans (gI_a rfl) (Eq.trans (gI_a rfl) (Eq.trans (gI_a rfl) ql_I_150_2)))))))))))))))))))))))))) ?_
                                refine wp_ret_bd ?_
                                refine wp_ifn qf_72 ?_
                                refine wp_of (f2_X13_addRecord_125.eq_1 ..) ?_
                                refine wp_gd ql_K_149 ?_
                                refine wp_bd ?_
                                refine wp_of (f_X13_isWrong.eq_1 ..) ?_
                                refine wp_gd ql_K_149 ?_
                                refine wp_zI ?_
                                refine wp_ifp qf_73 ?_
                                refine wp_of (f_X13_isWrong_14.eq_1 ..) ?_
                                refine wp_gd qf_14 ?_
                                refine wp_ret_bd ?_
                                refine wp_ifp qf_15 ?_
                                refine wp_gd ql_K_149 ?_
                                refine wp_lt ql_R_149_1 ?_
                                refine wp_gd (gNk (n := 174) qf_74) ?_
                                refine wp_zW (m := 175) rfl ?_
                                refine wp_lt (show _ = 175 from rfl) ?_
                                refine wp_bd ?_
                                refine wp_of (f_X12_init.eq_1 ..) ?_
                                refine wp_gd gK_n ?_
                                refine wp_zI ?_
                                refine wp_zI ?_
                                refine wp_zI ?_
                                refine wp_zI ?_
                                refine wp_zI ?_
                                refine wp_zI ?_
                                refine wp_zI ?_
                                refine wp_ret_bd ?_
                                refine wp_gd (Eq.trans (gK_w rfl) ql_K_150) ?_
                                refine wp_bd ?_
                                refine wp_of (f2_Jx4a65c_add_9ea2d.eq_1 ..) ?_
                                refine wp_gd (Eq.trans (gK_w rfl) ql_K_150) ?_
                                refine wp_lt (Eq.trans (gI_a rfl) (Eq.trans (gI_a rfl) (Eq.trans (gI_a rfl) (Eq.trans (gI_a rfl) (Eq.trans (gI_a rfl) (Eq.trans (gI_a rfl) (Eq.trans (gI_a rfl) (Eq.trans (gI_w rfl) (Eq.trans (gI_a rfl) (Eq.trans (gI_a rfl) (Eq.trans (gI_a rfl) (Eq.trans (gI_a rfl) (Eq.trans (gI_a rfl) (Eq.trans (gI_a rfl) (Eq.trans (gI_a rfl) (Eq.trans (gI_a rfl) (Eq.trans (gI_a rfl) (Eq.trans (gI_a rfl) (Eq.trans (gI_a rfl) (Eq.trans (gI_a rfl) (Eq.trans (gI_a rfl) (Eq.trans (gI_a rfl) (Eq.trans (gI_a rfl) (Eq.trans (gI_a rfl) (Eq.trans (gI_a rfl) (Eq.trans (gI_a rfl) (Eq.trans (gI_a rfl) (Eq.trans (gI_a rfl) (Eq.trans (gI_a rfl) (Eq.trans (gI_a rfl) (Eq.trans (gI_a rfl) (Eq.trans (gI_a rfl) (Eq.trans (gI_a rfl) (Eq.trans (gI_a rfl) (Eq.trans (gI_a rfl) ql_I_150_0))))))))))))))))))))))))))))))))))) ?_
                                refine wp_lt qf_27 ?_
                                refine wp_zI ?_
                                refine wp_lt (Eq.trans (gR_w rfl) ql_R_150_1) ?_
                                refine wp_lt (Eq.trans (gI_b rfl) (Eq.trans (gI_a rfl) (Eq.trans (gI_a rfl) (Eq.trans (gI_a rfl) (Eq.trans (gI_a rfl) (Eq.trans (gI_a rfl) (Eq.trans (gI_a rfl) (Eq.trans (gI_a rfl) (Eq.trans (gI_w rfl) (Eq.trans (gI_a rfl) (Eq.trans (gI_a rfl) (Eq.trans (gI_a rfl) (Eq.trans (gI_a rfl) (Eq.trans (gI_a rfl) (Eq.trans (gI_a rfl) (Eq.trans (gI_a rfl) (Eq.trans (gI_a rfl) (Eq.trans (gI_a rfl) (Eq.trans (gI_a rfl) (Eq.trans (gI_a rfl) (Eq.trans (gI_a rfl) (Eq.trans (gI_a rfl) (Eq.trans (gI_a rfl) (Eq.trans (gI_a rfl) (Eq.trans (gI_a rfl) (Eq.trans (gI_a rfl) (Eq.trans (gI_a rfl) (Eq.trans (gI_a rfl) (Eq.trans (gI_a rfl) (Eq.trans (gI_a rfl) (Eq.trans (gI_a rfl) (Eq.trans (gI_a rfl) (Eq.trans (gI_a rfl) (Eq.trans (gI_a rfl) (Eq.trans (gI_a rfl) (Eq.trans (gI_a rfl) ql_I_150_2)))))))))))))))))))))))))))))))))))) ?_
                                refine wp_bd ?_
                                refine wp_of (f2_Jx4a65c_add_72be8.eq_1 ..) ?_
                                refine wp_ifp qf_75 ?_
                                refine wp_ifp qf_15 ?_
                                refine wp_gd (Eq.trans (gK_w rfl) ql_K_150) ?_
                                refine wp_bd ?_
                                refine wp_of (f2_Jx4a65c_grow_d5877.eq_1 ..) ?_
                                refine wp_gd (Eq.trans (gK_w rfl) ql_K_150) ?_
                                refine wp_lt (Eq.trans (gI_b rfl) (Eq.trans (gI_a rfl) (Eq.trans (gI_a rfl) (Eq.trans (gI_a rfl) (Eq.trans (gI_a rfl) (Eq.trans (gI_a rfl) (Eq.trans (gI_a rfl) (Eq.trans (gI_a rfl) (Eq.trans (gI_w rfl) (Eq.trans (gI_a rfl) (Eq.trans (gI_a rfl) (Eq.trans (gI_a rfl) (Eq.trans (gI_a rfl) (Eq.trans (gI_a rfl) (Eq.trans (gI_a rfl) (Eq.trans (gI_a rfl) (Eq.trans (gI_a rfl) (Eq.trans (gI_a rfl) (Eq.trans (gI_a rfl) (Eq.trans (gI_a rfl) (Eq.trans (gI_a rfl) (Eq.trans (gI_a rfl) (Eq.trans (gI_a rfl) (Eq.trans (gI_a rfl) (Eq.trans (gI_a rfl) (Eq.trans (gI_a rfl) (Eq.trans (gI_a rfl) (Eq.trans (gI_a rfl) (Eq.trans (gI_a rfl) (Eq.trans (gI_a rfl) (Eq.trans (gI_a rfl) (Eq.trans (gI_a rfl) (Eq.trans (gI_a rfl) (Eq.trans (gI_a rfl) (Eq.trans (gI_a rfl) (Eq.trans (gI_a rfl) ql_I_150_2)))))))))))))))))))))))))))))))))))) ?_
                                refine wp_lt qf_27 ?_
                                refine wp_bd ?_
                                refine wp_of (f2_Jx4a65c_grow_92f84.eq_1 ..) ?_
                                refine wp_gd (Eq.trans (gK_w rfl) ql_K_150) ?_
                                refine wp_lt (Eq.trans (gR_w rfl) ql_R_150_1) ?_
                                refine wp_ifp qf_75 ?_
                                refine wp_ifn qf_28 ?_
                                refine wp_lt (Eq.trans (gR_w rfl) ql_R_150_1) ?_
                                refine wp_gd qf_76 ?_
                                refine wp_ifp qf_75 ?_
                                refine wp_lt qf_77 ?_
                                refine wp_ifp qf_78 ?_
                                refine wp_gd (gNk (n := 175) qf_79) ?_
                                refine wp_zW (m := 176) rfl ?_
                                refine wp_lt (show _ = 176 from rfl) ?_
                                refine wp_gd (Eq.trans (gK_w rfl) (Eq.trans (gK_w rfl) ql_K_150)) ?_
                                refine wp_zR ?_
                                refine wp_ret_bd ?_
                                refine wp_ret_bd ?_
                                refine wp_of (f2_Jx4a65c_add_72be8_11.eq_1 ..) ?_
                                refine wp_gd gK_n ?_
                                refine wp_gd (gZi gZ_n qf_80) ?_
                                refine wp_ifp (Eq.trans (gK_w rfl) gK_n) ?_
                                refine wp_zRk qf_32 ?_
                                refine wp_lt qf_27 ?_
                                refine wp_gd (Eq.trans (gK_w rfl) (Eq.trans (gK_w rfl) ql_K_150)) ?_
                                refine wp_zI ?_
                                refine wp_ret_bd ?_
                                refine wp_ret_bd ?_
                                refine wp_gd (Eq.trans (gK_w rfl) (Eq.trans (gK_w rfl) ql_K_149)) ?_
                                refine wp_bd ?_
                                refine wp_of (f_X13_logs.eq_1 ..) ?_
                                refine wp_gd (Eq.trans (gK_w rfl) (Eq.trans (gK_w rfl) ql_K_149)) ?_
                                refine wp_lt (Eq.trans (gI_a rfl) (Eq.trans (gI_w rfl) (Eq.trans (gI_a rfl) (Eq.trans (gI_a rfl) (Eq.trans (gI_a rfl) (Eq.trans (gI_a rfl) (Eq.trans (gI_a rfl) (Eq.trans (gI_a rfl) (Eq.trans (gI_a rfl) (Eq.trans (gI_a rfl) (Eq.trans (gI_w rfl) (Eq.trans (gI_b rfl) (Eq.trans (gI_a rfl) (Eq.trans (gI_a rfl) (Eq.trans (gI_a rfl) (Eq.trans (gI_a rfl) (Eq.trans (gI_a rfl) (Eq.trans (gI_a rfl) (Eq.trans (gI_a rfl) (Eq.trans (gI_a rfl) (Eq.trans (gI_a rfl) (Eq.trans (gI_a rfl) (Eq.trans (gI_a rfl) (Eq.trans (gI_a rfl) (Eq.trans (gI_a rfl) (Eq.trans (gI_a rfl) (Eq.trans (gI_a rfl) (Eq.trans (gI_a rfl) (Eq.trans (gI_a rfl) (Eq.trans (gI_a rfl) (Eq.trans (gI_a rfl) (Eq.trans (gI_a rfl) (Eq.trans (gI_a rfl) (Eq.trans (gI_a rfl) (Eq.trans (gI_a rfl) (Eq.trans (gI_a rfl) (Eq.trans (gI_a rfl) (Eq.trans (gI_a rfl) ql_I_149_16)))))))))))))))))))))))))))))))))))))) ?_
                                refine wp_lt qf_27 ?_
                                refine wp_zI ?_
                                refine wp_ret_bd ?_
                                refine wp_gd (Eq.trans (gK_w rfl) (Eq.trans (gK_w rfl) ql_K_149)) ?_
                                refine wp_lt (Eq.trans (gR_a rfl) (Eq.trans (gR_a rfl) (Eq.trans (gR_w rfl) (Eq.trans (gR_w rfl) ql_R_149_1)))) ?_
                                refine wp_gd (Eq.trans (gK_w rfl) (Eq.trans (gK_w rfl) ql_K_150)) ?_
                                refine wp_bd ?_
                                refine wp_of (f_Jx4a65c_size_8abf5.eq_1 ..) ?_
                                refine wp_gd (Eq.trans (gK_w rfl) (Eq.trans (gK_w rfl) ql_K_150)) ?_
                                refine wp_lt (Eq.trans (gI_a rfl) gI_s) ?_
                                refine wp_ret_bd ?_
                                refine wp_lt qf_69 ?_
                                refine wp_ret_bd ?_
                                refine wp_gd (Eq.trans (gK_w rfl) (Eq.trans (gK_w rfl) ql_K_149)) ?_
                                refine wp_bd ?_
                                refine wp_of (f_X13_thrown.eq_1 ..) ?_
                                refine wp_gd (Eq.trans (gK_w rfl) (Eq.trans (gK_w rfl) ql_K_149)) ?_
                                refine wp_lt (Eq.trans (gI_b rfl) (Eq.trans (gI_a rfl) (Eq.trans (gI_w rfl) (Eq.trans (gI_a rfl) (Eq.trans (gI_a rfl) (Eq.trans (gI_a rfl) (Eq.trans (gI_a rfl) (Eq.trans (gI_a rfl) (Eq.trans (gI_a rfl) (Eq.trans (gI_a rfl) (Eq.trans (gI_a rfl) (Eq.trans (gI_w rfl) gI_s)))))))))))) ?_
                                refine wp_ret_bd ?_
                                refine wp_ifp qf_15 ?_
                                refine wp_ifp qf_15 ?_
                                refine wp_gd (Eq.trans (gK_w rfl) (Eq.trans (gK_w rfl) ql_K_173)) ?_
                                refine wp_gd (gZi (Eq.trans (gZ_w rfl) (Eq.trans (gZ_w rfl) ql_Z_173)) qf_71) ?_
                                refine wp_lt (gLk qf_32 (Eq.trans (gL_w rfl) (Eq.trans (gL_w rfl) gL_s))) ?_
                                refine wp_lt qf_70 ?_
                                refine wp_lt qf_81 ?_
                                refine wp_ifp qf_15 ?_
                                refine wp_of (f_L_law_421.eq_1 ..) ?_
                                refine wp_of (f_L_law_3632.eq_1 ..) ?_
                                refine wp_lt qf_21 ?_
                                exact hrc _
                      · skip
                        refine wp_of (f_X10_addRecord_74.eq_1 ..) ?_
                        refine wp_bd ?_
                        refine wp_of (f_X10_demand.eq_1 ..) ?_
                        refine wp_ifp qf_15 ?_
                        refine wp_rs_bd ?_
                        refine wp_rs_bdc ?_
                        refine wp_ifp qf_16 ?_
                        refine wp_ret_bd ?_
                        refine wp_gd qf_0 ?_
                        refine wp_lt (xsk qf_1 hy1) ?_
                        refine wp_gd qf_2 ?_
                        refine wp_lt (xsk qf_3 hy2) ?_
                        refine wp_gd qf_4 ?_
                        refine wp_lt (xsk qf_5 hy3) ?_
                        refine wp_gd qf_6 ?_
                        refine wp_lt (xsk qf_7 hy4) ?_
                        refine wp_gd qf_8 ?_
                        refine wp_lt (xsk qf_9 hy5) ?_
                        refine wp_gd qf_10 ?_
                        refine wp_lt (xsk qf_11 hy6) ?_
                        refine wp_gd qf_12 ?_
                        refine wp_lt (xsk qf_13 hy7) ?_
                        refine wp_gd ql_K_149 ?_
                        refine wp_bd ?_
                        refine wp_of (f2_X13_addRecord.eq_1 ..) ?_
                        refine wp_bd ?_
                        refine wp_of (f_X13_isBetween.eq_1 ..) ?_
                        refine wp_ifn c1 ?_
                        refine wp_ifn c2 ?_
                        refine wp_of (f_X13_isBetween_15.eq_1 ..) ?_
                        refine wp_gd qf_18 ?_
                        refine wp_ret_bd ?_
                        refine wp_ifn qf_19 ?_
                        refine wp_bd ?_
                        refine wp_of (f_X13_isBetween.eq_1 ..) ?_
                        refine wp_ifn c3 ?_
                        refine wp_ifn c4 ?_
                        refine wp_of (f_X13_isBetween_15.eq_1 ..) ?_
                        refine wp_gd qf_18 ?_
                        refine wp_ret_bd ?_
                        refine wp_ifn qf_19 ?_
                        refine wp_bd ?_
                        refine wp_of (f_X13_isBetween.eq_1 ..) ?_
                        refine wp_ifn c5 ?_
                        refine wp_ifn c6 ?_
                        refine wp_of (f_X13_isBetween_15.eq_1 ..) ?_
                        refine wp_gd qf_18 ?_
                        refine wp_ret_bd ?_
                        refine wp_ifn qf_19 ?_
                        refine wp_bd ?_
                        refine wp_of (f_X13_isBetween.eq_1 ..) ?_
                        refine wp_ifn c7 ?_
                        refine wp_ifn c8 ?_
                        refine wp_of (f_X13_isBetween_15.eq_1 ..) ?_
                        refine wp_gd qf_18 ?_
                        refine wp_ret_bd ?_
                        refine wp_ifn qf_19 ?_
                        refine wp_ifn c9 ?_
                        refine wp_ifn c10 ?_
                        refine wp_ifn c11 ?_
                        refine wp_of (f2_X13_addRecord_93.eq_1 ..) ?_
                        refine wp_of (f2_X13_addRecord_94.eq_1 ..) ?_
                        refine wp_ifp qf_15 ?_
                        refine wp_of (f2_X13_addRecord_125.eq_1 ..) ?_
                        refine wp_gd ql_K_149 ?_
                        refine wp_bd ?_
                        refine wp_of (f_X13_isWrong.eq_1 ..) ?_
                        refine wp_gd ql_K_149 ?_
                        refine wp_zI ?_
                        refine wp_ifn qf_17 ?_
                        refine wp_of (f_X13_isWrong_14.eq_1 ..) ?_
                        refine wp_gd qf_18 ?_
                        refine wp_ret_bd ?_
                        refine wp_ifn qf_19 ?_
                        refine wp_ret_bd ?_
                        refine wp_gd ql_K_149 ?_
                        refine wp_bd ?_
                        refine wp_of (f_X13_thrown.eq_1 ..) ?_
                        refine wp_gd ql_K_149 ?_
                        refine wp_lt gI_s ?_
                        refine wp_ret_bd ?_
                        refine wp_ifp qf_20 ?_
                        refine wp_ifn qf_19 ?_
                        refine wp_of (f_L_law_421.eq_1 ..) ?_
                        refine wp_of (f_L_law_3632.eq_1 ..) ?_
                        refine wp_lt qf_21 ?_
                        exact hrc _
end CASES0
