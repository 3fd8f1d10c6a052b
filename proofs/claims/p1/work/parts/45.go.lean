section GO28
set_option maxRecDepth 100000 in
set_option maxHeartbeats 4000000 in
theorem cs_28 {xs : Nat → Int32} {rc : mS → Nat → Nat → Nat → Nat → Int32 → Option (Rs Int32)} {Q : Rs Int32 → Prop} (hrc : ∀ S, WP Q (rc S 1 149 173 174 8)) : WP Q (f_L_law_2231 8 xs rc (M3I, M3L, M3R, M3D, M3K, M3Z, 174) 1 149 173 174 0) := by
  obtain ⟨y1, hy1⟩ : ∃ y, xs 1 = y := ⟨_, rfl⟩
  refine wp_of (f_L_law_2231.eq_1 ..) ?_
  refine wp_gd qf_0 ?_
  refine wp_lt (xsk qf_1 hy1) ?_
  refine wp_bd ?_
  refine wp_of (f_L_go.eq_1 ..) ?_
  refine wp_gd ql_K_1 ?_
  refine wp_bdc ?_
  refine wp_of (f_X10_go.eq_1 ..) ?_
  refine wp_bd ?_
  refine wp_of (f_X10_isIn.eq_1 ..) ?_
  refine wp_if (fun c1 => ?_) (fun c1 => ?_)
  · skip
    refine wp_of (f_X10_isIn_14.eq_1 ..) ?_
    refine wp_of (f_X10_isIn_15.eq_1 ..) ?_
    refine wp_gd qf_14 ?_
    refine wp_ret_bd ?_
    refine wp_bd ?_
    refine wp_of (f_X10_demand.eq_1 ..) ?_
    refine wp_ifp qf_15 ?_
    refine wp_rs_bd ?_
    refine wp_rs_bdc ?_
    refine wp_ifp qf_16 ?_
    refine wp_ret_bd ?_
    refine wp_gd qf_0 ?_
    refine wp_lt (xsk qf_1 hy1) ?_
    refine wp_gd ql_K_149 ?_
    refine wp_bd ?_
    refine wp_of (f_X13_go.eq_1 ..) ?_
    refine wp_bd ?_
    refine wp_of (f_X13_isBetween.eq_1 ..) ?_
    refine wp_ifp c1 ?_
    refine wp_of (f_X13_isBetween_14.eq_1 ..) ?_
    refine wp_of (f_X13_isBetween_15.eq_1 ..) ?_
    refine wp_gd qf_14 ?_
    refine wp_ret_bd ?_
    refine wp_ifp qf_15 ?_
    refine wp_of (f_X13_go_17.eq_1 ..) ?_
    refine wp_gd ql_K_149 ?_
    refine wp_bd ?_
    refine wp_of (f_X13_isWrong.eq_1 ..) ?_
    refine wp_gd ql_K_149 ?_
    refine wp_zI ?_
    refine wp_ifn qf_17 ?_
    refine wp_of (f_X13_isWrong_14.eq_1 ..) ?_
    refine wp_gd qf_18 ?_
    refine wp_ret_bd ?_
    refine wp_ifn qf_19 ?_
    refine wp_ret_bd ?_
    refine wp_gd ql_K_149 ?_
    refine wp_bd ?_
    refine wp_of (f_X13_thrown.eq_1 ..) ?_
    refine wp_gd ql_K_149 ?_
    refine wp_lt gI_s ?_
    refine wp_ret_bd ?_
    refine wp_ifp qf_20 ?_
    refine wp_ifn qf_19 ?_
    refine wp_of (f_L_law_2284.eq_1 ..) ?_
    refine wp_of (f_L_law_3632.eq_1 ..) ?_
    refine wp_lt qf_21 ?_
    exact hrc _
  · skip
    refine wp_if (fun c2 => ?_) (fun c2 => ?_)
    · skip
      refine wp_of (f_X10_isIn_14.eq_1 ..) ?_
      refine wp_of (f_X10_isIn_15.eq_1 ..) ?_
      refine wp_gd qf_14 ?_
      refine wp_ret_bd ?_
      refine wp_bd ?_
      refine wp_of (f_X10_demand.eq_1 ..) ?_
      refine wp_ifp qf_15 ?_
      refine wp_rs_bd ?_
      refine wp_rs_bdc ?_
      refine wp_ifp qf_16 ?_
      refine wp_ret_bd ?_
      refine wp_gd qf_0 ?_
      refine wp_lt (xsk qf_1 hy1) ?_
      refine wp_gd ql_K_149 ?_
      refine wp_bd ?_
      refine wp_of (f_X13_go.eq_1 ..) ?_
      refine wp_bd ?_
      refine wp_of (f_X13_isBetween.eq_1 ..) ?_
      refine wp_ifn c1 ?_
      refine wp_ifp c2 ?_
      refine wp_of (f_X13_isBetween_14.eq_1 ..) ?_
      refine wp_of (f_X13_isBetween_15.eq_1 ..) ?_
      refine wp_gd qf_14 ?_
      refine wp_ret_bd ?_
      refine wp_ifp qf_15 ?_
      refine wp_of (f_X13_go_17.eq_1 ..) ?_
      refine wp_gd ql_K_149 ?_
      refine wp_bd ?_
      refine wp_of (f_X13_isWrong.eq_1 ..) ?_
      refine wp_gd ql_K_149 ?_
      refine wp_zI ?_
      refine wp_ifn qf_17 ?_
      refine wp_of (f_X13_isWrong_14.eq_1 ..) ?_
      refine wp_gd qf_18 ?_
      refine wp_ret_bd ?_
      refine wp_ifn qf_19 ?_
      refine wp_ret_bd ?_
      refine wp_gd ql_K_149 ?_
      refine wp_bd ?_
      refine wp_of (f_X13_thrown.eq_1 ..) ?_
      refine wp_gd ql_K_149 ?_
      refine wp_lt gI_s ?_
      refine wp_ret_bd ?_
      refine wp_ifp qf_20 ?_
      refine wp_ifn qf_19 ?_
      refine wp_of (f_L_law_2284.eq_1 ..) ?_
      refine wp_of (f_L_law_3632.eq_1 ..) ?_
      refine wp_lt qf_21 ?_
      exact hrc _
    · skip
      refine wp_of (f_X10_isIn_15.eq_1 ..) ?_
      refine wp_gd qf_18 ?_
      refine wp_ret_bd ?_
      refine wp_bd ?_
      refine wp_of (f_X10_demand.eq_1 ..) ?_
      refine wp_ifn qf_19 ?_
      refine wp_ret_bd ?_
      refine wp_gd ql_K_1 ?_
      refine wp_lt ql_R_1_2 ?_
      refine wp_gd ql_K_106 ?_
      refine wp_bd ?_
      refine wp_of (f_X6_note.eq_1 ..) ?_
      refine wp_gd ql_K_106 ?_
      refine wp_bd ?_
      refine wp_of (f_X6_open.eq_1 ..) ?_
      refine wp_gd ql_K_106 ?_
      refine wp_lt ql_I_106_2 ?_
      refine wp_lt qf_25 ?_
      refine wp_zI ?_
      refine wp_lt (Eq.trans (gI_b rfl) ql_I_106_2) ?_
      refine wp_ifn qf_26 ?_
      refine wp_lt (Eq.trans (gI_b rfl) ql_I_106_2) ?_
      refine wp_lt qf_27 ?_
      refine wp_zI ?_
      refine wp_of (f_X6_open_31.eq_1 ..) ?_
      refine wp_gd ql_K_106 ?_
      refine wp_bd ?_
      refine wp_of (f_X6_put.eq_1 ..) ?_
      refine wp_gd ql_K_106 ?_
      refine wp_lt (Eq.trans (gI_b rfl) gI_s) ?_
      refine wp_ifn qf_28 ?_
      refine wp_lt (Eq.trans (gI_b rfl) gI_s) ?_
      refine wp_lt ql_R_106_0 ?_
      refine wp_gd ql_K_107 ?_
      refine wp_lt (gZo ql_Z_107 qf_29) ?_
      refine wp_ifn qf_30 ?_
      refine wp_lt ql_R_106_0 ?_
      refine wp_lt (Eq.trans (gI_b rfl) gI_s) ?_
      refine wp_gd ql_K_107 ?_
      refine wp_gd (gZi ql_Z_107 qf_31) ?_
      refine wp_zIk qf_32 ?_
      refine wp_lt (Eq.trans (gI_a rfl) (Eq.trans (gI_b rfl) gI_s)) ?_
      refine wp_lt qf_27 ?_
      refine wp_zI ?_
      refine wp_of (f_X6_put_39.eq_1 ..) ?_
      refine wp_ret_bd ?_
      refine wp_ret_bd ?_
      refine wp_gd ql_K_106 ?_
      refine wp_bd ?_
      refine wp_of (f_X6_put.eq_1 ..) ?_
      refine wp_gd ql_K_106 ?_
      refine wp_lt gI_s ?_
      refine wp_ifn qf_33 ?_
      refine wp_lt gI_s ?_
      refine wp_lt ql_R_106_0 ?_
      refine wp_gd ql_K_107 ?_
      refine wp_lt (gZo ql_Z_107 qf_29) ?_
      refine wp_ifn qf_34 ?_
      refine wp_lt ql_R_106_0 ?_
      refine wp_lt gI_s ?_
      refine wp_gd ql_K_107 ?_
      refine wp_gd (gZi ql_Z_107 qf_35) ?_
      refine wp_zIk qf_36 ?_
      refine wp_lt (Eq.trans (gI_a rfl) gI_s) ?_
      refine wp_lt qf_37 ?_
      refine wp_zI ?_
      refine wp_of (f_X6_put_39.eq_1 ..) ?_
      refine wp_ret_bd ?_
      refine wp_gd ql_K_106 ?_
      refine wp_bd ?_
      refine wp_of (f_X6_put.eq_1 ..) ?_
      refine wp_gd ql_K_106 ?_
      refine wp_lt gI_s ?_
      refine wp_ifn qf_38 ?_
      refine wp_lt gI_s ?_
      refine wp_lt ql_R_106_0 ?_
      refine wp_gd ql_K_107 ?_
      refine wp_lt (gZo ql_Z_107 qf_29) ?_
      refine wp_ifn qf_39 ?_
      refine wp_lt ql_R_106_0 ?_
      refine wp_lt gI_s ?_
      refine wp_gd ql_K_107 ?_
      refine wp_gd (gZi ql_Z_107 qf_40) ?_
      refine wp_zIk qf_41 ?_
      refine wp_lt (Eq.trans (gI_a rfl) gI_s) ?_
      refine wp_lt qf_42 ?_
      refine wp_zI ?_
      refine wp_of (f_X6_put_39.eq_1 ..) ?_
      refine wp_ret_bd ?_
      refine wp_gd ql_K_106 ?_
      refine wp_bd ?_
      refine wp_of (f_X6_put.eq_1 ..) ?_
      refine wp_gd ql_K_106 ?_
      refine wp_lt gI_s ?_
      refine wp_ifn qf_43 ?_
      refine wp_lt gI_s ?_
      refine wp_lt ql_R_106_0 ?_
      refine wp_gd ql_K_107 ?_
      refine wp_lt (gZo ql_Z_107 qf_29) ?_
      refine wp_ifn qf_44 ?_
      refine wp_lt ql_R_106_0 ?_
      refine wp_lt gI_s ?_
      refine wp_gd ql_K_107 ?_
      refine wp_gd (gZi ql_Z_107 qf_45) ?_
      refine wp_zIk qf_46 ?_
      refine wp_lt (Eq.trans (gI_a rfl) gI_s) ?_
      refine wp_lt qf_47 ?_
      refine wp_zI ?_
      refine wp_of (f_X6_put_39.eq_1 ..) ?_
      refine wp_ret_bd ?_
      refine wp_ret_bd ?_
      refine wp_gd ql_K_1 ?_
      refine wp_lt ql_R_1_0 ?_
      refine wp_gd ql_K_2 ?_
      refine wp_bd ?_
      refine wp_of (f_X8_run.eq_1 ..) ?_
      refine wp_gd ql_K_2 ?_
      refine wp_lt (Eq.trans (gI_a rfl) (Eq.trans (gI_a rfl) (Eq.trans (gI_a rfl) (Eq.trans (gI_a rfl) (Eq.trans (gI_a rfl) (Eq.trans (gI_a rfl) (Eq.trans (gI_a rfl) (Eq.trans (gI_a rfl) (Eq.trans (gI_a rfl) (Eq.trans (gI_a rfl) ql_I_2_8)))))))))) ?_
      refine c_go c1 c2 ⟨(ag_p2 rfl (ag_p2 rfl (ag_p2 rfl (ag_p2 rfl (ag_p2 rfl (ag_p2 rfl (ag_p2 rfl (ag_p2 rfl (ag_p2 rfl (ag_p2 rfl ag_refl)))))))))), ag_refl, (Eq.trans (gI_a rfl) (Eq.trans (gI_a rfl) (Eq.trans (gI_a rfl) (Eq.trans (gI_a rfl) (Eq.trans (gI_a rfl) (Eq.trans (gI_a rfl) (Eq.trans (gI_a rfl) (Eq.trans (gI_a rfl) (Eq.trans (gI_a rfl) (Eq.trans (gI_a rfl) ql_I_2_7)))))))))), (Eq.trans (gI_a rfl) (Eq.trans (gI_a rfl) (Eq.trans (gI_a rfl) (Eq.trans (gI_a rfl) (Eq.trans (gI_a rfl) (Eq.trans (gI_a rfl) (Eq.trans (gI_a rfl) (Eq.trans (gI_a rfl) (Eq.trans (gI_a rfl) (Eq.trans (gI_a rfl) ql_I_2_8)))))))))), (Eq.trans (gI_a rfl) (Eq.trans (gI_a rfl) (Eq.trans (gI_a rfl) (Eq.trans (gI_a rfl) (Eq.trans (gI_a rfl) (Eq.trans (gI_a rfl) (Eq.trans (gI_a rfl) (Eq.trans (gI_a rfl) (Eq.trans (gI_a rfl) (Eq.trans (gI_a rfl) ql_I_50_0)))))))))), (Eq.trans (gI_a rfl) (Eq.trans (gI_a rfl) (Eq.trans (gI_a rfl) (Eq.trans (gI_a rfl) (Eq.trans (gI_a rfl) (Eq.trans (gI_a rfl) (Eq.trans (gI_a rfl) (Eq.trans (gI_a rfl) (Eq.trans (gI_a rfl) (Eq.trans (gI_a rfl) ql_I_50_1)))))))))), (Eq.trans (gI_a rfl) (Eq.trans (gI_a rfl) (Eq.trans (gI_a rfl) (Eq.trans (gI_a rfl) (Eq.trans (gI_a rfl) (Eq.trans (gI_a rfl) (Eq.trans (gI_a rfl) (Eq.trans (gI_a rfl) (Eq.trans (gI_a rfl) (Eq.trans (gI_a rfl) ql_I_50_2)))))))))), (Eq.trans (gI_a rfl) (Eq.trans (gI_a rfl) (Eq.trans (gI_a rfl) (Eq.trans (gI_a rfl) (Eq.trans (gI_a rfl) (Eq.trans (gI_a rfl) (Eq.trans (gI_a rfl) (Eq.trans (gI_a rfl) (Eq.trans (gI_a rfl) (Eq.trans (gI_a rfl) ql_I_50_3)))))))))), (Eq.trans (gI_a rfl) (Eq.trans (gI_a rfl) (Eq.trans (gI_a rfl) (Eq.trans (gI_a rfl) (Eq.trans (gI_a rfl) (Eq.trans (gI_a rfl) (Eq.trans (gI_a rfl) (Eq.trans (gI_a rfl) (Eq.trans (gI_a rfl) (Eq.trans (gI_a rfl) ql_I_50_4)))))))))), (Eq.trans (gI_a rfl) (Eq.trans (gI_a rfl) (Eq.trans (gI_a rfl) (Eq.trans (gI_a rfl) (Eq.trans (gI_a rfl) (Eq.trans (gI_a rfl) (Eq.trans (gI_a rfl) (Eq.trans (gI_a rfl) (Eq.trans (gI_a rfl) (Eq.trans (gI_a rfl) ql_I_50_5))))))))))⟩ (fun I1 L1 hI1 hL1 => ?_)
      refine wp_ret_bdc ?_
      refine wp_ltr ?_
      refine wp_gd ql_K_173 ?_
      refine wp_gd (gZi ql_Z_173 qf_71) ?_
      refine wp_zLk qf_32 ?_
      refine wp_ret_bd ?_
      refine wp_gd qf_0 ?_
      refine wp_lt (xsk qf_1 hy1) ?_
      refine wp_gd ql_K_149 ?_
      refine wp_bd ?_
      refine wp_of (f_X13_go.eq_1 ..) ?_
      refine wp_bd ?_
      refine wp_of (f_X13_isBetween.eq_1 ..) ?_
      refine wp_ifn c1 ?_
      refine wp_ifn c2 ?_
      refine wp_of (f_X13_isBetween_15.eq_1 ..) ?_
      refine wp_gd qf_18 ?_
      refine wp_ret_bd ?_
      refine wp_ifn qf_19 ?_
      refine wp_of (f_X13_go_17.eq_1 ..) ?_
      refine wp_gd ql_K_149 ?_
      refine wp_bd ?_
      refine wp_of (f_X13_isWrong.eq_1 ..) ?_
      refine wp_gd ql_K_149 ?_
      refine wp_zI ?_
      refine wp_ifp qf_73 ?_
      refine wp_of (f_X13_isWrong_14.eq_1 ..) ?_
      refine wp_gd qf_14 ?_
      refine wp_ret_bd ?_
      refine wp_ifp qf_15 ?_
      refine wp_gd ql_K_149 ?_
      refine wp_lt (Eq.trans (gI_b rfl) (agI hI1 rfl ql_I_149_11)) ?_
      refine r_go c1 c2 ⟨(ag_p2s (lkI ql_I_149_0) (ag_sub okRC hI1)), (ag_p2 rfl (ag_sub okHT hL1)), ag_refl, ak_refl, ak_refl, gL_s, (Eq.trans (gI_b rfl) (agI hI1 rfl ql_I_149_9)), (Eq.trans (gI_b rfl) (agI hI1 rfl ql_I_149_11)), (Eq.trans (gI_a rfl) (agI hI1 rfl ql_I_168_0)), (Eq.trans (gI_a rfl) (agI hI1 rfl ql_I_168_1)), (Eq.trans (gI_a rfl) (agI hI1 rfl ql_I_168_2)), (Eq.trans (gI_a rfl) (agI hI1 rfl ql_I_168_3)), (Eq.trans (gI_a rfl) (agI hI1 rfl ql_I_168_4)), (Eq.trans (gI_a rfl) (agI hI1 rfl ql_I_168_5))⟩ (fun I2 L2 R2 D2 K2 Z2 N2 hI2 hL2 hR2 hK2 hZ2 hw2 => ?_)
      refine wp_gd (agK hK2 rfl ql_K_149) ?_
      refine wp_bd ?_
      refine wp_of (f_X13_thrown.eq_1 ..) ?_
      refine wp_gd (agK hK2 rfl ql_K_149) ?_
      refine wp_lt (agI hI2 rfl ql_I_149_0) ?_
      refine wp_ret_bd ?_
      refine wp_ifp qf_15 ?_
      refine wp_ifp qf_15 ?_
      refine wp_gd (agK hK2 rfl ql_K_173) ?_
      refine wp_gd (gZi (agZ hZ2 rfl ql_Z_173) qf_71) ?_
      refine wp_lt (gLk qf_32 hw2) ?_
      refine wp_ltr ?_
      refine wp_ltr ?_
      refine wp_ifp lg_self ?_
      refine wp_of (f_L_law_2284.eq_1 ..) ?_
      refine wp_of (f_L_law_3632.eq_1 ..) ?_
      refine wp_lt qf_21 ?_
      exact hrc _
end GO28
