section TICKS
set_option maxRecDepth 100000 in
set_option maxHeartbeats 4000000 in
theorem c_tick {Q : Rs Int32 → Prop} {kk : Nat} {a1 a3 t u g : Int32} {I : List (List Int32)} {L : List (List Int64)} (hk : ¬ a1 ≤ a3) (hj : ((t + (1 : Int32)) - (1 : Int32)) / (360000 : Int32) = (0 : Int32)) (hc : CI t u g I L) (hrc : ∀ (t9 u9 g9 : Int32) (I9 : List (List Int32)) (L9 : List (List Int64)), t9 = t + (1 : Int32) → u9 = u + (1 : Int32) → CI t9 u9 g9 I9 L9 → WP Q (f_X8_run_7 kk (I9, L9, M3R, M3D, M3K, M3Z, 174) 2 a1 0 (a3 + Int32.ofInt (1)))) : WP Q (f_X8_run_7 (kk + 1) (I, L, M3R, M3D, M3K, M3Z, 174) 2 a1 0 a3) := by
  obtain ⟨hI, hL, ht, hu, hg0, hg1, hg2, hg3, hg4, hg5⟩ := hc
  refine wp_of (f_X8_run_7.eq_2 ..) ?_
  refine wp_ifn hk ?_
  refine wp_gd ql_K_2 ?_
  refine wp_bd ?_
  refine wp_of (f_X8_advanceDecks.eq_1 ..) ?_
  refine wp_of (f_X8_advanceDecks_2.eq_2 ..) ?_
  refine wp_gd ql_K_2 ?_
  refine wp_lt ql_R_2_1 ?_
  refine wp_gd ql_K_16 ?_
  refine wp_lt (gZo ql_Z_16 qf_92) ?_
  refine wp_ifn qf_298 ?_
  refine wp_lt ql_R_2_1 ?_
  refine wp_gd ql_K_16 ?_
  refine wp_gd (gZi ql_Z_16 qf_97) ?_
  refine wp_lt (gRk qf_32 ql_R_16_0) ?_
  refine wp_gd ql_K_17 ?_
  refine wp_bd ?_
  refine wp_of (f_X1_advance.eq_1 ..) ?_
  refine wp_gd ql_K_17 ?_
  refine wp_lt (agI hI rfl ql_I_17_5) ?_
  refine wp_ifp qf_15 ?_
  refine wp_of (f_X1_advance_14.eq_1 ..) ?_
  refine wp_ret_bd ?_
  refine wp_lt qf_153 ?_
  refine wp_of (f_X8_advanceDecks_2.eq_2 ..) ?_
  refine wp_gd ql_K_2 ?_
  refine wp_lt ql_R_2_1 ?_
  refine wp_gd ql_K_16 ?_
  refine wp_lt (gZo ql_Z_16 qf_92) ?_
  refine wp_ifn qf_299 ?_
  refine wp_lt ql_R_2_1 ?_
  refine wp_gd ql_K_16 ?_
  refine wp_gd (gZi ql_Z_16 qf_99) ?_
  refine wp_lt (gRk qf_36 ql_R_16_1) ?_
  refine wp_gd ql_K_25 ?_
  refine wp_bd ?_
  refine wp_of (f_X1_advance.eq_1 ..) ?_
  refine wp_gd ql_K_25 ?_
  refine wp_lt (agI hI rfl ql_I_25_5) ?_
  refine wp_ifp qf_15 ?_
  refine wp_of (f_X1_advance_14.eq_1 ..) ?_
  refine wp_ret_bd ?_
  refine wp_lt qf_164 ?_
  refine wp_of (f_X8_advanceDecks_2.eq_2 ..) ?_
  refine wp_gd ql_K_2 ?_
  refine wp_lt ql_R_2_1 ?_
  refine wp_gd ql_K_16 ?_
  refine wp_lt (gZo ql_Z_16 qf_92) ?_
  refine wp_ifn qf_300 ?_
  refine wp_lt ql_R_2_1 ?_
  refine wp_gd ql_K_16 ?_
  refine wp_gd (gZi ql_Z_16 qf_102) ?_
  refine wp_lt (gRk qf_41 ql_R_16_2) ?_
  refine wp_gd ql_K_33 ?_
  refine wp_bd ?_
  refine wp_of (f_X1_advance.eq_1 ..) ?_
  refine wp_gd ql_K_33 ?_
  refine wp_lt (agI hI rfl ql_I_33_5) ?_
  refine wp_ifp qf_15 ?_
  refine wp_of (f_X1_advance_14.eq_1 ..) ?_
  refine wp_ret_bd ?_
  refine wp_lt qf_177 ?_
  refine wp_of (f_X8_advanceDecks_2.eq_2 ..) ?_
  refine wp_gd ql_K_2 ?_
  refine wp_lt ql_R_2_1 ?_
  refine wp_gd ql_K_16 ?_
  refine wp_lt (gZo ql_Z_16 qf_92) ?_
  refine wp_ifn qf_301 ?_
  refine wp_lt ql_R_2_1 ?_
  refine wp_gd ql_K_16 ?_
  refine wp_gd (gZi ql_Z_16 qf_105) ?_
  refine wp_lt (gRk qf_46 ql_R_16_3) ?_
  refine wp_gd ql_K_41 ?_
  refine wp_bd ?_
  refine wp_of (f_X1_advance.eq_1 ..) ?_
  refine wp_gd ql_K_41 ?_
  refine wp_lt (agI hI rfl ql_I_41_5) ?_
  refine wp_ifp qf_15 ?_
  refine wp_of (f_X1_advance_14.eq_1 ..) ?_
  refine wp_ret_bd ?_
  refine wp_lt qf_227 ?_
  refine wp_of (f_X8_advanceDecks_2.eq_2 ..) ?_
  refine wp_gd ql_K_2 ?_
  refine wp_lt ql_R_2_1 ?_
  refine wp_gd ql_K_16 ?_
  refine wp_lt (gZo ql_Z_16 qf_92) ?_
  refine wp_ifp qf_302 ?_
  refine wp_ret_bd ?_
  refine wp_gd ql_K_2 ?_
  refine wp_lt ht ?_
  refine wp_ltr ?_
  refine wp_zI ?_
  refine wp_bd ?_
  refine wp_of (f_X8_mixDecks.eq_1 ..) ?_
  refine wp_of (f_X8_mixDecks_4.eq_2 ..) ?_
  refine wp_gd ql_K_2 ?_
  refine wp_lt ql_R_2_1 ?_
  refine wp_gd ql_K_16 ?_
  refine wp_lt (gZo ql_Z_16 qf_92) ?_
  refine wp_ifn qf_298 ?_
  refine wp_lt ql_R_2_1 ?_
  refine wp_gd ql_K_16 ?_
  refine wp_gd (gZi ql_Z_16 qf_97) ?_
  refine wp_lt (gRk qf_32 ql_R_16_0) ?_
  refine wp_lt (Eq.trans (gI_b rfl) (agI hI rfl ql_I_2_5)) ?_
  refine wp_gd ql_K_17 ?_
  refine wp_bd ?_
  refine wp_of (f_X1_levelAt.eq_1 ..) ?_
  refine wp_gd ql_K_17 ?_
  refine wp_lt (Eq.trans (gI_a rfl) (agI hI rfl ql_I_17_5)) ?_
  refine wp_ifp qf_15 ?_
  refine wp_of (f_X1_levelAt_19.eq_1 ..) ?_
  refine wp_ret_bd ?_
  refine wp_gd ql_K_17 ?_
  refine wp_bd ?_
  refine wp_of (f_X1_loudnessAt.eq_1 ..) ?_
  refine wp_gd ql_K_17 ?_
  refine wp_lt ql_R_17_2 ?_
  refine wp_ifp qf_87 ?_
  refine wp_of (f_X1_loudnessAt_34.eq_1 ..) ?_
  refine wp_ret_bd ?_
  refine wp_gd ql_K_17 ?_
  refine wp_lt ql_R_17_0 ?_
  refine wp_lt (agL hL rfl ql_L_17_3) ?_
  refine wp_gd ql_K_18 ?_
  refine wp_bd ?_
  refine wp_of (f_X0_soundOf.eq_1 ..) ?_
  refine wp_of (f_X0_soundOf_9.eq_2 ..) ?_
  refine wp_gd ql_K_18 ?_
  refine wp_lt (Eq.trans (gI_a rfl) (agI hI rfl ql_I_18_2)) ?_
  refine wp_ifp qf_73 ?_
  refine wp_of (f_X0_soundOf_77.eq_1 ..) ?_
  refine wp_gd qf_387 ?_
  refine wp_lt qf_388 ?_
  refine wp_lt qf_389 ?_
  refine wp_ifp qf_208 ?_
  refine wp_of (f_X0_soundOf_94.eq_1 ..) ?_
  refine wp_ifp qf_15 ?_
  refine wp_of (f_X0_soundOf_111.eq_1 ..) ?_
  refine wp_lt qf_242 ?_
  refine wp_of (f_X0_soundOf_115.eq_1 ..) ?_
  refine wp_ret_bd ?_
  refine wp_lt qf_242 ?_
  refine wp_lt qf_153 ?_
  refine wp_of (f_X8_mixDecks_4.eq_2 ..) ?_
  refine wp_gd ql_K_2 ?_
  refine wp_lt ql_R_2_1 ?_
  refine wp_gd ql_K_16 ?_
  refine wp_lt (gZo ql_Z_16 qf_92) ?_
  refine wp_ifn qf_299 ?_
  refine wp_lt ql_R_2_1 ?_
  refine wp_gd ql_K_16 ?_
  refine wp_gd (gZi ql_Z_16 qf_99) ?_
  refine wp_lt (gRk qf_36 ql_R_16_1) ?_
  refine wp_lt (Eq.trans (gI_b rfl) (agI hI rfl ql_I_2_5)) ?_
  refine wp_gd ql_K_25 ?_
  refine wp_bd ?_
  refine wp_of (f_X1_levelAt.eq_1 ..) ?_
  refine wp_gd ql_K_25 ?_
  refine wp_lt (Eq.trans (gI_a rfl) (agI hI rfl ql_I_25_5)) ?_
  refine wp_ifp qf_15 ?_
  refine wp_of (f_X1_levelAt_19.eq_1 ..) ?_
  refine wp_ret_bd ?_
  refine wp_gd ql_K_25 ?_
  refine wp_bd ?_
  refine wp_of (f_X1_loudnessAt.eq_1 ..) ?_
  refine wp_gd ql_K_25 ?_
  refine wp_lt ql_R_25_2 ?_
  refine wp_ifp qf_87 ?_
  refine wp_of (f_X1_loudnessAt_34.eq_1 ..) ?_
  refine wp_ret_bd ?_
  refine wp_gd ql_K_25 ?_
  refine wp_lt ql_R_25_0 ?_
  refine wp_lt (agL hL rfl ql_L_25_3) ?_
  refine wp_gd ql_K_26 ?_
  refine wp_bd ?_
  refine wp_of (f_X0_soundOf.eq_1 ..) ?_
  refine wp_of (f_X0_soundOf_9.eq_2 ..) ?_
  refine wp_gd ql_K_26 ?_
  refine wp_lt (Eq.trans (gI_a rfl) (agI hI rfl ql_I_26_2)) ?_
  refine wp_ifp qf_73 ?_
  refine wp_of (f_X0_soundOf_77.eq_1 ..) ?_
  refine wp_gd qf_387 ?_
  refine wp_lt qf_388 ?_
  refine wp_lt qf_389 ?_
  refine wp_ifp qf_208 ?_
  refine wp_of (f_X0_soundOf_94.eq_1 ..) ?_
  refine wp_ifp qf_15 ?_
  refine wp_of (f_X0_soundOf_111.eq_1 ..) ?_
  refine wp_lt qf_242 ?_
  refine wp_of (f_X0_soundOf_115.eq_1 ..) ?_
  refine wp_ret_bd ?_
  refine wp_lt qf_242 ?_
  refine wp_lt qf_164 ?_
  refine wp_of (f_X8_mixDecks_4.eq_2 ..) ?_
  refine wp_gd ql_K_2 ?_
  refine wp_lt ql_R_2_1 ?_
  refine wp_gd ql_K_16 ?_
  refine wp_lt (gZo ql_Z_16 qf_92) ?_
  refine wp_ifn qf_300 ?_
  refine wp_lt ql_R_2_1 ?_
  refine wp_gd ql_K_16 ?_
  refine wp_gd (gZi ql_Z_16 qf_102) ?_
  refine wp_lt (gRk qf_41 ql_R_16_2) ?_
  refine wp_lt (Eq.trans (gI_b rfl) (agI hI rfl ql_I_2_5)) ?_
  refine wp_gd ql_K_33 ?_
  refine wp_bd ?_
  refine wp_of (f_X1_levelAt.eq_1 ..) ?_
  refine wp_gd ql_K_33 ?_
  refine wp_lt (Eq.trans (gI_a rfl) (agI hI rfl ql_I_33_5)) ?_
  refine wp_ifp qf_15 ?_
  refine wp_of (f_X1_levelAt_19.eq_1 ..) ?_
  refine wp_ret_bd ?_
  refine wp_gd ql_K_33 ?_
  refine wp_bd ?_
  refine wp_of (f_X1_loudnessAt.eq_1 ..) ?_
  refine wp_gd ql_K_33 ?_
  refine wp_lt ql_R_33_2 ?_
  refine wp_ifp qf_87 ?_
  refine wp_of (f_X1_loudnessAt_34.eq_1 ..) ?_
  refine wp_ret_bd ?_
  refine wp_gd ql_K_33 ?_
  refine wp_lt ql_R_33_0 ?_
  refine wp_lt (agL hL rfl ql_L_33_3) ?_
  refine wp_gd ql_K_34 ?_
  refine wp_bd ?_
  refine wp_of (f_X0_soundOf.eq_1 ..) ?_
  refine wp_of (f_X0_soundOf_9.eq_2 ..) ?_
  refine wp_gd ql_K_34 ?_
  refine wp_lt (Eq.trans (gI_a rfl) (agI hI rfl ql_I_34_2)) ?_
  refine wp_ifp qf_73 ?_
  refine wp_of (f_X0_soundOf_77.eq_1 ..) ?_
  refine wp_gd qf_387 ?_
  refine wp_lt qf_388 ?_
  refine wp_lt qf_389 ?_
  refine wp_ifp qf_208 ?_
  refine wp_of (f_X0_soundOf_94.eq_1 ..) ?_
  refine wp_ifp qf_15 ?_
  refine wp_of (f_X0_soundOf_111.eq_1 ..) ?_
  refine wp_lt qf_242 ?_
  refine wp_of (f_X0_soundOf_115.eq_1 ..) ?_
  refine wp_ret_bd ?_
  refine wp_lt qf_242 ?_
  refine wp_lt qf_177 ?_
  refine wp_of (f_X8_mixDecks_4.eq_2 ..) ?_
  refine wp_gd ql_K_2 ?_
  refine wp_lt ql_R_2_1 ?_
  refine wp_gd ql_K_16 ?_
  refine wp_lt (gZo ql_Z_16 qf_92) ?_
  refine wp_ifn qf_301 ?_
  refine wp_lt ql_R_2_1 ?_
  refine wp_gd ql_K_16 ?_
  refine wp_gd (gZi ql_Z_16 qf_105) ?_
  refine wp_lt (gRk qf_46 ql_R_16_3) ?_
  refine wp_lt (Eq.trans (gI_b rfl) (agI hI rfl ql_I_2_5)) ?_
  refine wp_gd ql_K_41 ?_
  refine wp_bd ?_
  refine wp_of (f_X1_levelAt.eq_1 ..) ?_
  refine wp_gd ql_K_41 ?_
  refine wp_lt (Eq.trans (gI_a rfl) (agI hI rfl ql_I_41_5)) ?_
  refine wp_ifp qf_15 ?_
  refine wp_of (f_X1_levelAt_19.eq_1 ..) ?_
  refine wp_ret_bd ?_
  refine wp_gd ql_K_41 ?_
  refine wp_bd ?_
  refine wp_of (f_X1_loudnessAt.eq_1 ..) ?_
  refine wp_gd ql_K_41 ?_
  refine wp_lt ql_R_41_2 ?_
  refine wp_ifp qf_87 ?_
  refine wp_of (f_X1_loudnessAt_34.eq_1 ..) ?_
  refine wp_ret_bd ?_
  refine wp_gd ql_K_41 ?_
  refine wp_lt ql_R_41_0 ?_
  refine wp_lt (agL hL rfl ql_L_41_3) ?_
  refine wp_gd ql_K_42 ?_
  refine wp_bd ?_
  refine wp_of (f_X0_soundOf.eq_1 ..) ?_
  refine wp_of (f_X0_soundOf_9.eq_2 ..) ?_
  refine wp_gd ql_K_42 ?_
  refine wp_lt (Eq.trans (gI_a rfl) (agI hI rfl ql_I_42_2)) ?_
  refine wp_ifp qf_73 ?_
  refine wp_of (f_X0_soundOf_77.eq_1 ..) ?_
  refine wp_gd qf_387 ?_
  refine wp_lt qf_388 ?_
  refine wp_lt qf_389 ?_
  refine wp_ifp qf_208 ?_
  refine wp_of (f_X0_soundOf_94.eq_1 ..) ?_
  refine wp_ifp qf_15 ?_
  refine wp_of (f_X0_soundOf_111.eq_1 ..) ?_
  refine wp_lt qf_242 ?_
  refine wp_of (f_X0_soundOf_115.eq_1 ..) ?_
  refine wp_ret_bd ?_
  refine wp_lt qf_242 ?_
  refine wp_lt qf_227 ?_
  refine wp_of (f_X8_mixDecks_4.eq_2 ..) ?_
  refine wp_gd ql_K_2 ?_
  refine wp_lt ql_R_2_1 ?_
  refine wp_gd ql_K_16 ?_
  refine wp_lt (gZo ql_Z_16 qf_92) ?_
  refine wp_ifp qf_302 ?_
  refine wp_lt qf_390 ?_
  refine wp_zI ?_
  refine wp_lt (agL hL rfl ql_L_2_12) ?_
  refine wp_lt gI_s ?_
  refine wp_lt qf_70 ?_
  refine wp_lt qf_391 ?_
  refine wp_zL ?_
  refine wp_lt ql_R_2_3 ?_
  refine wp_lt gI_s ?_
  refine wp_gd ql_K_52 ?_
  refine wp_bd ?_
  refine wp_of (f_X5_listen.eq_1 ..) ?_
  refine wp_gd ql_K_52 ?_
  refine wp_lt (Eq.trans (gI_a rfl) (Eq.trans (gI_a rfl) (agI hI rfl ql_I_52_2))) ?_
  refine wp_lt qf_242 ?_
  refine wp_zI ?_
  refine wp_ret_bd ?_
  refine wp_gd ql_K_2 ?_
  refine wp_lt (Eq.trans (gI_a rfl) gI_s) ?_
  refine wp_ifp qf_15 ?_
  refine wp_lt (Eq.trans (gI_a rfl) (Eq.trans (gI_b rfl) (Eq.trans (gI_b rfl) hu))) ?_
  refine wp_ltr ?_
  refine wp_zI ?_
  refine wp_of (f_X8_mixDecks_109.eq_1 ..) ?_
  refine wp_ret_bd ?_
  refine wp_gd ql_K_2 ?_
  refine wp_bd ?_
  refine wp_of (f_X8_countClashes.eq_1 ..) ?_
  refine wp_of (f_X8_countClashes_6.eq_2 ..) ?_
  refine wp_gd ql_K_2 ?_
  refine wp_lt ql_R_2_1 ?_
  refine wp_gd ql_K_16 ?_
  refine wp_lt (gZo ql_Z_16 qf_92) ?_
  refine wp_ifn qf_298 ?_
  refine wp_lt ql_R_2_1 ?_
  refine wp_gd ql_K_16 ?_
  refine wp_gd (gZi ql_Z_16 qf_97) ?_
  refine wp_lt (gRk qf_32 ql_R_16_0) ?_
  refine wp_gd ql_K_17 ?_
  refine wp_lt ql_R_17_2 ?_
  refine wp_ifp qf_87 ?_
  refine wp_of (f_X8_countClashes_111.eq_1 ..) ?_
  refine wp_lt qf_153 ?_
  refine wp_of (f_X8_countClashes_6.eq_2 ..) ?_
  refine wp_gd ql_K_2 ?_
  refine wp_lt ql_R_2_1 ?_
  refine wp_gd ql_K_16 ?_
  refine wp_lt (gZo ql_Z_16 qf_92) ?_
  refine wp_ifn qf_299 ?_
  refine wp_lt ql_R_2_1 ?_
  refine wp_gd ql_K_16 ?_
  refine wp_gd (gZi ql_Z_16 qf_99) ?_
  refine wp_lt (gRk qf_36 ql_R_16_1) ?_
  refine wp_gd ql_K_25 ?_
  refine wp_lt ql_R_25_2 ?_
  refine wp_ifp qf_87 ?_
  refine wp_of (f_X8_countClashes_111.eq_1 ..) ?_
  refine wp_lt qf_164 ?_
  refine wp_of (f_X8_countClashes_6.eq_2 ..) ?_
  refine wp_gd ql_K_2 ?_
  refine wp_lt ql_R_2_1 ?_
  refine wp_gd ql_K_16 ?_
  refine wp_lt (gZo ql_Z_16 qf_92) ?_
  refine wp_ifn qf_300 ?_
  refine wp_lt ql_R_2_1 ?_
  refine wp_gd ql_K_16 ?_
  refine wp_gd (gZi ql_Z_16 qf_102) ?_
  refine wp_lt (gRk qf_41 ql_R_16_2) ?_
  refine wp_gd ql_K_33 ?_
  refine wp_lt ql_R_33_2 ?_
  refine wp_ifp qf_87 ?_
  refine wp_of (f_X8_countClashes_111.eq_1 ..) ?_
  refine wp_lt qf_177 ?_
  refine wp_of (f_X8_countClashes_6.eq_2 ..) ?_
  refine wp_gd ql_K_2 ?_
  refine wp_lt ql_R_2_1 ?_
  refine wp_gd ql_K_16 ?_
  refine wp_lt (gZo ql_Z_16 qf_92) ?_
  refine wp_ifn qf_301 ?_
  refine wp_lt ql_R_2_1 ?_
  refine wp_gd ql_K_16 ?_
  refine wp_gd (gZi ql_Z_16 qf_105) ?_
  refine wp_lt (gRk qf_46 ql_R_16_3) ?_
  refine wp_gd ql_K_41 ?_
  refine wp_lt ql_R_41_2 ?_
  refine wp_ifp qf_87 ?_
  refine wp_of (f_X8_countClashes_111.eq_1 ..) ?_
  refine wp_lt qf_227 ?_
  refine wp_of (f_X8_countClashes_6.eq_2 ..) ?_
  refine wp_gd ql_K_2 ?_
  refine wp_lt ql_R_2_1 ?_
  refine wp_gd ql_K_16 ?_
  refine wp_lt (gZo ql_Z_16 qf_92) ?_
  refine wp_ifp qf_302 ?_
  refine wp_lt (Eq.trans (gI_b rfl) (Eq.trans (gI_a rfl) (Eq.trans (gI_b rfl) (Eq.trans (gI_b rfl) (agI hI rfl ql_I_2_9))))) ?_
  refine wp_ifp qf_392 ?_
  refine wp_of (f_X8_countClashes_132.eq_1 ..) ?_
  refine wp_lt qf_242 ?_
  refine wp_gd ql_K_2 ?_
  refine wp_zI ?_
  refine wp_gd ql_K_2 ?_
  refine wp_lt (Eq.trans (gI_b rfl) (Eq.trans (gI_b rfl) (Eq.trans (gI_a rfl) (Eq.trans (gI_b rfl) (Eq.trans (gI_b rfl) (agI hI rfl ql_I_2_10)))))) ?_
  refine wp_ifp qf_392 ?_
  refine wp_of (f_X8_countClashes_151.eq_1 ..) ?_
  refine wp_lt qf_242 ?_
  refine wp_gd ql_K_2 ?_
  refine wp_zI ?_
  refine wp_ret_bd ?_
  refine wp_gd ql_K_2 ?_
  refine wp_lt (Eq.trans (gI_b rfl) (Eq.trans (gI_b rfl) (Eq.trans (gI_b rfl) (Eq.trans (gI_a rfl) (Eq.trans (gI_b rfl) gI_s))))) ?_
  refine wp_gd qf_393 ?_
  refine wp_ltr ?_
  refine wp_if (fun c1 => ?_) (fun c1 => ?_)
  · skip
    refine wp_lt ql_R_2_2 ?_
    refine wp_lt ql_R_2_1 ?_
    refine wp_lt (Eq.trans (gI_b rfl) (Eq.trans (gI_b rfl) (Eq.trans (gI_b rfl) (Eq.trans (gI_a rfl) (Eq.trans (gI_b rfl) (Eq.trans (gI_b rfl) (agI hI rfl ql_I_2_5))))))) ?_
    refine wp_gd ql_K_49 ?_
    refine wp_bd ?_
    refine wp_of (f_X4_dance.eq_1 ..) ?_
    refine wp_of (f_X4_dance_5.eq_2 ..) ?_
    refine wp_gd ql_K_16 ?_
    refine wp_lt (gZo ql_Z_16 qf_92) ?_
    refine wp_ifn qf_298 ?_
    refine wp_gd (gZi ql_Z_16 qf_97) ?_
    refine wp_lt (gRk qf_32 ql_R_16_0) ?_
    refine wp_gd ql_K_17 ?_
    refine wp_lt ql_R_17_2 ?_
    refine wp_ifp qf_87 ?_
    refine wp_of (f_X4_dance_47.eq_1 ..) ?_
    refine wp_lt qf_153 ?_
    refine wp_of (f_X4_dance_5.eq_2 ..) ?_
    refine wp_gd ql_K_16 ?_
    refine wp_lt (gZo ql_Z_16 qf_92) ?_
    refine wp_ifn qf_299 ?_
    refine wp_gd (gZi ql_Z_16 qf_99) ?_
    refine wp_lt (gRk qf_36 ql_R_16_1) ?_
    refine wp_gd ql_K_25 ?_
    refine wp_lt ql_R_25_2 ?_
    refine wp_ifp qf_87 ?_
    refine wp_of (f_X4_dance_47.eq_1 ..) ?_
    refine wp_lt qf_164 ?_
    refine wp_of (f_X4_dance_5.eq_2 ..) ?_
    refine wp_gd ql_K_16 ?_
    refine wp_lt (gZo ql_Z_16 qf_92) ?_
    refine wp_ifn qf_300 ?_
    refine wp_gd (gZi ql_Z_16 qf_102) ?_
    refine wp_lt (gRk qf_41 ql_R_16_2) ?_
    refine wp_gd ql_K_33 ?_
    refine wp_lt ql_R_33_2 ?_
    refine wp_ifp qf_87 ?_
    refine wp_of (f_X4_dance_47.eq_1 ..) ?_
    refine wp_lt qf_177 ?_
    refine wp_of (f_X4_dance_5.eq_2 ..) ?_
    refine wp_gd ql_K_16 ?_
    refine wp_lt (gZo ql_Z_16 qf_92) ?_
    refine wp_ifn qf_301 ?_
    refine wp_gd (gZi ql_Z_16 qf_105) ?_
    refine wp_lt (gRk qf_46 ql_R_16_3) ?_
    refine wp_gd ql_K_41 ?_
    refine wp_lt ql_R_41_2 ?_
    refine wp_ifp qf_87 ?_
    refine wp_of (f_X4_dance_47.eq_1 ..) ?_
    refine wp_lt qf_227 ?_
    refine wp_of (f_X4_dance_5.eq_2 ..) ?_
    refine wp_gd ql_K_16 ?_
    refine wp_lt (gZo ql_Z_16 qf_92) ?_
    refine wp_ifp qf_302 ?_
    refine wp_of (f_X4_dance_56.eq_2 ..) ?_
    refine wp_ifn qf_215 ?_
    refine wp_bd ?_
    refine wp_of (f_X4_leastDislike.eq_1 ..) ?_
    refine wp_of (f_X4_leastDislike_7.eq_2 ..) ?_
    refine wp_gd ql_K_16 ?_
    refine wp_lt (gZo ql_Z_16 qf_92) ?_
    refine wp_ifn qf_298 ?_
    refine wp_gd (gZi ql_Z_16 qf_97) ?_
    refine wp_lt (gRk qf_32 ql_R_16_0) ?_
    refine wp_gd ql_K_17 ?_
    refine wp_lt ql_R_17_2 ?_
    refine wp_ifp qf_87 ?_
    refine wp_of (f_X4_leastDislike_76.eq_1 ..) ?_
    refine wp_lt qf_153 ?_
    refine wp_of (f_X4_leastDislike_7.eq_2 ..) ?_
    refine wp_gd ql_K_16 ?_
    refine wp_lt (gZo ql_Z_16 qf_92) ?_
    refine wp_ifn qf_299 ?_
    refine wp_gd (gZi ql_Z_16 qf_99) ?_
    refine wp_lt (gRk qf_36 ql_R_16_1) ?_
    refine wp_gd ql_K_25 ?_
    refine wp_lt ql_R_25_2 ?_
    refine wp_ifp qf_87 ?_
    refine wp_of (f_X4_leastDislike_76.eq_1 ..) ?_
    refine wp_lt qf_164 ?_
    refine wp_of (f_X4_leastDislike_7.eq_2 ..) ?_
    refine wp_gd ql_K_16 ?_
    refine wp_lt (gZo ql_Z_16 qf_92) ?_
    refine wp_ifn qf_300 ?_
    refine wp_gd (gZi ql_Z_16 qf_102) ?_
    refine wp_lt (gRk qf_41 ql_R_16_2) ?_
    refine wp_gd ql_K_33 ?_
    refine wp_lt ql_R_33_2 ?_
    refine wp_ifp qf_87 ?_
    refine wp_of (f_X4_leastDislike_76.eq_1 ..) ?_
    refine wp_lt qf_177 ?_
    refine wp_of (f_X4_leastDislike_7.eq_2 ..) ?_
    refine wp_gd ql_K_16 ?_
    refine wp_lt (gZo ql_Z_16 qf_92) ?_
    refine wp_ifn qf_301 ?_
    refine wp_gd (gZi ql_Z_16 qf_105) ?_
    refine wp_lt (gRk qf_46 ql_R_16_3) ?_
    refine wp_gd ql_K_41 ?_
    refine wp_lt ql_R_41_2 ?_
    refine wp_ifp qf_87 ?_
    refine wp_of (f_X4_leastDislike_76.eq_1 ..) ?_
    refine wp_lt qf_227 ?_
    refine wp_of (f_X4_leastDislike_7.eq_2 ..) ?_
    refine wp_gd ql_K_16 ?_
    refine wp_lt (gZo ql_Z_16 qf_92) ?_
    refine wp_ifp qf_302 ?_
    refine wp_ret_bd ?_
    refine wp_gd ql_K_49 ?_
    refine wp_bd ?_
    refine wp_of (f_X4_feel.eq_1 ..) ?_
    refine wp_ifn qf_28 ?_
    refine wp_gd ql_K_49 ?_
    refine wp_lt ql_R_49_0 ?_
    refine wp_gd ql_K_50 ?_
    refine wp_lt (gZo ql_Z_50 qf_214) ?_
    refine wp_ifn qf_215 ?_
    refine wp_lt ql_R_49_1 ?_
    refine wp_gd ql_K_51 ?_
    refine wp_lt (gZo ql_Z_51 qf_214) ?_
    refine wp_ifp qf_394 ?_
    refine wp_lt ql_R_49_0 ?_
    refine wp_gd ql_K_50 ?_
    refine wp_gd (gZi ql_Z_50 qf_216) ?_
    refine wp_lt (gIk qf_32 (Eq.trans (gI_a rfl) (Eq.trans (gI_a rfl) (Eq.trans (gI_a rfl) (Eq.trans (gI_a rfl) (Eq.trans (gI_a rfl) (Eq.trans (gI_a rfl) hg0))))))) ?_
    refine wp_lt ql_R_49_1 ?_
    refine wp_gd ql_K_51 ?_
    refine wp_gd (gZi ql_Z_51 qf_216) ?_
    refine wp_lt (gIk qf_32 (Eq.trans (gI_a rfl) (Eq.trans (gI_a rfl) (Eq.trans (gI_a rfl) (Eq.trans (gI_a rfl) (Eq.trans (gI_a rfl) (Eq.trans (gI_a rfl) (agI hI rfl ql_I_51_0)))))))) ?_
    refine wp_ifp qf_395 ?_
    refine wp_ltr ?_
    refine wp_of (f_X4_feel_102.eq_1 ..) ?_
    refine wp_ifp qf_396 ?_
    refine wp_of (f_X4_feel_115.eq_1 ..) ?_
    refine wp_gd ql_K_49 ?_
    refine wp_lt ql_R_49_0 ?_
    refine wp_ltite (fun c2 => ?_) (fun c2 => ?_)
    · skip
      refine wp_gd ql_K_50 ?_
      refine wp_gd (gZi ql_Z_50 qf_216) ?_
      refine wp_zIk qf_32 ?_
      refine wp_lt ql_R_49_1 ?_
      refine wp_gd ql_K_51 ?_
      refine wp_gd (gZi ql_Z_51 qf_216) ?_
      refine wp_zIk qf_32 ?_
      refine wp_ret_bd ?_
      refine wp_lt qf_153 ?_
      refine wp_of (f_X4_dance_56.eq_2 ..) ?_
      refine wp_ifn qf_218 ?_
      refine wp_bd ?_
      refine wp_of (f_X4_leastDislike.eq_1 ..) ?_
      refine wp_of (f_X4_leastDislike_7.eq_2 ..) ?_
      refine wp_gd ql_K_16 ?_
      refine wp_lt (gZo ql_Z_16 qf_92) ?_
      refine wp_ifn qf_298 ?_
      refine wp_gd (gZi ql_Z_16 qf_97) ?_
      refine wp_lt (gRk qf_32 ql_R_16_0) ?_
      refine wp_gd ql_K_17 ?_
      refine wp_lt ql_R_17_2 ?_
      refine wp_ifp qf_87 ?_
      refine wp_of (f_X4_leastDislike_76.eq_1 ..) ?_
      refine wp_lt qf_153 ?_
      refine wp_of (f_X4_leastDislike_7.eq_2 ..) ?_
      refine wp_gd ql_K_16 ?_
      refine wp_lt (gZo ql_Z_16 qf_92) ?_
      refine wp_ifn qf_299 ?_
      refine wp_gd (gZi ql_Z_16 qf_99) ?_
      refine wp_lt (gRk qf_36 ql_R_16_1) ?_
      refine wp_gd ql_K_25 ?_
      refine wp_lt ql_R_25_2 ?_
      refine wp_ifp qf_87 ?_
      refine wp_of (f_X4_leastDislike_76.eq_1 ..) ?_
      refine wp_lt qf_164 ?_
      refine wp_of (f_X4_leastDislike_7.eq_2 ..) ?_
      refine wp_gd ql_K_16 ?_
      refine wp_lt (gZo ql_Z_16 qf_92) ?_
      refine wp_ifn qf_300 ?_
      refine wp_gd (gZi ql_Z_16 qf_102) ?_
      refine wp_lt (gRk qf_41 ql_R_16_2) ?_
      refine wp_gd ql_K_33 ?_
      refine wp_lt ql_R_33_2 ?_
      refine wp_ifp qf_87 ?_
      refine wp_of (f_X4_leastDislike_76.eq_1 ..) ?_
      refine wp_lt qf_177 ?_
      refine wp_of (f_X4_leastDislike_7.eq_2 ..) ?_
      refine wp_gd ql_K_16 ?_
      refine wp_lt (gZo ql_Z_16 qf_92) ?_
      refine wp_ifn qf_301 ?_
      refine wp_gd (gZi ql_Z_16 qf_105) ?_
      refine wp_lt (gRk qf_46 ql_R_16_3) ?_
      refine wp_gd ql_K_41 ?_
      refine wp_lt ql_R_41_2 ?_
      refine wp_ifp qf_87 ?_
      refine wp_of (f_X4_leastDislike_76.eq_1 ..) ?_
      refine wp_lt qf_227 ?_
      refine wp_of (f_X4_leastDislike_7.eq_2 ..) ?_
      refine wp_gd ql_K_16 ?_
      refine wp_lt (gZo ql_Z_16 qf_92) ?_
      refine wp_ifp qf_302 ?_
      refine wp_ret_bd ?_
      refine wp_gd ql_K_49 ?_
      refine wp_bd ?_
      refine wp_of (f_X4_feel.eq_1 ..) ?_
      refine wp_ifn qf_33 ?_
      refine wp_gd ql_K_49 ?_
      refine wp_lt ql_R_49_0 ?_
      refine wp_gd ql_K_50 ?_
      refine wp_lt (gZo ql_Z_50 qf_214) ?_
      refine wp_ifn qf_218 ?_
      refine wp_lt ql_R_49_1 ?_
      refine wp_gd ql_K_51 ?_
      refine wp_lt (gZo ql_Z_51 qf_214) ?_
      refine wp_ifp qf_397 ?_
      refine wp_lt ql_R_49_0 ?_
      refine wp_gd ql_K_50 ?_
      refine wp_gd (gZi ql_Z_50 qf_219) ?_
      refine wp_lt (gIk qf_36 (Eq.trans (gI_a rfl) (Eq.trans (gI_b rfl) (Eq.trans (gI_a rfl) (Eq.trans (gI_a rfl) (Eq.trans (gI_a rfl) (Eq.trans (gI_a rfl) (Eq.trans (gI_a rfl) (Eq.trans (gI_a rfl) hg1))))))))) ?_
      refine wp_lt ql_R_49_1 ?_
      refine wp_gd ql_K_51 ?_
      refine wp_gd (gZi ql_Z_51 qf_219) ?_
      refine wp_lt (gIk qf_36 (Eq.trans (gI_b rfl) (Eq.trans (gI_a rfl) (Eq.trans (gI_a rfl) (Eq.trans (gI_a rfl) (Eq.trans (gI_a rfl) (Eq.trans (gI_a rfl) (Eq.trans (gI_a rfl) (Eq.trans (gI_a rfl) (agI hI rfl ql_I_51_1)))))))))) ?_
      refine wp_ifp qf_395 ?_
      refine wp_ltr ?_
      refine wp_of (f_X4_feel_102.eq_1 ..) ?_
      refine wp_ifp qf_396 ?_
      refine wp_of (f_X4_feel_115.eq_1 ..) ?_
      refine wp_gd ql_K_49 ?_
      refine wp_lt ql_R_49_0 ?_
      refine wp_lt (if_pos c2) ?_
      refine wp_gd ql_K_50 ?_
      refine wp_gd (gZi ql_Z_50 qf_219) ?_
      refine wp_zIk qf_36 ?_
      refine wp_lt ql_R_49_1 ?_
      refine wp_gd ql_K_51 ?_
      refine wp_gd (gZi ql_Z_51 qf_219) ?_
      refine wp_zIk qf_36 ?_
      refine wp_ret_bd ?_
      refine wp_lt qf_164 ?_
      refine wp_of (f_X4_dance_56.eq_2 ..) ?_
      refine wp_ifn qf_221 ?_
      refine wp_bd ?_
      refine wp_of (f_X4_leastDislike.eq_1 ..) ?_
      refine wp_of (f_X4_leastDislike_7.eq_2 ..) ?_
      refine wp_gd ql_K_16 ?_
      refine wp_lt (gZo ql_Z_16 qf_92) ?_
      refine wp_ifn qf_298 ?_
      refine wp_gd (gZi ql_Z_16 qf_97) ?_
      refine wp_lt (gRk qf_32 ql_R_16_0) ?_
      refine wp_gd ql_K_17 ?_
      refine wp_lt ql_R_17_2 ?_
      refine wp_ifp qf_87 ?_
      refine wp_of (f_X4_leastDislike_76.eq_1 ..) ?_
      refine wp_lt qf_153 ?_
      refine wp_of (f_X4_leastDislike_7.eq_2 ..) ?_
      refine wp_gd ql_K_16 ?_
      refine wp_lt (gZo ql_Z_16 qf_92) ?_
      refine wp_ifn qf_299 ?_
      refine wp_gd (gZi ql_Z_16 qf_99) ?_
      refine wp_lt (gRk qf_36 ql_R_16_1) ?_
      refine wp_gd ql_K_25 ?_
      refine wp_lt ql_R_25_2 ?_
      refine wp_ifp qf_87 ?_
      refine wp_of (f_X4_leastDislike_76.eq_1 ..) ?_
      refine wp_lt qf_164 ?_
      refine wp_of (f_X4_leastDislike_7.eq_2 ..) ?_
      refine wp_gd ql_K_16 ?_
      refine wp_lt (gZo ql_Z_16 qf_92) ?_
      refine wp_ifn qf_300 ?_
      refine wp_gd (gZi ql_Z_16 qf_102) ?_
      refine wp_lt (gRk qf_41 ql_R_16_2) ?_
      refine wp_gd ql_K_33 ?_
      refine wp_lt ql_R_33_2 ?_
      refine wp_ifp qf_87 ?_
      refine wp_of (f_X4_leastDislike_76.eq_1 ..) ?_
      refine wp_lt qf_177 ?_
      refine wp_of (f_X4_leastDislike_7.eq_2 ..) ?_
      refine wp_gd ql_K_16 ?_
      refine wp_lt (gZo ql_Z_16 qf_92) ?_
      refine wp_ifn qf_301 ?_
      refine wp_gd (gZi ql_Z_16 qf_105) ?_
      refine wp_lt (gRk qf_46 ql_R_16_3) ?_
      refine wp_gd ql_K_41 ?_
      refine wp_lt ql_R_41_2 ?_
      refine wp_ifp qf_87 ?_
      refine wp_of (f_X4_leastDislike_76.eq_1 ..) ?_
      refine wp_lt qf_227 ?_
      refine wp_of (f_X4_leastDislike_7.eq_2 ..) ?_
      refine wp_gd ql_K_16 ?_
      refine wp_lt (gZo ql_Z_16 qf_92) ?_
      refine wp_ifp qf_302 ?_
      refine wp_ret_bd ?_
      refine wp_gd ql_K_49 ?_
      refine wp_bd ?_
      refine wp_of (f_X4_feel.eq_1 ..) ?_
      refine wp_ifn qf_38 ?_
      refine wp_gd ql_K_49 ?_
      refine wp_lt ql_R_49_0 ?_
      refine wp_gd ql_K_50 ?_
      refine wp_lt (gZo ql_Z_50 qf_214) ?_
      refine wp_ifn qf_221 ?_
      refine wp_lt ql_R_49_1 ?_
      refine wp_gd ql_K_51 ?_
      refine wp_lt (gZo ql_Z_51 qf_214) ?_
      refine wp_ifp qf_398 ?_
      refine wp_lt ql_R_49_0 ?_
      refine wp_gd ql_K_50 ?_
      refine wp_gd (gZi ql_Z_50 qf_222) ?_
      refine wp_lt (gIk qf_41 (Eq.trans (gI_a rfl) (Eq.trans (gI_b rfl) (Eq.trans (gI_a rfl) (Eq.trans (gI_b rfl) (Eq.trans (gI_a rfl) (Eq.trans (gI_a rfl) (Eq.trans (gI_a rfl) (Eq.trans (gI_a rfl) (Eq.trans (gI_a rfl) (Eq.trans (gI_a rfl) hg2))))))))))) ?_
      refine wp_lt ql_R_49_1 ?_
      refine wp_gd ql_K_51 ?_
      refine wp_gd (gZi ql_Z_51 qf_222) ?_
      refine wp_lt (gIk qf_41 (Eq.trans (gI_b rfl) (Eq.trans (gI_a rfl) (Eq.trans (gI_b rfl) (Eq.trans (gI_a rfl) (Eq.trans (gI_a rfl) (Eq.trans (gI_a rfl) (Eq.trans (gI_a rfl) (Eq.trans (gI_a rfl) (Eq.trans (gI_a rfl) (Eq.trans (gI_a rfl) (agI hI rfl ql_I_51_2)))))))))))) ?_
      refine wp_ifp qf_395 ?_
      refine wp_ltr ?_
      refine wp_of (f_X4_feel_102.eq_1 ..) ?_
      refine wp_ifp qf_396 ?_
      refine wp_of (f_X4_feel_115.eq_1 ..) ?_
      refine wp_gd ql_K_49 ?_
      refine wp_lt ql_R_49_0 ?_
      refine wp_lt (if_pos c2) ?_
      refine wp_gd ql_K_50 ?_
      refine wp_gd (gZi ql_Z_50 qf_222) ?_
      refine wp_zIk qf_41 ?_
      refine wp_lt ql_R_49_1 ?_
      refine wp_gd ql_K_51 ?_
      refine wp_gd (gZi ql_Z_51 qf_222) ?_
      refine wp_zIk qf_41 ?_
      refine wp_ret_bd ?_
      refine wp_lt qf_177 ?_
      refine wp_of (f_X4_dance_56.eq_2 ..) ?_
      refine wp_ifn qf_224 ?_
      refine wp_bd ?_
      refine wp_of (f_X4_leastDislike.eq_1 ..) ?_
      refine wp_of (f_X4_leastDislike_7.eq_2 ..) ?_
      refine wp_gd ql_K_16 ?_
      refine wp_lt (gZo ql_Z_16 qf_92) ?_
      refine wp_ifn qf_298 ?_
      refine wp_gd (gZi ql_Z_16 qf_97) ?_
      refine wp_lt (gRk qf_32 ql_R_16_0) ?_
      refine wp_gd ql_K_17 ?_
      refine wp_lt ql_R_17_2 ?_
      refine wp_ifp qf_87 ?_
      refine wp_of (f_X4_leastDislike_76.eq_1 ..) ?_
      refine wp_lt qf_153 ?_
      refine wp_of (f_X4_leastDislike_7.eq_2 ..) ?_
      refine wp_gd ql_K_16 ?_
      refine wp_lt (gZo ql_Z_16 qf_92) ?_
      refine wp_ifn qf_299 ?_
      refine wp_gd (gZi ql_Z_16 qf_99) ?_
      refine wp_lt (gRk qf_36 ql_R_16_1) ?_
      refine wp_gd ql_K_25 ?_
      refine wp_lt ql_R_25_2 ?_
      refine wp_ifp qf_87 ?_
      refine wp_of (f_X4_leastDislike_76.eq_1 ..) ?_
      refine wp_lt qf_164 ?_
      refine wp_of (f_X4_leastDislike_7.eq_2 ..) ?_
      refine wp_gd ql_K_16 ?_
      refine wp_lt (gZo ql_Z_16 qf_92) ?_
      refine wp_ifn qf_300 ?_
      refine wp_gd (gZi ql_Z_16 qf_102) ?_
      refine wp_lt (gRk qf_41 ql_R_16_2) ?_
      refine wp_gd ql_K_33 ?_
      refine wp_lt ql_R_33_2 ?_
      refine wp_ifp qf_87 ?_
      refine wp_of (f_X4_leastDislike_76.eq_1 ..) ?_
      refine wp_lt qf_177 ?_
      refine wp_of (f_X4_leastDislike_7.eq_2 ..) ?_
      refine wp_gd ql_K_16 ?_
      refine wp_lt (gZo ql_Z_16 qf_92) ?_
      refine wp_ifn qf_301 ?_
      refine wp_gd (gZi ql_Z_16 qf_105) ?_
      refine wp_lt (gRk qf_46 ql_R_16_3) ?_
      refine wp_gd ql_K_41 ?_
      refine wp_lt ql_R_41_2 ?_
      refine wp_ifp qf_87 ?_
      refine wp_of (f_X4_leastDislike_76.eq_1 ..) ?_
      refine wp_lt qf_227 ?_
      refine wp_of (f_X4_leastDislike_7.eq_2 ..) ?_
      refine wp_gd ql_K_16 ?_
      refine wp_lt (gZo ql_Z_16 qf_92) ?_
      refine wp_ifp qf_302 ?_
      refine wp_ret_bd ?_
      refine wp_gd ql_K_49 ?_
      refine wp_bd ?_
      refine wp_of (f_X4_feel.eq_1 ..) ?_
      refine wp_ifn qf_43 ?_
      refine wp_gd ql_K_49 ?_
      refine wp_lt ql_R_49_0 ?_
      refine wp_gd ql_K_50 ?_
      refine wp_lt (gZo ql_Z_50 qf_214) ?_
      refine wp_ifn qf_224 ?_
      refine wp_lt ql_R_49_1 ?_
      refine wp_gd ql_K_51 ?_
      refine wp_lt (gZo ql_Z_51 qf_214) ?_
      refine wp_ifp qf_399 ?_
      refine wp_lt ql_R_49_0 ?_
      refine wp_gd ql_K_50 ?_
      refine wp_gd (gZi ql_Z_50 qf_225) ?_
      refine wp_lt (gIk qf_46 (Eq.trans (gI_a rfl) (Eq.trans (gI_b rfl) (Eq.trans (gI_a rfl) (Eq.trans (gI_b rfl) (Eq.trans (gI_a rfl) (Eq.trans (gI_b rfl) (Eq.trans (gI_a rfl) (Eq.trans (gI_a rfl) (Eq.trans (gI_a rfl) (Eq.trans (gI_a rfl) (Eq.trans (gI_a rfl) (Eq.trans (gI_a rfl) hg3))))))))))))) ?_
      refine wp_lt ql_R_49_1 ?_
      refine wp_gd ql_K_51 ?_
      refine wp_gd (gZi ql_Z_51 qf_225) ?_
      refine wp_lt (gIk qf_46 (Eq.trans (gI_b rfl) (Eq.trans (gI_a rfl) (Eq.trans (gI_b rfl) (Eq.trans (gI_a rfl) (Eq.trans (gI_b rfl) (Eq.trans (gI_a rfl) (Eq.trans (gI_a rfl) (Eq.trans (gI_a rfl) (Eq.trans (gI_a rfl) (Eq.trans (gI_a rfl) (Eq.trans (gI_a rfl) (Eq.trans (gI_a rfl) (agI hI rfl ql_I_51_3)))))))))))))) ?_
      refine wp_ifp qf_395 ?_
      refine wp_ltr ?_
      refine wp_of (f_X4_feel_102.eq_1 ..) ?_
      refine wp_ifp qf_396 ?_
      refine wp_of (f_X4_feel_115.eq_1 ..) ?_
      refine wp_gd ql_K_49 ?_
      refine wp_lt ql_R_49_0 ?_
      refine wp_lt (if_pos c2) ?_
      refine wp_gd ql_K_50 ?_
      refine wp_gd (gZi ql_Z_50 qf_225) ?_
      refine wp_zIk qf_46 ?_
      refine wp_lt ql_R_49_1 ?_
      refine wp_gd ql_K_51 ?_
      refine wp_gd (gZi ql_Z_51 qf_225) ?_
      refine wp_zIk qf_46 ?_
      refine wp_ret_bd ?_
      refine wp_lt qf_227 ?_
      refine wp_of (f_X4_dance_56.eq_2 ..) ?_
      refine wp_ifn qf_228 ?_
      refine wp_bd ?_
      refine wp_of (f_X4_leastDislike.eq_1 ..) ?_
      refine wp_of (f_X4_leastDislike_7.eq_2 ..) ?_
      refine wp_gd ql_K_16 ?_
      refine wp_lt (gZo ql_Z_16 qf_92) ?_
      refine wp_ifn qf_298 ?_
      refine wp_gd (gZi ql_Z_16 qf_97) ?_
      refine wp_lt (gRk qf_32 ql_R_16_0) ?_
      refine wp_gd ql_K_17 ?_
      refine wp_lt ql_R_17_2 ?_
      refine wp_ifp qf_87 ?_
      refine wp_of (f_X4_leastDislike_76.eq_1 ..) ?_
      refine wp_lt qf_153 ?_
      refine wp_of (f_X4_leastDislike_7.eq_2 ..) ?_
      refine wp_gd ql_K_16 ?_
      refine wp_lt (gZo ql_Z_16 qf_92) ?_
      refine wp_ifn qf_299 ?_
      refine wp_gd (gZi ql_Z_16 qf_99) ?_
      refine wp_lt (gRk qf_36 ql_R_16_1) ?_
      refine wp_gd ql_K_25 ?_
      refine wp_lt ql_R_25_2 ?_
      refine wp_ifp qf_87 ?_
      refine wp_of (f_X4_leastDislike_76.eq_1 ..) ?_
      refine wp_lt qf_164 ?_
      refine wp_of (f_X4_leastDislike_7.eq_2 ..) ?_
      refine wp_gd ql_K_16 ?_
      refine wp_lt (gZo ql_Z_16 qf_92) ?_
      refine wp_ifn qf_300 ?_
      refine wp_gd (gZi ql_Z_16 qf_102) ?_
      refine wp_lt (gRk qf_41 ql_R_16_2) ?_
      refine wp_gd ql_K_33 ?_
      refine wp_lt ql_R_33_2 ?_
      refine wp_ifp qf_87 ?_
      refine wp_of (f_X4_leastDislike_76.eq_1 ..) ?_
      refine wp_lt qf_177 ?_
      refine wp_of (f_X4_leastDislike_7.eq_2 ..) ?_
      refine wp_gd ql_K_16 ?_
      refine wp_lt (gZo ql_Z_16 qf_92) ?_
      refine wp_ifn qf_301 ?_
      refine wp_gd (gZi ql_Z_16 qf_105) ?_
      refine wp_lt (gRk qf_46 ql_R_16_3) ?_
      refine wp_gd ql_K_41 ?_
      refine wp_lt ql_R_41_2 ?_
      refine wp_ifp qf_87 ?_
      refine wp_of (f_X4_leastDislike_76.eq_1 ..) ?_
      refine wp_lt qf_227 ?_
      refine wp_of (f_X4_leastDislike_7.eq_2 ..) ?_
      refine wp_gd ql_K_16 ?_
      refine wp_lt (gZo ql_Z_16 qf_92) ?_
      refine wp_ifp qf_302 ?_
      refine wp_ret_bd ?_
      refine wp_gd ql_K_49 ?_
      refine wp_bd ?_
      refine wp_of (f_X4_feel.eq_1 ..) ?_
      refine wp_ifn qf_48 ?_
      refine wp_gd ql_K_49 ?_
      refine wp_lt ql_R_49_0 ?_
      refine wp_gd ql_K_50 ?_
      refine wp_lt (gZo ql_Z_50 qf_214) ?_
      refine wp_ifn qf_228 ?_
      refine wp_lt ql_R_49_1 ?_
      refine wp_gd ql_K_51 ?_
      refine wp_lt (gZo ql_Z_51 qf_214) ?_
      refine wp_ifp qf_400 ?_
      refine wp_lt ql_R_49_0 ?_
      refine wp_gd ql_K_50 ?_
      refine wp_gd (gZi ql_Z_50 qf_229) ?_
      refine wp_lt (gIk qf_51 (Eq.trans (gI_a rfl) (Eq.trans (gI_b rfl) (Eq.trans (gI_a rfl) (Eq.trans (gI_b rfl) (Eq.trans (gI_a rfl) (Eq.trans (gI_b rfl) (Eq.trans (gI_a rfl) (Eq.trans (gI_b rfl) (Eq.trans (gI_a rfl) (Eq.trans (gI_a rfl) (Eq.trans (gI_a rfl) (Eq.trans (gI_a rfl) (Eq.trans (gI_a rfl) (Eq.trans (gI_a rfl) hg4))))))))))))))) ?_
      refine wp_lt ql_R_49_1 ?_
      refine wp_gd ql_K_51 ?_
      refine wp_gd (gZi ql_Z_51 qf_229) ?_
      refine wp_lt (gIk qf_51 (Eq.trans (gI_b rfl) (Eq.trans (gI_a rfl) (Eq.trans (gI_b rfl) (Eq.trans (gI_a rfl) (Eq.trans (gI_b rfl) (Eq.trans (gI_a rfl) (Eq.trans (gI_b rfl) (Eq.trans (gI_a rfl) (Eq.trans (gI_a rfl) (Eq.trans (gI_a rfl) (Eq.trans (gI_a rfl) (Eq.trans (gI_a rfl) (Eq.trans (gI_a rfl) (Eq.trans (gI_a rfl) (agI hI rfl ql_I_51_4)))))))))))))))) ?_
      refine wp_ifp qf_395 ?_
      refine wp_ltr ?_
      refine wp_of (f_X4_feel_102.eq_1 ..) ?_
      refine wp_ifp qf_396 ?_
      refine wp_of (f_X4_feel_115.eq_1 ..) ?_
      refine wp_gd ql_K_49 ?_
      refine wp_lt ql_R_49_0 ?_
      refine wp_lt (if_pos c2) ?_
      refine wp_gd ql_K_50 ?_
      refine wp_gd (gZi ql_Z_50 qf_229) ?_
      refine wp_zIk qf_51 ?_
      refine wp_lt ql_R_49_1 ?_
      refine wp_gd ql_K_51 ?_
      refine wp_gd (gZi ql_Z_51 qf_229) ?_
      refine wp_zIk qf_51 ?_
      refine wp_ret_bd ?_
      refine wp_lt qf_231 ?_
      refine wp_of (f_X4_dance_56.eq_2 ..) ?_
      refine wp_ifn qf_232 ?_
      refine wp_bd ?_
      refine wp_of (f_X4_leastDislike.eq_1 ..) ?_
      refine wp_of (f_X4_leastDislike_7.eq_2 ..) ?_
      refine wp_gd ql_K_16 ?_
      refine wp_lt (gZo ql_Z_16 qf_92) ?_
      refine wp_ifn qf_298 ?_
      refine wp_gd (gZi ql_Z_16 qf_97) ?_
      refine wp_lt (gRk qf_32 ql_R_16_0) ?_
      refine wp_gd ql_K_17 ?_
      refine wp_lt ql_R_17_2 ?_
      refine wp_ifp qf_87 ?_
      refine wp_of (f_X4_leastDislike_76.eq_1 ..) ?_
      refine wp_lt qf_153 ?_
      refine wp_of (f_X4_leastDislike_7.eq_2 ..) ?_
      refine wp_gd ql_K_16 ?_
      refine wp_lt (gZo ql_Z_16 qf_92) ?_
      refine wp_ifn qf_299 ?_
      refine wp_gd (gZi ql_Z_16 qf_99) ?_
      refine wp_lt (gRk qf_36 ql_R_16_1) ?_
      refine wp_gd ql_K_25 ?_
      refine wp_lt ql_R_25_2 ?_
      refine wp_ifp qf_87 ?_
      refine wp_of (f_X4_leastDislike_76.eq_1 ..) ?_
      refine wp_lt qf_164 ?_
      refine wp_of (f_X4_leastDislike_7.eq_2 ..) ?_
      refine wp_gd ql_K_16 ?_
      refine wp_lt (gZo ql_Z_16 qf_92) ?_
      refine wp_ifn qf_300 ?_
      refine wp_gd (gZi ql_Z_16 qf_102) ?_
      refine wp_lt (gRk qf_41 ql_R_16_2) ?_
      refine wp_gd ql_K_33 ?_
      refine wp_lt ql_R_33_2 ?_
      refine wp_ifp qf_87 ?_
      refine wp_of (f_X4_leastDislike_76.eq_1 ..) ?_
      refine wp_lt qf_177 ?_
      refine wp_of (f_X4_leastDislike_7.eq_2 ..) ?_
      refine wp_gd ql_K_16 ?_
      refine wp_lt (gZo ql_Z_16 qf_92) ?_
      refine wp_ifn qf_301 ?_
      refine wp_gd (gZi ql_Z_16 qf_105) ?_
      refine wp_lt (gRk qf_46 ql_R_16_3) ?_
      refine wp_gd ql_K_41 ?_
      refine wp_lt ql_R_41_2 ?_
      refine wp_ifp qf_87 ?_
      refine wp_of (f_X4_leastDislike_76.eq_1 ..) ?_
      refine wp_lt qf_227 ?_
      refine wp_of (f_X4_leastDislike_7.eq_2 ..) ?_
      refine wp_gd ql_K_16 ?_
      refine wp_lt (gZo ql_Z_16 qf_92) ?_
      refine wp_ifp qf_302 ?_
      refine wp_ret_bd ?_
      refine wp_gd ql_K_49 ?_
      refine wp_bd ?_
      refine wp_of (f_X4_feel.eq_1 ..) ?_
      refine wp_ifn qf_53 ?_
      refine wp_gd ql_K_49 ?_
      refine wp_lt ql_R_49_0 ?_
      refine wp_gd ql_K_50 ?_
      refine wp_lt (gZo ql_Z_50 qf_214) ?_
      refine wp_ifn qf_232 ?_
      refine wp_lt ql_R_49_1 ?_
      refine wp_gd ql_K_51 ?_
      refine wp_lt (gZo ql_Z_51 qf_214) ?_
      refine wp_ifp qf_401 ?_
      refine wp_lt ql_R_49_0 ?_
      refine wp_gd ql_K_50 ?_
      refine wp_gd (gZi ql_Z_50 qf_233) ?_
      refine wp_lt (gIk qf_56 (Eq.trans (gI_a rfl) (Eq.trans (gI_b rfl) (Eq.trans (gI_a rfl) (Eq.trans (gI_b rfl) (Eq.trans (gI_a rfl) (Eq.trans (gI_b rfl) (Eq.trans (gI_a rfl) (Eq.trans (gI_b rfl) (Eq.trans (gI_a rfl) (Eq.trans (gI_b rfl) (Eq.trans (gI_a rfl) (Eq.trans (gI_a rfl) (Eq.trans (gI_a rfl) (Eq.trans (gI_a rfl) (Eq.trans (gI_a rfl) (Eq.trans (gI_a rfl) hg5))))))))))))))))) ?_
      refine wp_lt ql_R_49_1 ?_
      refine wp_gd ql_K_51 ?_
      refine wp_gd (gZi ql_Z_51 qf_233) ?_
      refine wp_lt (gIk qf_56 (Eq.trans (gI_b rfl) (Eq.trans (gI_a rfl) (Eq.trans (gI_b rfl) (Eq.trans (gI_a rfl) (Eq.trans (gI_b rfl) (Eq.trans (gI_a rfl) (Eq.trans (gI_b rfl) (Eq.trans (gI_a rfl) (Eq.trans (gI_b rfl) (Eq.trans (gI_a rfl) (Eq.trans (gI_a rfl) (Eq.trans (gI_a rfl) (Eq.trans (gI_a rfl) (Eq.trans (gI_a rfl) (Eq.trans (gI_a rfl) (Eq.trans (gI_a rfl) (agI hI rfl ql_I_51_5)))))))))))))))))) ?_
      refine wp_ifp qf_395 ?_
      refine wp_ltr ?_
      refine wp_of (f_X4_feel_102.eq_1 ..) ?_
      refine wp_ifp qf_396 ?_
      refine wp_of (f_X4_feel_115.eq_1 ..) ?_
      refine wp_gd ql_K_49 ?_
      refine wp_lt ql_R_49_0 ?_
      refine wp_lt (if_pos c2) ?_
      refine wp_gd ql_K_50 ?_
      refine wp_gd (gZi ql_Z_50 qf_233) ?_
      refine wp_zIk qf_56 ?_
      refine wp_lt ql_R_49_1 ?_
      refine wp_gd ql_K_51 ?_
      refine wp_gd (gZi ql_Z_51 qf_233) ?_
      refine wp_zIk qf_56 ?_
      refine wp_ret_bd ?_
      refine wp_lt qf_235 ?_
      refine wp_of (f_X4_dance_56.eq_2 ..) ?_
      refine wp_ifp qf_236 ?_
      refine wp_ret_bd ?_
      refine wp_gd ql_K_2 ?_
      refine wp_lt ql_R_2_3 ?_
      refine wp_lt (Eq.trans (gI_a rfl) (Eq.trans (gI_a rfl) (Eq.trans (gI_a rfl) (Eq.trans (gI_a rfl) (Eq.trans (gI_a rfl) (Eq.trans (gI_a rfl) (Eq.trans (gI_a rfl) (Eq.trans (gI_a rfl) (Eq.trans (gI_a rfl) (Eq.trans (gI_a rfl) (Eq.trans (gI_a rfl) (Eq.trans (gI_a rfl) (Eq.trans (gI_b rfl) (Eq.trans (gI_b rfl) (Eq.trans (gI_b rfl) (Eq.trans (gI_a rfl) (Eq.trans (gI_b rfl) gI_s))))))))))))))))) ?_
      refine wp_gd ql_K_52 ?_
      refine wp_bd ?_
      refine wp_of (f_X5_judge.eq_1 ..) ?_
      refine wp_ltr ?_
      refine wp_gd qf_402 ?_
      refine wp_lt hj ?_
      refine wp_bd ?_
      refine wp_of (f_J9_floorMod_7cf53.eq_1 ..) ?_
      refine wp_gd qf_403 ?_
      refine wp_lt qf_404 ?_
      refine wp_lt qf_405 ?_
      refine wp_ifp qf_406 ?_
      refine wp_of (f_J9_floorMod_7cf53_18.eq_1 ..) ?_
      refine wp_ret_bd ?_
      refine wp_gd ql_K_52 ?_
      refine wp_lt (Eq.trans (gI_a rfl) (Eq.trans (gI_a rfl) (Eq.trans (gI_a rfl) (Eq.trans (gI_a rfl) (Eq.trans (gI_a rfl) (Eq.trans (gI_a rfl) (Eq.trans (gI_a rfl) (Eq.trans (gI_a rfl) (Eq.trans (gI_a rfl) (Eq.trans (gI_a rfl) (Eq.trans (gI_a rfl) (Eq.trans (gI_a rfl) (Eq.trans (gI_a rfl) (Eq.trans (gI_a rfl) (Eq.trans (gI_a rfl) gI_s))))))))))))))) ?_
      refine wp_gd qf_393 ?_
      refine wp_lt qf_407 ?_
      refine wp_lt ql_R_52_0 ?_
      refine wp_gd ql_K_53 ?_
      refine wp_lt (gZo ql_Z_53 qf_92) ?_
      refine wp_ifn qf_298 ?_
      refine wp_lt ql_R_52_0 ?_
      refine wp_gd ql_K_53 ?_
      refine wp_gd (gZi ql_Z_53 qf_97) ?_
      refine wp_lt (gIk qf_32 (Eq.trans (gI_a rfl) (Eq.trans (gI_a rfl) (Eq.trans (gI_a rfl) (Eq.trans (gI_a rfl) (Eq.trans (gI_a rfl) (Eq.trans (gI_a rfl) (Eq.trans (gI_a rfl) (Eq.trans (gI_a rfl) (Eq.trans (gI_a rfl) (Eq.trans (gI_a rfl) (Eq.trans (gI_a rfl) (Eq.trans (gI_a rfl) (Eq.trans (gI_a rfl) (Eq.trans (gI_a rfl) (Eq.trans (gI_a rfl) (Eq.trans (gI_a rfl) (Eq.trans (gI_a rfl) (Eq.trans (gI_a rfl) (agI hI rfl ql_I_53_0)))))))))))))))))))) ?_
      refine wp_ifp qf_408 ?_
      refine wp_of (f_X5_judge_48.eq_1 ..) ?_
      refine wp_gd ql_K_52 ?_
      refine wp_zI ?_
      refine wp_ret_bd ?_
      refine wp_of (f_X8_run_70.eq_1 ..) ?_
      refine wp_ltr ?_
      exact hrc _ _ _ _ _ rfl rfl ⟨(ag_p2s (lkI ql_I_52_2) (ag_p2s (lkI ql_I_51_5) (ag_p2 rfl (ag_p2s (lkI ql_I_51_4) (ag_p2 rfl (ag_p2s (lkI ql_I_51_3) (ag_p2 rfl (ag_p2s (lkI ql_I_51_2) (ag_p2 rfl (ag_p2s (lkI ql_I_51_1) (ag_p2 rfl (ag_p2s (lkI ql_I_51_0) (ag_p2 rfl (ag_p2s (lkI ql_I_2_10) (ag_p2s (lkI ql_I_2_9) (ag_p2 rfl (ag_p2s (lkI ql_I_52_2) (ag_p2s (lkI ql_I_2_11) (ag_p2 rfl hI))))))))))))))))))), (ag_p2s (lkL ql_L_2_12) hL), (Eq.trans (gI_a rfl) (Eq.trans (gI_a rfl) (Eq.trans (gI_a rfl) (Eq.trans (gI_a rfl) (Eq.trans (gI_a rfl) (Eq.trans (gI_a rfl) (Eq.trans (gI_a rfl) (Eq.trans (gI_a rfl) (Eq.trans (gI_a rfl) (Eq.trans (gI_a rfl) (Eq.trans (gI_a rfl) (Eq.trans (gI_a rfl) (Eq.trans (gI_a rfl) (Eq.trans (gI_b rfl) (Eq.trans (gI_b rfl) (Eq.trans (gI_b rfl) (Eq.trans (gI_a rfl) (Eq.trans (gI_b rfl) gI_s)))))))))))))))))), (Eq.trans (gI_a rfl) (Eq.trans (gI_a rfl) (Eq.trans (gI_a rfl) (Eq.trans (gI_a rfl) (Eq.trans (gI_a rfl) (Eq.trans (gI_a rfl) (Eq.trans (gI_a rfl) (Eq.trans (gI_a rfl) (Eq.trans (gI_a rfl) (Eq.trans (gI_a rfl) (Eq.trans (gI_a rfl) (Eq.trans (gI_a rfl) (Eq.trans (gI_a rfl) (Eq.trans (gI_b rfl) (Eq.trans (gI_b rfl) gI_s))))))))))))))), (Eq.trans (gI_a rfl) (Eq.trans (gI_a rfl) (Eq.trans (gI_b rfl) (Eq.trans (gI_a rfl) (Eq.trans (gI_b rfl) (Eq.trans (gI_a rfl) (Eq.trans (gI_b rfl) (Eq.trans (gI_a rfl) (Eq.trans (gI_b rfl) (Eq.trans (gI_a rfl) (Eq.trans (gI_b rfl) (Eq.trans (gI_a rfl) gI_s)))))))))))), (Eq.trans (gI_a rfl) (Eq.trans (gI_a rfl) (Eq.trans (gI_b rfl) (Eq.trans (gI_a rfl) (Eq.trans (gI_b rfl) (Eq.trans (gI_a rfl) (Eq.trans (gI_b rfl) (Eq.trans (gI_a rfl) (Eq.trans (gI_b rfl) (Eq.trans (gI_a rfl) gI_s)))))))))), (Eq.trans (gI_a rfl) (Eq.trans (gI_a rfl) (Eq.trans (gI_b rfl) (Eq.trans (gI_a rfl) (Eq.trans (gI_b rfl) (Eq.trans (gI_a rfl) (Eq.trans (gI_b rfl) (Eq.trans (gI_a rfl) gI_s)))))))), (Eq.trans (gI_a rfl) (Eq.trans (gI_a rfl) (Eq.trans (gI_b rfl) (Eq.trans (gI_a rfl) (Eq.trans (gI_b rfl) (Eq.trans (gI_a rfl) gI_s)))))), (Eq.trans (gI_a rfl) (Eq.trans (gI_a rfl) (Eq.trans (gI_b rfl) (Eq.trans (gI_a rfl) gI_s)))), (Eq.trans (gI_a rfl) (Eq.trans (gI_a rfl) gI_s))⟩
    · skip
      refine wp_gd ql_K_50 ?_
      refine wp_gd (gZi ql_Z_50 qf_216) ?_
      refine wp_zIk qf_32 ?_
      refine wp_lt ql_R_49_1 ?_
      refine wp_gd ql_K_51 ?_
      refine wp_gd (gZi ql_Z_51 qf_216) ?_
      refine wp_zIk qf_32 ?_
      refine wp_ret_bd ?_
      refine wp_lt qf_153 ?_
      refine wp_of (f_X4_dance_56.eq_2 ..) ?_
      refine wp_ifn qf_218 ?_
      refine wp_bd ?_
      refine wp_of (f_X4_leastDislike.eq_1 ..) ?_
      refine wp_of (f_X4_leastDislike_7.eq_2 ..) ?_
      refine wp_gd ql_K_16 ?_
      refine wp_lt (gZo ql_Z_16 qf_92) ?_
      refine wp_ifn qf_298 ?_
      refine wp_gd (gZi ql_Z_16 qf_97) ?_
      refine wp_lt (gRk qf_32 ql_R_16_0) ?_
      refine wp_gd ql_K_17 ?_
      refine wp_lt ql_R_17_2 ?_
      refine wp_ifp qf_87 ?_
      refine wp_of (f_X4_leastDislike_76.eq_1 ..) ?_
      refine wp_lt qf_153 ?_
      refine wp_of (f_X4_leastDislike_7.eq_2 ..) ?_
      refine wp_gd ql_K_16 ?_
      refine wp_lt (gZo ql_Z_16 qf_92) ?_
      refine wp_ifn qf_299 ?_
      refine wp_gd (gZi ql_Z_16 qf_99) ?_
      refine wp_lt (gRk qf_36 ql_R_16_1) ?_
      refine wp_gd ql_K_25 ?_
      refine wp_lt ql_R_25_2 ?_
      refine wp_ifp qf_87 ?_
      refine wp_of (f_X4_leastDislike_76.eq_1 ..) ?_
      refine wp_lt qf_164 ?_
      refine wp_of (f_X4_leastDislike_7.eq_2 ..) ?_
      refine wp_gd ql_K_16 ?_
      refine wp_lt (gZo ql_Z_16 qf_92) ?_
      refine wp_ifn qf_300 ?_
      refine wp_gd (gZi ql_Z_16 qf_102) ?_
      refine wp_lt (gRk qf_41 ql_R_16_2) ?_
      refine wp_gd ql_K_33 ?_
      refine wp_lt ql_R_33_2 ?_
      refine wp_ifp qf_87 ?_
      refine wp_of (f_X4_leastDislike_76.eq_1 ..) ?_
      refine wp_lt qf_177 ?_
      refine wp_of (f_X4_leastDislike_7.eq_2 ..) ?_
      refine wp_gd ql_K_16 ?_
      refine wp_lt (gZo ql_Z_16 qf_92) ?_
      refine wp_ifn qf_301 ?_
      refine wp_gd (gZi ql_Z_16 qf_105) ?_
      refine wp_lt (gRk qf_46 ql_R_16_3) ?_
      refine wp_gd ql_K_41 ?_
      refine wp_lt ql_R_41_2 ?_
      refine wp_ifp qf_87 ?_
      refine wp_of (f_X4_leastDislike_76.eq_1 ..) ?_
      refine wp_lt qf_227 ?_
      refine wp_of (f_X4_leastDislike_7.eq_2 ..) ?_
      refine wp_gd ql_K_16 ?_
      refine wp_lt (gZo ql_Z_16 qf_92) ?_
      refine wp_ifp qf_302 ?_
      refine wp_ret_bd ?_
      refine wp_gd ql_K_49 ?_
      refine wp_bd ?_
      refine wp_of (f_X4_feel.eq_1 ..) ?_
      refine wp_ifn qf_33 ?_
      refine wp_gd ql_K_49 ?_
      refine wp_lt ql_R_49_0 ?_
      refine wp_gd ql_K_50 ?_
      refine wp_lt (gZo ql_Z_50 qf_214) ?_
      refine wp_ifn qf_218 ?_
      refine wp_lt ql_R_49_1 ?_
      refine wp_gd ql_K_51 ?_
      refine wp_lt (gZo ql_Z_51 qf_214) ?_
      refine wp_ifp qf_397 ?_
      refine wp_lt ql_R_49_0 ?_
      refine wp_gd ql_K_50 ?_
      refine wp_gd (gZi ql_Z_50 qf_219) ?_
      refine wp_lt (gIk qf_36 (Eq.trans (gI_a rfl) (Eq.trans (gI_b rfl) (Eq.trans (gI_a rfl) (Eq.trans (gI_a rfl) (Eq.trans (gI_a rfl) (Eq.trans (gI_a rfl) (Eq.trans (gI_a rfl) (Eq.trans (gI_a rfl) hg1))))))))) ?_
      refine wp_lt ql_R_49_1 ?_
      refine wp_gd ql_K_51 ?_
      refine wp_gd (gZi ql_Z_51 qf_219) ?_
      refine wp_lt (gIk qf_36 (Eq.trans (gI_b rfl) (Eq.trans (gI_a rfl) (Eq.trans (gI_a rfl) (Eq.trans (gI_a rfl) (Eq.trans (gI_a rfl) (Eq.trans (gI_a rfl) (Eq.trans (gI_a rfl) (Eq.trans (gI_a rfl) (agI hI rfl ql_I_51_1)))))))))) ?_
      refine wp_ifp qf_395 ?_
      refine wp_ltr ?_
      refine wp_of (f_X4_feel_102.eq_1 ..) ?_
      refine wp_ifp qf_396 ?_
      refine wp_of (f_X4_feel_115.eq_1 ..) ?_
      refine wp_gd ql_K_49 ?_
      refine wp_lt ql_R_49_0 ?_
      refine wp_lt (if_neg c2) ?_
      refine wp_gd ql_K_50 ?_
      refine wp_gd (gZi ql_Z_50 qf_219) ?_
      refine wp_zIk qf_36 ?_
      refine wp_lt ql_R_49_1 ?_
      refine wp_gd ql_K_51 ?_
      refine wp_gd (gZi ql_Z_51 qf_219) ?_
      refine wp_zIk qf_36 ?_
      refine wp_ret_bd ?_
      refine wp_lt qf_164 ?_
      refine wp_of (f_X4_dance_56.eq_2 ..) ?_
      refine wp_ifn qf_221 ?_
      refine wp_bd ?_
      refine wp_of (f_X4_leastDislike.eq_1 ..) ?_
      refine wp_of (f_X4_leastDislike_7.eq_2 ..) ?_
      refine wp_gd ql_K_16 ?_
      refine wp_lt (gZo ql_Z_16 qf_92) ?_
      refine wp_ifn qf_298 ?_
      refine wp_gd (gZi ql_Z_16 qf_97) ?_
      refine wp_lt (gRk qf_32 ql_R_16_0) ?_
      refine wp_gd ql_K_17 ?_
      refine wp_lt ql_R_17_2 ?_
      refine wp_ifp qf_87 ?_
      refine wp_of (f_X4_leastDislike_76.eq_1 ..) ?_
      refine wp_lt qf_153 ?_
      refine wp_of (f_X4_leastDislike_7.eq_2 ..) ?_
      refine wp_gd ql_K_16 ?_
      refine wp_lt (gZo ql_Z_16 qf_92) ?_
      refine wp_ifn qf_299 ?_
      refine wp_gd (gZi ql_Z_16 qf_99) ?_
      refine wp_lt (gRk qf_36 ql_R_16_1) ?_
      refine wp_gd ql_K_25 ?_
      refine wp_lt ql_R_25_2 ?_
      refine wp_ifp qf_87 ?_
      refine wp_of (f_X4_leastDislike_76.eq_1 ..) ?_
      refine wp_lt qf_164 ?_
      refine wp_of (f_X4_leastDislike_7.eq_2 ..) ?_
      refine wp_gd ql_K_16 ?_
      refine wp_lt (gZo ql_Z_16 qf_92) ?_
      refine wp_ifn qf_300 ?_
      refine wp_gd (gZi ql_Z_16 qf_102) ?_
      refine wp_lt (gRk qf_41 ql_R_16_2) ?_
      refine wp_gd ql_K_33 ?_
      refine wp_lt ql_R_33_2 ?_
      refine wp_ifp qf_87 ?_
      refine wp_of (f_X4_leastDislike_76.eq_1 ..) ?_
      refine wp_lt qf_177 ?_
      refine wp_of (f_X4_leastDislike_7.eq_2 ..) ?_
      refine wp_gd ql_K_16 ?_
      refine wp_lt (gZo ql_Z_16 qf_92) ?_
      refine wp_ifn qf_301 ?_
      refine wp_gd (gZi ql_Z_16 qf_105) ?_
      refine wp_lt (gRk qf_46 ql_R_16_3) ?_
      refine wp_gd ql_K_41 ?_
      refine wp_lt ql_R_41_2 ?_
      refine wp_ifp qf_87 ?_
      refine wp_of (f_X4_leastDislike_76.eq_1 ..) ?_
      refine wp_lt qf_227 ?_
      refine wp_of (f_X4_leastDislike_7.eq_2 ..) ?_
      refine wp_gd ql_K_16 ?_
      refine wp_lt (gZo ql_Z_16 qf_92) ?_
      refine wp_ifp qf_302 ?_
      refine wp_ret_bd ?_
      refine wp_gd ql_K_49 ?_
      refine wp_bd ?_
      refine wp_of (f_X4_feel.eq_1 ..) ?_
      refine wp_ifn qf_38 ?_
      refine wp_gd ql_K_49 ?_
      refine wp_lt ql_R_49_0 ?_
      refine wp_gd ql_K_50 ?_
      refine wp_lt (gZo ql_Z_50 qf_214) ?_
      refine wp_ifn qf_221 ?_
      refine wp_lt ql_R_49_1 ?_
      refine wp_gd ql_K_51 ?_
      refine wp_lt (gZo ql_Z_51 qf_214) ?_
      refine wp_ifp qf_398 ?_
      refine wp_lt ql_R_49_0 ?_
      refine wp_gd ql_K_50 ?_
      refine wp_gd (gZi ql_Z_50 qf_222) ?_
      refine wp_lt (gIk qf_41 (Eq.trans (gI_a rfl) (Eq.trans (gI_b rfl) (Eq.trans (gI_a rfl) (Eq.trans (gI_b rfl) (Eq.trans (gI_a rfl) (Eq.trans (gI_a rfl) (Eq.trans (gI_a rfl) (Eq.trans (gI_a rfl) (Eq.trans (gI_a rfl) (Eq.trans (gI_a rfl) hg2))))))))))) ?_
      refine wp_lt ql_R_49_1 ?_
      refine wp_gd ql_K_51 ?_
      refine wp_gd (gZi ql_Z_51 qf_222) ?_
      refine wp_lt (gIk qf_41 (Eq.trans (gI_b rfl) (Eq.trans (gI_a rfl) (Eq.trans (gI_b rfl) (Eq.trans (gI_a rfl) (Eq.trans (gI_a rfl) (Eq.trans (gI_a rfl) (Eq.trans (gI_a rfl) (Eq.trans (gI_a rfl) (Eq.trans (gI_a rfl) (Eq.trans (gI_a rfl) (agI hI rfl ql_I_51_2)))))))))))) ?_
      refine wp_ifp qf_395 ?_
      refine wp_ltr ?_
      refine wp_of (f_X4_feel_102.eq_1 ..) ?_
      refine wp_ifp qf_396 ?_
      refine wp_of (f_X4_feel_115.eq_1 ..) ?_
      refine wp_gd ql_K_49 ?_
      refine wp_lt ql_R_49_0 ?_
      refine wp_lt (if_neg c2) ?_
      refine wp_gd ql_K_50 ?_
      refine wp_gd (gZi ql_Z_50 qf_222) ?_
      refine wp_zIk qf_41 ?_
      refine wp_lt ql_R_49_1 ?_
      refine wp_gd ql_K_51 ?_
      refine wp_gd (gZi ql_Z_51 qf_222) ?_
      refine wp_zIk qf_41 ?_
      refine wp_ret_bd ?_
      refine wp_lt qf_177 ?_
      refine wp_of (f_X4_dance_56.eq_2 ..) ?_
      refine wp_ifn qf_224 ?_
      refine wp_bd ?_
      refine wp_of (f_X4_leastDislike.eq_1 ..) ?_
      refine wp_of (f_X4_leastDislike_7.eq_2 ..) ?_
      refine wp_gd ql_K_16 ?_
      refine wp_lt (gZo ql_Z_16 qf_92) ?_
      refine wp_ifn qf_298 ?_
      refine wp_gd (gZi ql_Z_16 qf_97) ?_
      refine wp_lt (gRk qf_32 ql_R_16_0) ?_
      refine wp_gd ql_K_17 ?_
      refine wp_lt ql_R_17_2 ?_
      refine wp_ifp qf_87 ?_
      refine wp_of (f_X4_leastDislike_76.eq_1 ..) ?_
      refine wp_lt qf_153 ?_
      refine wp_of (f_X4_leastDislike_7.eq_2 ..) ?_
      refine wp_gd ql_K_16 ?_
      refine wp_lt (gZo ql_Z_16 qf_92) ?_
      refine wp_ifn qf_299 ?_
      refine wp_gd (gZi ql_Z_16 qf_99) ?_
      refine wp_lt (gRk qf_36 ql_R_16_1) ?_
      refine wp_gd ql_K_25 ?_
      refine wp_lt ql_R_25_2 ?_
      refine wp_ifp qf_87 ?_
      refine wp_of (f_X4_leastDislike_76.eq_1 ..) ?_
      refine wp_lt qf_164 ?_
      refine wp_of (f_X4_leastDislike_7.eq_2 ..) ?_
      refine wp_gd ql_K_16 ?_
      refine wp_lt (gZo ql_Z_16 qf_92) ?_
      refine wp_ifn qf_300 ?_
      refine wp_gd (gZi ql_Z_16 qf_102) ?_
      refine wp_lt (gRk qf_41 ql_R_16_2) ?_
      refine wp_gd ql_K_33 ?_
      refine wp_lt ql_R_33_2 ?_
      refine wp_ifp qf_87 ?_
      refine wp_of (f_X4_leastDislike_76.eq_1 ..) ?_
      refine wp_lt qf_177 ?_
      refine wp_of (f_X4_leastDislike_7.eq_2 ..) ?_
      refine wp_gd ql_K_16 ?_
      refine wp_lt (gZo ql_Z_16 qf_92) ?_
      refine wp_ifn qf_301 ?_
      refine wp_gd (gZi ql_Z_16 qf_105) ?_
      refine wp_lt (gRk qf_46 ql_R_16_3) ?_
      refine wp_gd ql_K_41 ?_
      refine wp_lt ql_R_41_2 ?_
      refine wp_ifp qf_87 ?_
      refine wp_of (f_X4_leastDislike_76.eq_1 ..) ?_
      refine wp_lt qf_227 ?_
      refine wp_of (f_X4_leastDislike_7.eq_2 ..) ?_
      refine wp_gd ql_K_16 ?_
      refine wp_lt (gZo ql_Z_16 qf_92) ?_
      refine wp_ifp qf_302 ?_
      refine wp_ret_bd ?_
      refine wp_gd ql_K_49 ?_
      refine wp_bd ?_
      refine wp_of (f_X4_feel.eq_1 ..) ?_
      refine wp_ifn qf_43 ?_
      refine wp_gd ql_K_49 ?_
      refine wp_lt ql_R_49_0 ?_
      refine wp_gd ql_K_50 ?_
      refine wp_lt (gZo ql_Z_50 qf_214) ?_
      refine wp_ifn qf_224 ?_
      refine wp_lt ql_R_49_1 ?_
      refine wp_gd ql_K_51 ?_
      refine wp_lt (gZo ql_Z_51 qf_214) ?_
      refine wp_ifp qf_399 ?_
      refine wp_lt ql_R_49_0 ?_
      refine wp_gd ql_K_50 ?_
      refine wp_gd (gZi ql_Z_50 qf_225) ?_
      refine wp_lt (gIk qf_46 (Eq.trans (gI_a rfl) (Eq.trans (gI_b rfl) (Eq.trans (gI_a rfl) (Eq.trans (gI_b rfl) (Eq.trans (gI_a rfl) (Eq.trans (gI_b rfl) (Eq.trans (gI_a rfl) (Eq.trans (gI_a rfl) (Eq.trans (gI_a rfl) (Eq.trans (gI_a rfl) (Eq.trans (gI_a rfl) (Eq.trans (gI_a rfl) hg3))))))))))))) ?_
      refine wp_lt ql_R_49_1 ?_
      refine wp_gd ql_K_51 ?_
      refine wp_gd (gZi ql_Z_51 qf_225) ?_
      refine wp_lt (gIk qf_46 (Eq.trans (gI_b rfl) (Eq.trans (gI_a rfl) (Eq.trans (gI_b rfl) (Eq.trans (gI_a rfl) (Eq.trans (gI_b rfl) (Eq.trans (gI_a rfl) (Eq.trans (gI_a rfl) (Eq.trans (gI_a rfl) (Eq.trans (gI_a rfl) (Eq.trans (gI_a rfl) (Eq.trans (gI_a rfl) (Eq.trans (gI_a rfl) (agI hI rfl ql_I_51_3)))))))))))))) ?_
      refine wp_ifp qf_395 ?_
      refine wp_ltr ?_
      refine wp_of (f_X4_feel_102.eq_1 ..) ?_
      refine wp_ifp qf_396 ?_
      refine wp_of (f_X4_feel_115.eq_1 ..) ?_
      refine wp_gd ql_K_49 ?_
      refine wp_lt ql_R_49_0 ?_
      refine wp_lt (if_neg c2) ?_
      refine wp_gd ql_K_50 ?_
      refine wp_gd (gZi ql_Z_50 qf_225) ?_
      refine wp_zIk qf_46 ?_
      refine wp_lt ql_R_49_1 ?_
      refine wp_gd ql_K_51 ?_
      refine wp_gd (gZi ql_Z_51 qf_225) ?_
      refine wp_zIk qf_46 ?_
      refine wp_ret_bd ?_
      refine wp_lt qf_227 ?_
      refine wp_of (f_X4_dance_56.eq_2 ..) ?_
      refine wp_ifn qf_228 ?_
      refine wp_bd ?_
      refine wp_of (f_X4_leastDislike.eq_1 ..) ?_
      refine wp_of (f_X4_leastDislike_7.eq_2 ..) ?_
      refine wp_gd ql_K_16 ?_
      refine wp_lt (gZo ql_Z_16 qf_92) ?_
      refine wp_ifn qf_298 ?_
      refine wp_gd (gZi ql_Z_16 qf_97) ?_
      refine wp_lt (gRk qf_32 ql_R_16_0) ?_
      refine wp_gd ql_K_17 ?_
      refine wp_lt ql_R_17_2 ?_
      refine wp_ifp qf_87 ?_
      refine wp_of (f_X4_leastDislike_76.eq_1 ..) ?_
      refine wp_lt qf_153 ?_
      refine wp_of (f_X4_leastDislike_7.eq_2 ..) ?_
      refine wp_gd ql_K_16 ?_
      refine wp_lt (gZo ql_Z_16 qf_92) ?_
      refine wp_ifn qf_299 ?_
      refine wp_gd (gZi ql_Z_16 qf_99) ?_
      refine wp_lt (gRk qf_36 ql_R_16_1) ?_
      refine wp_gd ql_K_25 ?_
      refine wp_lt ql_R_25_2 ?_
      refine wp_ifp qf_87 ?_
      refine wp_of (f_X4_leastDislike_76.eq_1 ..) ?_
      refine wp_lt qf_164 ?_
      refine wp_of (f_X4_leastDislike_7.eq_2 ..) ?_
      refine wp_gd ql_K_16 ?_
      refine wp_lt (gZo ql_Z_16 qf_92) ?_
      refine wp_ifn qf_300 ?_
      refine wp_gd (gZi ql_Z_16 qf_102) ?_
      refine wp_lt (gRk qf_41 ql_R_16_2) ?_
      refine wp_gd ql_K_33 ?_
      refine wp_lt ql_R_33_2 ?_
      refine wp_ifp qf_87 ?_
      refine wp_of (f_X4_leastDislike_76.eq_1 ..) ?_
      refine wp_lt qf_177 ?_
      refine wp_of (f_X4_leastDislike_7.eq_2 ..) ?_
      refine wp_gd ql_K_16 ?_
      refine wp_lt (gZo ql_Z_16 qf_92) ?_
      refine wp_ifn qf_301 ?_
      refine wp_gd (gZi ql_Z_16 qf_105) ?_
      refine wp_lt (gRk qf_46 ql_R_16_3) ?_
      refine wp_gd ql_K_41 ?_
      refine wp_lt ql_R_41_2 ?_
      refine wp_ifp qf_87 ?_
      refine wp_of (f_X4_leastDislike_76.eq_1 ..) ?_
      refine wp_lt qf_227 ?_
      refine wp_of (f_X4_leastDislike_7.eq_2 ..) ?_
      refine wp_gd ql_K_16 ?_
      refine wp_lt (gZo ql_Z_16 qf_92) ?_
      refine wp_ifp qf_302 ?_
      refine wp_ret_bd ?_
      refine wp_gd ql_K_49 ?_
      refine wp_bd ?_
      refine wp_of (f_X4_feel.eq_1 ..) ?_
      refine wp_ifn qf_48 ?_
      refine wp_gd ql_K_49 ?_
      refine wp_lt ql_R_49_0 ?_
      refine wp_gd ql_K_50 ?_
      refine wp_lt (gZo ql_Z_50 qf_214) ?_
      refine wp_ifn qf_228 ?_
      refine wp_lt ql_R_49_1 ?_
      refine wp_gd ql_K_51 ?_
      refine wp_lt (gZo ql_Z_51 qf_214) ?_
      refine wp_ifp qf_400 ?_
      refine wp_lt ql_R_49_0 ?_
      refine wp_gd ql_K_50 ?_
      refine wp_gd (gZi ql_Z_50 qf_229) ?_
      refine wp_lt (gIk qf_51 (Eq.trans (gI_a rfl) (Eq.trans (gI_b rfl) (Eq.trans (gI_a rfl) (Eq.trans (gI_b rfl) (Eq.trans (gI_a rfl) (Eq.trans (gI_b rfl) (Eq.trans (gI_a rfl) (Eq.trans (gI_b rfl) (Eq.trans (gI_a rfl) (Eq.trans (gI_a rfl) (Eq.trans (gI_a rfl) (Eq.trans (gI_a rfl) (Eq.trans (gI_a rfl) (Eq.trans (gI_a rfl) hg4))))))))))))))) ?_
      refine wp_lt ql_R_49_1 ?_
      refine wp_gd ql_K_51 ?_
      refine wp_gd (gZi ql_Z_51 qf_229) ?_
      refine wp_lt (gIk qf_51 (Eq.trans (gI_b rfl) (Eq.trans (gI_a rfl) (Eq.trans (gI_b rfl) (Eq.trans (gI_a rfl) (Eq.trans (gI_b rfl) (Eq.trans (gI_a rfl) (Eq.trans (gI_b rfl) (Eq.trans (gI_a rfl) (Eq.trans (gI_a rfl) (Eq.trans (gI_a rfl) (Eq.trans (gI_a rfl) (Eq.trans (gI_a rfl) (Eq.trans (gI_a rfl) (Eq.trans (gI_a rfl) (agI hI rfl ql_I_51_4)))))))))))))))) ?_
      refine wp_ifp qf_395 ?_
      refine wp_ltr ?_
      refine wp_of (f_X4_feel_102.eq_1 ..) ?_
      refine wp_ifp qf_396 ?_
      refine wp_of (f_X4_feel_115.eq_1 ..) ?_
      refine wp_gd ql_K_49 ?_
      refine wp_lt ql_R_49_0 ?_
      refine wp_lt (if_neg c2) ?_
      refine wp_gd ql_K_50 ?_
      refine wp_gd (gZi ql_Z_50 qf_229) ?_
      refine wp_zIk qf_51 ?_
      refine wp_lt ql_R_49_1 ?_
      refine wp_gd ql_K_51 ?_
      refine wp_gd (gZi ql_Z_51 qf_229) ?_
      refine wp_zIk qf_51 ?_
      refine wp_ret_bd ?_
      refine wp_lt qf_231 ?_
      refine wp_of (f_X4_dance_56.eq_2 ..) ?_
      refine wp_ifn qf_232 ?_
      refine wp_bd ?_
      refine wp_of (f_X4_leastDislike.eq_1 ..) ?_
      refine wp_of (f_X4_leastDislike_7.eq_2 ..) ?_
      refine wp_gd ql_K_16 ?_
      refine wp_lt (gZo ql_Z_16 qf_92) ?_
      refine wp_ifn qf_298 ?_
      refine wp_gd (gZi ql_Z_16 qf_97) ?_
      refine wp_lt (gRk qf_32 ql_R_16_0) ?_
      refine wp_gd ql_K_17 ?_
      refine wp_lt ql_R_17_2 ?_
      refine wp_ifp qf_87 ?_
      refine wp_of (f_X4_leastDislike_76.eq_1 ..) ?_
      refine wp_lt qf_153 ?_
      refine wp_of (f_X4_leastDislike_7.eq_2 ..) ?_
      refine wp_gd ql_K_16 ?_
      refine wp_lt (gZo ql_Z_16 qf_92) ?_
      refine wp_ifn qf_299 ?_
      refine wp_gd (gZi ql_Z_16 qf_99) ?_
      refine wp_lt (gRk qf_36 ql_R_16_1) ?_
      refine wp_gd ql_K_25 ?_
      refine wp_lt ql_R_25_2 ?_
      refine wp_ifp qf_87 ?_
      refine wp_of (f_X4_leastDislike_76.eq_1 ..) ?_
      refine wp_lt qf_164 ?_
      refine wp_of (f_X4_leastDislike_7.eq_2 ..) ?_
      refine wp_gd ql_K_16 ?_
      refine wp_lt (gZo ql_Z_16 qf_92) ?_
      refine wp_ifn qf_300 ?_
      refine wp_gd (gZi ql_Z_16 qf_102) ?_
      refine wp_lt (gRk qf_41 ql_R_16_2) ?_
      refine wp_gd ql_K_33 ?_
      refine wp_lt ql_R_33_2 ?_
      refine wp_ifp qf_87 ?_
      refine wp_of (f_X4_leastDislike_76.eq_1 ..) ?_
      refine wp_lt qf_177 ?_
      refine wp_of (f_X4_leastDislike_7.eq_2 ..) ?_
      refine wp_gd ql_K_16 ?_
      refine wp_lt (gZo ql_Z_16 qf_92) ?_
      refine wp_ifn qf_301 ?_
      refine wp_gd (gZi ql_Z_16 qf_105) ?_
      refine wp_lt (gRk qf_46 ql_R_16_3) ?_
      refine wp_gd ql_K_41 ?_
      refine wp_lt ql_R_41_2 ?_
      refine wp_ifp qf_87 ?_
      refine wp_of (f_X4_leastDislike_76.eq_1 ..) ?_
      refine wp_lt qf_227 ?_
      refine wp_of (f_X4_leastDislike_7.eq_2 ..) ?_
      refine wp_gd ql_K_16 ?_
      refine wp_lt (gZo ql_Z_16 qf_92) ?_
      refine wp_ifp qf_302 ?_
      refine wp_ret_bd ?_
      refine wp_gd ql_K_49 ?_
      refine wp_bd ?_
      refine wp_of (f_X4_feel.eq_1 ..) ?_
      refine wp_ifn qf_53 ?_
      refine wp_gd ql_K_49 ?_
      refine wp_lt ql_R_49_0 ?_
      refine wp_gd ql_K_50 ?_
      refine wp_lt (gZo ql_Z_50 qf_214) ?_
      refine wp_ifn qf_232 ?_
      refine wp_lt ql_R_49_1 ?_
      refine wp_gd ql_K_51 ?_
      refine wp_lt (gZo ql_Z_51 qf_214) ?_
      refine wp_ifp qf_401 ?_
      refine wp_lt ql_R_49_0 ?_
      refine wp_gd ql_K_50 ?_
      refine wp_gd (gZi ql_Z_50 qf_233) ?_
      refine wp_lt (gIk qf_56 (Eq.trans (gI_a rfl) (Eq.trans (gI_b rfl) (Eq.trans (gI_a rfl) (Eq.trans (gI_b rfl) (Eq.trans (gI_a rfl) (Eq.trans (gI_b rfl) (Eq.trans (gI_a rfl) (Eq.trans (gI_b rfl) (Eq.trans (gI_a rfl) (Eq.trans (gI_b rfl) (Eq.trans (gI_a rfl) (Eq.trans (gI_a rfl) (Eq.trans (gI_a rfl) (Eq.trans (gI_a rfl) (Eq.trans (gI_a rfl) (Eq.trans (gI_a rfl) hg5))))))))))))))))) ?_
      refine wp_lt ql_R_49_1 ?_
      refine wp_gd ql_K_51 ?_
      refine wp_gd (gZi ql_Z_51 qf_233) ?_
      refine wp_lt (gIk qf_56 (Eq.trans (gI_b rfl) (Eq.trans (gI_a rfl) (Eq.trans (gI_b rfl) (Eq.trans (gI_a rfl) (Eq.trans (gI_b rfl) (Eq.trans (gI_a rfl) (Eq.trans (gI_b rfl) (Eq.trans (gI_a rfl) (Eq.trans (gI_b rfl) (Eq.trans (gI_a rfl) (Eq.trans (gI_a rfl) (Eq.trans (gI_a rfl) (Eq.trans (gI_a rfl) (Eq.trans (gI_a rfl) (Eq.trans (gI_a rfl) (Eq.trans (gI_a rfl) (agI hI rfl ql_I_51_5)))))))))))))))))) ?_
      refine wp_ifp qf_395 ?_
      refine wp_ltr ?_
      refine wp_of (f_X4_feel_102.eq_1 ..) ?_
      refine wp_ifp qf_396 ?_
      refine wp_of (f_X4_feel_115.eq_1 ..) ?_
      refine wp_gd ql_K_49 ?_
      refine wp_lt ql_R_49_0 ?_
      refine wp_lt (if_neg c2) ?_
      refine wp_gd ql_K_50 ?_
      refine wp_gd (gZi ql_Z_50 qf_233) ?_
      refine wp_zIk qf_56 ?_
      refine wp_lt ql_R_49_1 ?_
      refine wp_gd ql_K_51 ?_
      refine wp_gd (gZi ql_Z_51 qf_233) ?_
      refine wp_zIk qf_56 ?_
      refine wp_ret_bd ?_
      refine wp_lt qf_235 ?_
      refine wp_of (f_X4_dance_56.eq_2 ..) ?_
      refine wp_ifp qf_236 ?_
      refine wp_ret_bd ?_
      refine wp_gd ql_K_2 ?_
      refine wp_lt ql_R_2_3 ?_
      refine wp_lt (Eq.trans (gI_a rfl) (Eq.trans (gI_a rfl) (Eq.trans (gI_a rfl) (Eq.trans (gI_a rfl) (Eq.trans (gI_a rfl) (Eq.trans (gI_a rfl) (Eq.trans (gI_a rfl) (Eq.trans (gI_a rfl) (Eq.trans (gI_a rfl) (Eq.trans (gI_a rfl) (Eq.trans (gI_a rfl) (Eq.trans (gI_a rfl) (Eq.trans (gI_b rfl) (Eq.trans (gI_b rfl) (Eq.trans (gI_b rfl) (Eq.trans (gI_a rfl) (Eq.trans (gI_b rfl) gI_s))))))))))))))))) ?_
      refine wp_gd ql_K_52 ?_
      refine wp_bd ?_
      refine wp_of (f_X5_judge.eq_1 ..) ?_
      refine wp_ltr ?_
      refine wp_gd qf_402 ?_
      refine wp_lt hj ?_
      refine wp_bd ?_
      refine wp_of (f_J9_floorMod_7cf53.eq_1 ..) ?_
      refine wp_gd qf_403 ?_
      refine wp_lt qf_404 ?_
      refine wp_lt qf_405 ?_
      refine wp_ifp qf_406 ?_
      refine wp_of (f_J9_floorMod_7cf53_18.eq_1 ..) ?_
      refine wp_ret_bd ?_
      refine wp_gd ql_K_52 ?_
      refine wp_lt (Eq.trans (gI_a rfl) (Eq.trans (gI_a rfl) (Eq.trans (gI_a rfl) (Eq.trans (gI_a rfl) (Eq.trans (gI_a rfl) (Eq.trans (gI_a rfl) (Eq.trans (gI_a rfl) (Eq.trans (gI_a rfl) (Eq.trans (gI_a rfl) (Eq.trans (gI_a rfl) (Eq.trans (gI_a rfl) (Eq.trans (gI_a rfl) (Eq.trans (gI_a rfl) (Eq.trans (gI_a rfl) (Eq.trans (gI_a rfl) gI_s))))))))))))))) ?_
      refine wp_gd qf_393 ?_
      refine wp_lt qf_407 ?_
      refine wp_lt ql_R_52_0 ?_
      refine wp_gd ql_K_53 ?_
      refine wp_lt (gZo ql_Z_53 qf_92) ?_
      refine wp_ifn qf_298 ?_
      refine wp_lt ql_R_52_0 ?_
      refine wp_gd ql_K_53 ?_
      refine wp_gd (gZi ql_Z_53 qf_97) ?_
      refine wp_lt (gIk qf_32 (Eq.trans (gI_a rfl) (Eq.trans (gI_a rfl) (Eq.trans (gI_a rfl) (Eq.trans (gI_a rfl) (Eq.trans (gI_a rfl) (Eq.trans (gI_a rfl) (Eq.trans (gI_a rfl) (Eq.trans (gI_a rfl) (Eq.trans (gI_a rfl) (Eq.trans (gI_a rfl) (Eq.trans (gI_a rfl) (Eq.trans (gI_a rfl) (Eq.trans (gI_a rfl) (Eq.trans (gI_a rfl) (Eq.trans (gI_a rfl) (Eq.trans (gI_a rfl) (Eq.trans (gI_a rfl) (Eq.trans (gI_a rfl) (agI hI rfl ql_I_53_0)))))))))))))))))))) ?_
      refine wp_ifp qf_408 ?_
      refine wp_of (f_X5_judge_48.eq_1 ..) ?_
      refine wp_gd ql_K_52 ?_
      refine wp_zI ?_
      refine wp_ret_bd ?_
      refine wp_of (f_X8_run_70.eq_1 ..) ?_
      refine wp_ltr ?_
      exact hrc _ _ _ _ _ rfl rfl ⟨(ag_p2s (lkI ql_I_52_2) (ag_p2s (lkI ql_I_51_5) (ag_p2 rfl (ag_p2s (lkI ql_I_51_4) (ag_p2 rfl (ag_p2s (lkI ql_I_51_3) (ag_p2 rfl (ag_p2s (lkI ql_I_51_2) (ag_p2 rfl (ag_p2s (lkI ql_I_51_1) (ag_p2 rfl (ag_p2s (lkI ql_I_51_0) (ag_p2 rfl (ag_p2s (lkI ql_I_2_10) (ag_p2s (lkI ql_I_2_9) (ag_p2 rfl (ag_p2s (lkI ql_I_52_2) (ag_p2s (lkI ql_I_2_11) (ag_p2 rfl hI))))))))))))))))))), (ag_p2s (lkL ql_L_2_12) hL), (Eq.trans (gI_a rfl) (Eq.trans (gI_a rfl) (Eq.trans (gI_a rfl) (Eq.trans (gI_a rfl) (Eq.trans (gI_a rfl) (Eq.trans (gI_a rfl) (Eq.trans (gI_a rfl) (Eq.trans (gI_a rfl) (Eq.trans (gI_a rfl) (Eq.trans (gI_a rfl) (Eq.trans (gI_a rfl) (Eq.trans (gI_a rfl) (Eq.trans (gI_a rfl) (Eq.trans (gI_b rfl) (Eq.trans (gI_b rfl) (Eq.trans (gI_b rfl) (Eq.trans (gI_a rfl) (Eq.trans (gI_b rfl) gI_s)))))))))))))))))), (Eq.trans (gI_a rfl) (Eq.trans (gI_a rfl) (Eq.trans (gI_a rfl) (Eq.trans (gI_a rfl) (Eq.trans (gI_a rfl) (Eq.trans (gI_a rfl) (Eq.trans (gI_a rfl) (Eq.trans (gI_a rfl) (Eq.trans (gI_a rfl) (Eq.trans (gI_a rfl) (Eq.trans (gI_a rfl) (Eq.trans (gI_a rfl) (Eq.trans (gI_a rfl) (Eq.trans (gI_b rfl) (Eq.trans (gI_b rfl) gI_s))))))))))))))), (Eq.trans (gI_a rfl) (Eq.trans (gI_a rfl) (Eq.trans (gI_b rfl) (Eq.trans (gI_a rfl) (Eq.trans (gI_b rfl) (Eq.trans (gI_a rfl) (Eq.trans (gI_b rfl) (Eq.trans (gI_a rfl) (Eq.trans (gI_b rfl) (Eq.trans (gI_a rfl) (Eq.trans (gI_b rfl) (Eq.trans (gI_a rfl) gI_s)))))))))))), (Eq.trans (gI_a rfl) (Eq.trans (gI_a rfl) (Eq.trans (gI_b rfl) (Eq.trans (gI_a rfl) (Eq.trans (gI_b rfl) (Eq.trans (gI_a rfl) (Eq.trans (gI_b rfl) (Eq.trans (gI_a rfl) (Eq.trans (gI_b rfl) (Eq.trans (gI_a rfl) gI_s)))))))))), (Eq.trans (gI_a rfl) (Eq.trans (gI_a rfl) (Eq.trans (gI_b rfl) (Eq.trans (gI_a rfl) (Eq.trans (gI_b rfl) (Eq.trans (gI_a rfl) (Eq.trans (gI_b rfl) (Eq.trans (gI_a rfl) gI_s)))))))), (Eq.trans (gI_a rfl) (Eq.trans (gI_a rfl) (Eq.trans (gI_b rfl) (Eq.trans (gI_a rfl) (Eq.trans (gI_b rfl) (Eq.trans (gI_a rfl) gI_s)))))), (Eq.trans (gI_a rfl) (Eq.trans (gI_a rfl) (Eq.trans (gI_b rfl) (Eq.trans (gI_a rfl) gI_s)))), (Eq.trans (gI_a rfl) (Eq.trans (gI_a rfl) gI_s))⟩
  · skip
    refine wp_of (f_X8_run_70.eq_1 ..) ?_
    refine wp_ltr ?_
    exact hrc _ _ _ _ _ rfl rfl ⟨(ag_p2s (lkI ql_I_2_10) (ag_p2s (lkI ql_I_2_9) (ag_p2 rfl (ag_p2s (lkI ql_I_52_2) (ag_p2s (lkI ql_I_2_11) (ag_p2 rfl hI)))))), (ag_p2s (lkL ql_L_2_12) hL), (Eq.trans (gI_b rfl) (Eq.trans (gI_b rfl) (Eq.trans (gI_b rfl) (Eq.trans (gI_a rfl) (Eq.trans (gI_b rfl) gI_s))))), (Eq.trans (gI_b rfl) (Eq.trans (gI_b rfl) gI_s)), (Eq.trans (gI_a rfl) (Eq.trans (gI_a rfl) (Eq.trans (gI_a rfl) (Eq.trans (gI_a rfl) (Eq.trans (gI_a rfl) (Eq.trans (gI_a rfl) hg0)))))), (Eq.trans (gI_a rfl) (Eq.trans (gI_a rfl) (Eq.trans (gI_a rfl) (Eq.trans (gI_a rfl) (Eq.trans (gI_a rfl) (Eq.trans (gI_a rfl) hg1)))))), (Eq.trans (gI_a rfl) (Eq.trans (gI_a rfl) (Eq.trans (gI_a rfl) (Eq.trans (gI_a rfl) (Eq.trans (gI_a rfl) (Eq.trans (gI_a rfl) hg2)))))), (Eq.trans (gI_a rfl) (Eq.trans (gI_a rfl) (Eq.trans (gI_a rfl) (Eq.trans (gI_a rfl) (Eq.trans (gI_a rfl) (Eq.trans (gI_a rfl) hg3)))))), (Eq.trans (gI_a rfl) (Eq.trans (gI_a rfl) (Eq.trans (gI_a rfl) (Eq.trans (gI_a rfl) (Eq.trans (gI_a rfl) (Eq.trans (gI_a rfl) hg4)))))), (Eq.trans (gI_a rfl) (Eq.trans (gI_a rfl) (Eq.trans (gI_a rfl) (Eq.trans (gI_a rfl) (Eq.trans (gI_a rfl) (Eq.trans (gI_a rfl) hg5))))))⟩
end TICKS
