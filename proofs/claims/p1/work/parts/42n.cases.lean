section CASES13
set_option maxRecDepth 100000 in
set_option maxHeartbeats 4000000 in
theorem cs_52 {xs : Nat → Int32} {rc : mS → Nat → Nat → Nat → Nat → Int32 → Option (Rs Int32)} {Q : Rs Int32 → Prop} (hrc : ∀ S, WP Q (rc S 1 149 173 174 8)) : WP Q (f_L_law_3447 8 xs rc (M3I, M3L, M3R, M3D, M3K, M3Z, 174) 1 149 173 174 0) := by
  refine wp_of (f_L_law_3447.eq_1 ..) ?_
  refine wp_gd ql_K_1 ?_
  refine wp_bd ?_
  refine wp_of (f_X10_logged.eq_1 ..) ?_
  refine wp_gd ql_K_1 ?_
  refine wp_lt ql_R_1_2 ?_
  refine wp_gd ql_K_106 ?_
  refine wp_lt ql_I_106_2 ?_
  refine wp_ret_bd ?_
  refine wp_gd ql_K_149 ?_
  refine wp_bd ?_
  refine wp_of (f_X13_logged.eq_1 ..) ?_
  refine wp_gd ql_K_149 ?_
  refine wp_lt ql_I_149_16 ?_
  refine wp_bd ?_
  refine wp_of (f_X13_plain.eq_1 ..) ?_
  refine wp_gd ql_K_149 ?_
  refine wp_zI ?_
  refine wp_ret_bd ?_
  refine wp_ret_bd ?_
  refine wp_ifp qf_15 ?_
  refine wp_of (f_L_law_3632.eq_1 ..) ?_
  refine wp_lt qf_21 ?_
  exact hrc _
set_option maxRecDepth 100000 in
set_option maxHeartbeats 4000000 in
theorem cs_53 {xs : Nat → Int32} {rc : mS → Nat → Nat → Nat → Nat → Int32 → Option (Rs Int32)} {Q : Rs Int32 → Prop} (hrc : ∀ S, WP Q (rc S 1 149 173 174 8)) : WP Q (f_L_law_3460 8 xs rc (M3I, M3L, M3R, M3D, M3K, M3Z, 174) 1 149 173 174 0) := by
  refine wp_of (f_L_law_3460.eq_1 ..) ?_
  refine wp_gd ql_K_1 ?_
  refine wp_bd ?_
  refine wp_of (f_X10_print.eq_1 ..) ?_
  refine wp_gd ql_K_1 ?_
  refine wp_lt ql_R_1_0 ?_
  refine wp_gd ql_K_2 ?_
  refine wp_bd ?_
  refine wp_of (f_X8_fingerprint.eq_1 ..) ?_
  refine wp_of (f_X8_fingerprint_6.eq_2 ..) ?_
  refine wp_gd ql_K_2 ?_
  refine wp_lt ql_R_2_1 ?_
  refine wp_gd ql_K_16 ?_
  refine wp_lt (gZo ql_Z_16 qf_92) ?_
  refine wp_ifn qf_298 ?_
  refine wp_lt qf_363 ?_
  refine wp_lt ql_R_2_1 ?_
  refine wp_gd ql_K_16 ?_
  refine wp_gd (gZi ql_Z_16 qf_97) ?_
  refine wp_lt (gRk qf_32 ql_R_16_0) ?_
  refine wp_gd ql_K_17 ?_
  refine wp_lt ql_L_17_3 ?_
  refine wp_lt qf_364 ?_
  refine wp_lt qf_153 ?_
  refine wp_of (f_X8_fingerprint_6.eq_2 ..) ?_
  refine wp_gd ql_K_2 ?_
  refine wp_lt ql_R_2_1 ?_
  refine wp_gd ql_K_16 ?_
  refine wp_lt (gZo ql_Z_16 qf_92) ?_
  refine wp_ifn qf_299 ?_
  refine wp_lt qf_365 ?_
  refine wp_lt ql_R_2_1 ?_
  refine wp_gd ql_K_16 ?_
  refine wp_gd (gZi ql_Z_16 qf_99) ?_
  refine wp_lt (gRk qf_36 ql_R_16_1) ?_
  refine wp_gd ql_K_25 ?_
  refine wp_lt ql_L_25_3 ?_
  refine wp_lt qf_366 ?_
  refine wp_lt qf_164 ?_
  refine wp_of (f_X8_fingerprint_6.eq_2 ..) ?_
  refine wp_gd ql_K_2 ?_
  refine wp_lt ql_R_2_1 ?_
  refine wp_gd ql_K_16 ?_
  refine wp_lt (gZo ql_Z_16 qf_92) ?_
  refine wp_ifn qf_300 ?_
  refine wp_lt qf_367 ?_
  refine wp_lt ql_R_2_1 ?_
  refine wp_gd ql_K_16 ?_
  refine wp_gd (gZi ql_Z_16 qf_102) ?_
  refine wp_lt (gRk qf_41 ql_R_16_2) ?_
  refine wp_gd ql_K_33 ?_
  refine wp_lt ql_L_33_3 ?_
  refine wp_lt qf_368 ?_
  refine wp_lt qf_177 ?_
  refine wp_of (f_X8_fingerprint_6.eq_2 ..) ?_
  refine wp_gd ql_K_2 ?_
  refine wp_lt ql_R_2_1 ?_
  refine wp_gd ql_K_16 ?_
  refine wp_lt (gZo ql_Z_16 qf_92) ?_
  refine wp_ifn qf_301 ?_
  refine wp_lt qf_369 ?_
  refine wp_lt ql_R_2_1 ?_
  refine wp_gd ql_K_16 ?_
  refine wp_gd (gZi ql_Z_16 qf_105) ?_
  refine wp_lt (gRk qf_46 ql_R_16_3) ?_
  refine wp_gd ql_K_41 ?_
  refine wp_lt ql_L_41_3 ?_
  refine wp_lt qf_370 ?_
  refine wp_lt qf_227 ?_
  refine wp_of (f_X8_fingerprint_6.eq_2 ..) ?_
  refine wp_gd ql_K_2 ?_
  refine wp_lt ql_R_2_1 ?_
  refine wp_gd ql_K_16 ?_
  refine wp_lt (gZo ql_Z_16 qf_92) ?_
  refine wp_ifp qf_302 ?_
  refine wp_lt qf_371 ?_
  refine wp_lt ql_I_2_7 ?_
  refine wp_lt qf_70 ?_
  refine wp_lt qf_372 ?_
  refine wp_lt qf_373 ?_
  refine wp_lt ql_I_2_8 ?_
  refine wp_lt qf_70 ?_
  refine wp_lt qf_374 ?_
  refine wp_lt qf_375 ?_
  refine wp_lt ql_I_2_9 ?_
  refine wp_lt qf_70 ?_
  refine wp_lt qf_376 ?_
  refine wp_lt qf_377 ?_
  refine wp_lt ql_I_2_10 ?_
  refine wp_lt qf_70 ?_
  refine wp_lt qf_378 ?_
  refine wp_lt qf_379 ?_
  refine wp_lt ql_R_2_2 ?_
  refine wp_gd ql_K_49 ?_
  refine wp_bd ?_
  refine wp_of (f_X4_everybody.eq_1 ..) ?_
  refine wp_of (f_X4_everybody_4.eq_2 ..) ?_
  refine wp_gd ql_K_49 ?_
  refine wp_lt ql_R_49_0 ?_
  refine wp_gd ql_K_50 ?_
  refine wp_lt (gZo ql_Z_50 qf_214) ?_
  refine wp_ifn qf_215 ?_
  refine wp_lt ql_R_49_0 ?_
  refine wp_gd ql_K_50 ?_
  refine wp_gd (gZi ql_Z_50 qf_216) ?_
  refine wp_lt (gIk qf_32 ql_I_50_0) ?_
  refine wp_lt qf_217 ?_
  refine wp_lt qf_153 ?_
  refine wp_of (f_X4_everybody_4.eq_2 ..) ?_
  refine wp_gd ql_K_49 ?_
  refine wp_lt ql_R_49_0 ?_
  refine wp_gd ql_K_50 ?_
  refine wp_lt (gZo ql_Z_50 qf_214) ?_
  refine wp_ifn qf_218 ?_
  refine wp_lt ql_R_49_0 ?_
  refine wp_gd ql_K_50 ?_
  refine wp_gd (gZi ql_Z_50 qf_219) ?_
  refine wp_lt (gIk qf_36 ql_I_50_1) ?_
  refine wp_lt qf_220 ?_
  refine wp_lt qf_164 ?_
  refine wp_of (f_X4_everybody_4.eq_2 ..) ?_
  refine wp_gd ql_K_49 ?_
  refine wp_lt ql_R_49_0 ?_
  refine wp_gd ql_K_50 ?_
  refine wp_lt (gZo ql_Z_50 qf_214) ?_
  refine wp_ifn qf_221 ?_
  refine wp_lt ql_R_49_0 ?_
  refine wp_gd ql_K_50 ?_
  refine wp_gd (gZi ql_Z_50 qf_222) ?_
  refine wp_lt (gIk qf_41 ql_I_50_2) ?_
  refine wp_lt qf_223 ?_
  refine wp_lt qf_177 ?_
  refine wp_of (f_X4_everybody_4.eq_2 ..) ?_
  refine wp_gd ql_K_49 ?_
  refine wp_lt ql_R_49_0 ?_
  refine wp_gd ql_K_50 ?_
  refine wp_lt (gZo ql_Z_50 qf_214) ?_
  refine wp_ifn qf_224 ?_
  refine wp_lt ql_R_49_0 ?_
  refine wp_gd ql_K_50 ?_
  refine wp_gd (gZi ql_Z_50 qf_225) ?_
  refine wp_lt (gIk qf_46 ql_I_50_3) ?_
  refine wp_lt qf_226 ?_
  refine wp_lt qf_227 ?_
  refine wp_of (f_X4_everybody_4.eq_2 ..) ?_
  refine wp_gd ql_K_49 ?_
  refine wp_lt ql_R_49_0 ?_
  refine wp_gd ql_K_50 ?_
  refine wp_lt (gZo ql_Z_50 qf_214) ?_
  refine wp_ifn qf_228 ?_
  refine wp_lt ql_R_49_0 ?_
  refine wp_gd ql_K_50 ?_
  refine wp_gd (gZi ql_Z_50 qf_229) ?_
  refine wp_lt (gIk qf_51 ql_I_50_4) ?_
  refine wp_lt qf_230 ?_
  refine wp_lt qf_231 ?_
  refine wp_of (f_X4_everybody_4.eq_2 ..) ?_
  refine wp_gd ql_K_49 ?_
  refine wp_lt ql_R_49_0 ?_
  refine wp_gd ql_K_50 ?_
  refine wp_lt (gZo ql_Z_50 qf_214) ?_
  refine wp_ifn qf_232 ?_
  refine wp_lt ql_R_49_0 ?_
  refine wp_gd ql_K_50 ?_
  refine wp_gd (gZi ql_Z_50 qf_233) ?_
  refine wp_lt (gIk qf_56 ql_I_50_5) ?_
  refine wp_lt qf_234 ?_
  refine wp_lt qf_235 ?_
  refine wp_of (f_X4_everybody_4.eq_2 ..) ?_
  refine wp_gd ql_K_49 ?_
  refine wp_lt ql_R_49_0 ?_
  refine wp_gd ql_K_50 ?_
  refine wp_lt (gZo ql_Z_50 qf_214) ?_
  refine wp_ifp qf_236 ?_
  refine wp_ret_bd ?_
  refine wp_lt qf_237 ?_
  refine wp_lt qf_380 ?_
  refine wp_lt qf_381 ?_
  refine wp_gd ql_K_2 ?_
  refine wp_lt ql_R_2_3 ?_
  refine wp_gd ql_K_52 ?_
  refine wp_lt ql_I_52_1 ?_
  refine wp_lt qf_70 ?_
  refine wp_lt qf_382 ?_
  refine wp_ret_bd ?_
  refine wp_ret_bd ?_
  refine wp_gd ql_K_149 ?_
  refine wp_bd ?_
  refine wp_of (f_X13_print.eq_1 ..) ?_
  refine wp_gd ql_K_149 ?_
  refine wp_zI ?_
  refine wp_lt ql_R_149_2 ?_
  refine wp_gd ql_K_151 ?_
  refine wp_lt (gZo ql_Z_151 qf_92) ?_
  refine wp_of (f_X13_print_21.eq_2 ..) ?_
  refine wp_ifn qf_298 ?_
  refine wp_gd ql_K_151 ?_
  refine wp_gd (gZi ql_Z_151 qf_97) ?_
  refine wp_lt (gRk qf_32 ql_R_151_0) ?_
  refine wp_lt qf_363 ?_
  refine wp_gd ql_K_152 ?_
  refine wp_lt ql_R_152_0 ?_
  refine wp_ifp qf_87 ?_
  refine wp_of (f_X13_print_56.eq_1 ..) ?_
  refine wp_lt qf_364 ?_
  refine wp_lt qf_153 ?_
  refine wp_of (f_X13_print_21.eq_2 ..) ?_
  refine wp_ifn qf_299 ?_
  refine wp_gd ql_K_151 ?_
  refine wp_gd (gZi ql_Z_151 qf_99) ?_
  refine wp_lt (gRk qf_36 ql_R_151_1) ?_
  refine wp_lt qf_365 ?_
  refine wp_gd ql_K_156 ?_
  refine wp_lt ql_R_156_0 ?_
  refine wp_ifp qf_87 ?_
  refine wp_of (f_X13_print_56.eq_1 ..) ?_
  refine wp_lt qf_366 ?_
  refine wp_lt qf_164 ?_
  refine wp_of (f_X13_print_21.eq_2 ..) ?_
  refine wp_ifn qf_300 ?_
  refine wp_gd ql_K_151 ?_
  refine wp_gd (gZi ql_Z_151 qf_102) ?_
  refine wp_lt (gRk qf_41 ql_R_151_2) ?_
  refine wp_lt qf_367 ?_
  refine wp_gd ql_K_160 ?_
  refine wp_lt ql_R_160_0 ?_
  refine wp_ifp qf_87 ?_
  refine wp_of (f_X13_print_56.eq_1 ..) ?_
  refine wp_lt qf_368 ?_
  refine wp_lt qf_177 ?_
  refine wp_of (f_X13_print_21.eq_2 ..) ?_
  refine wp_ifn qf_301 ?_
  refine wp_gd ql_K_151 ?_
  refine wp_gd (gZi ql_Z_151 qf_105) ?_
  refine wp_lt (gRk qf_46 ql_R_151_3) ?_
  refine wp_lt qf_369 ?_
  refine wp_gd ql_K_164 ?_
  refine wp_lt ql_R_164_0 ?_
  refine wp_ifp qf_87 ?_
  refine wp_of (f_X13_print_56.eq_1 ..) ?_
  refine wp_lt qf_370 ?_
  refine wp_lt qf_227 ?_
  refine wp_of (f_X13_print_21.eq_2 ..) ?_
  refine wp_ifp qf_302 ?_
  refine wp_gd ql_K_149 ?_
  refine wp_lt ql_R_149_3 ?_
  refine wp_gd ql_K_168 ?_
  refine wp_lt (gZo ql_Z_168 qf_214) ?_
  refine wp_of (f_X13_print_80.eq_2 ..) ?_
  refine wp_ifn qf_215 ?_
  refine wp_gd ql_K_168 ?_
  refine wp_gd (gZi ql_Z_168 qf_216) ?_
  refine wp_lt (gIk qf_32 (Eq.trans (gI_a rfl) ql_I_168_0)) ?_
  refine wp_lt qf_217 ?_
  refine wp_lt qf_153 ?_
  refine wp_of (f_X13_print_80.eq_2 ..) ?_
  refine wp_ifn qf_218 ?_
  refine wp_gd ql_K_168 ?_
  refine wp_gd (gZi ql_Z_168 qf_219) ?_
  refine wp_lt (gIk qf_36 (Eq.trans (gI_a rfl) ql_I_168_1)) ?_
  refine wp_lt qf_220 ?_
  refine wp_lt qf_164 ?_
  refine wp_of (f_X13_print_80.eq_2 ..) ?_
  refine wp_ifn qf_221 ?_
  refine wp_gd ql_K_168 ?_
  refine wp_gd (gZi ql_Z_168 qf_222) ?_
  refine wp_lt (gIk qf_41 (Eq.trans (gI_a rfl) ql_I_168_2)) ?_
  refine wp_lt qf_223 ?_
  refine wp_lt qf_177 ?_
  refine wp_of (f_X13_print_80.eq_2 ..) ?_
  refine wp_ifn qf_224 ?_
  refine wp_gd ql_K_168 ?_
  refine wp_gd (gZi ql_Z_168 qf_225) ?_
  refine wp_lt (gIk qf_46 (Eq.trans (gI_a rfl) ql_I_168_3)) ?_
  refine wp_lt qf_226 ?_
  refine wp_lt qf_227 ?_
  refine wp_of (f_X13_print_80.eq_2 ..) ?_
  refine wp_ifn qf_228 ?_
  refine wp_gd ql_K_168 ?_
  refine wp_gd (gZi ql_Z_168 qf_229) ?_
  refine wp_lt (gIk qf_51 (Eq.trans (gI_a rfl) ql_I_168_4)) ?_
  refine wp_lt qf_230 ?_
  refine wp_lt qf_231 ?_
  refine wp_of (f_X13_print_80.eq_2 ..) ?_
  refine wp_ifn qf_232 ?_
  refine wp_gd ql_K_168 ?_
  refine wp_gd (gZi ql_Z_168 qf_233) ?_
  refine wp_lt (gIk qf_56 (Eq.trans (gI_a rfl) ql_I_168_5)) ?_
  refine wp_lt qf_234 ?_
  refine wp_lt qf_235 ?_
  refine wp_of (f_X13_print_80.eq_2 ..) ?_
  refine wp_ifp qf_236 ?_
  refine wp_gd (gNk (n := 174) qf_74) ?_
  refine wp_zW (m := 175) rfl ?_
  refine wp_lt (show _ = 175 from rfl) ?_
  refine wp_gd (Eq.trans (gK_w rfl) ql_K_149) ?_
  refine wp_lt (Eq.trans (gI_w rfl) (Eq.trans (gI_b rfl) ql_I_149_9)) ?_
  refine wp_gd (gZi gZ_n qf_216) ?_
  refine wp_zIk qf_32 ?_
  refine wp_lt (Eq.trans (gI_a rfl) (Eq.trans (gI_w rfl) (Eq.trans (gI_b rfl) ql_I_149_11))) ?_
  refine wp_gd (gZi gZ_n qf_219) ?_
  refine wp_zIk qf_36 ?_
  refine wp_lt (Eq.trans (gI_a rfl) (Eq.trans (gI_a rfl) (Eq.trans (gI_w rfl) (Eq.trans (gI_b rfl) ql_I_149_12)))) ?_
  refine wp_gd (gZi gZ_n qf_222) ?_
  refine wp_zIk qf_41 ?_
  refine wp_lt (Eq.trans (gI_a rfl) (Eq.trans (gI_a rfl) (Eq.trans (gI_a rfl) (Eq.trans (gI_w rfl) (Eq.trans (gI_b rfl) ql_I_149_13))))) ?_
  refine wp_gd (gZi gZ_n qf_225) ?_
  refine wp_zIk qf_46 ?_
  refine wp_gd (gZi gZ_n qf_229) ?_
  refine wp_zIk qf_51 ?_
  refine wp_lt (Eq.trans (gI_a rfl) (Eq.trans (gI_a rfl) (Eq.trans (gI_a rfl) (Eq.trans (gI_a rfl) (Eq.trans (gI_a rfl) (Eq.trans (gI_w rfl) (Eq.trans (gI_b rfl) ql_I_149_14))))))) ?_
  refine wp_gd (gZi gZ_n qf_233) ?_
  refine wp_zIk qf_56 ?_
  refine wp_lt (gZo gZ_n qf_214) ?_
  refine wp_of (f_X13_print_162.eq_2 ..) ?_
  refine wp_ifn qf_215 ?_
  refine wp_gd gK_n ?_
  refine wp_gd (gZi gZ_n qf_216) ?_
  refine wp_lt (gIk qf_32 (Eq.trans (gI_b rfl) (Eq.trans (gI_b rfl) (Eq.trans (gI_b rfl) (Eq.trans (gI_b rfl) (Eq.trans (gI_b rfl) gI_s)))))) ?_
  refine wp_lt qf_371 ?_
  refine wp_lt qf_70 ?_
  refine wp_lt qf_372 ?_
  refine wp_lt qf_153 ?_
  refine wp_of (f_X13_print_162.eq_2 ..) ?_
  refine wp_ifn qf_218 ?_
  refine wp_gd gK_n ?_
  refine wp_gd (gZi gZ_n qf_219) ?_
  refine wp_lt (gIk qf_36 (Eq.trans (gI_b rfl) (Eq.trans (gI_b rfl) (Eq.trans (gI_b rfl) (Eq.trans (gI_b rfl) gI_s))))) ?_
  refine wp_lt qf_373 ?_
  refine wp_lt qf_70 ?_
  refine wp_lt qf_374 ?_
  refine wp_lt qf_164 ?_
  refine wp_of (f_X13_print_162.eq_2 ..) ?_
  refine wp_ifn qf_221 ?_
  refine wp_gd gK_n ?_
  refine wp_gd (gZi gZ_n qf_222) ?_
  refine wp_lt (gIk qf_41 (Eq.trans (gI_b rfl) (Eq.trans (gI_b rfl) (Eq.trans (gI_b rfl) gI_s)))) ?_
  refine wp_lt qf_375 ?_
  refine wp_lt qf_70 ?_
  refine wp_lt qf_376 ?_
  refine wp_lt qf_177 ?_
  refine wp_of (f_X13_print_162.eq_2 ..) ?_
  refine wp_ifn qf_224 ?_
  refine wp_gd gK_n ?_
  refine wp_gd (gZi gZ_n qf_225) ?_
  refine wp_lt (gIk qf_46 (Eq.trans (gI_b rfl) (Eq.trans (gI_b rfl) gI_s))) ?_
  refine wp_lt qf_377 ?_
  refine wp_lt qf_70 ?_
  refine wp_lt qf_378 ?_
  refine wp_lt qf_227 ?_
  refine wp_of (f_X13_print_162.eq_2 ..) ?_
  refine wp_ifn qf_228 ?_
  refine wp_gd gK_n ?_
  refine wp_gd (gZi gZ_n qf_229) ?_
  refine wp_lt (gIk qf_51 (Eq.trans (gI_b rfl) gI_s)) ?_
  refine wp_lt qf_379 ?_
  refine wp_lt qf_237 ?_
  refine wp_lt qf_380 ?_
  refine wp_lt qf_231 ?_
  refine wp_of (f_X13_print_162.eq_2 ..) ?_
  refine wp_ifn qf_232 ?_
  refine wp_gd gK_n ?_
  refine wp_gd (gZi gZ_n qf_233) ?_
  refine wp_lt (gIk qf_56 gI_s) ?_
  refine wp_lt qf_381 ?_
  refine wp_lt qf_70 ?_
  refine wp_lt qf_382 ?_
  refine wp_lt qf_235 ?_
  refine wp_of (f_X13_print_162.eq_2 ..) ?_
  refine wp_ifp qf_236 ?_
  refine wp_ret_bd ?_
  refine wp_lt qf_383 ?_
  refine wp_ifp qf_15 ?_
  refine wp_of (f_L_law_3632.eq_1 ..) ?_
  refine wp_lt qf_21 ?_
  exact hrc _
set_option maxRecDepth 100000 in
set_option maxHeartbeats 4000000 in
theorem cs_54 {xs : Nat → Int32} {rc : mS → Nat → Nat → Nat → Nat → Int32 → Option (Rs Int32)} {Q : Rs Int32 → Prop} (hrc : ∀ S, WP Q (rc S 1 149 173 174 8)) : WP Q (f_L_law_3474 8 xs rc (M3I, M3L, M3R, M3D, M3K, M3Z, 174) 1 149 173 174 0) := by
  refine wp_of (f_L_law_3474.eq_1 ..) ?_
  refine wp_gd ql_K_1 ?_
  refine wp_bd ?_
  refine wp_of (f_X10_printAgain.eq_1 ..) ?_
  refine wp_gd ql_K_1 ?_
  refine wp_bd ?_
  refine wp_of (f_X10_redoLog.eq_1 ..) ?_
  refine wp_of (f_X10_redoLog_0.eq_2 ..) ?_
  refine wp_gd ql_K_1 ?_
  refine wp_lt ql_I_1_5 ?_
  refine wp_lt ql_R_1_2 ?_
  refine wp_gd ql_K_106 ?_
  refine wp_lt ql_I_106_2 ?_
  refine wp_ifp qf_73 ?_
  refine wp_ret_bd ?_
  refine wp_gd ql_K_1 ?_
  refine wp_lt ql_R_1_1 ?_
  refine wp_gd ql_K_54 ?_
  refine wp_bd ?_
  refine wp_of (f_X8_fingerprint.eq_1 ..) ?_
  refine wp_of (f_X8_fingerprint_6.eq_2 ..) ?_
  refine wp_gd ql_K_54 ?_
  refine wp_lt ql_R_54_1 ?_
  refine wp_gd ql_K_68 ?_
  refine wp_lt (gZo ql_Z_68 qf_92) ?_
  refine wp_ifn qf_298 ?_
  refine wp_lt qf_363 ?_
  refine wp_lt ql_R_54_1 ?_
  refine wp_gd ql_K_68 ?_
  refine wp_gd (gZi ql_Z_68 qf_97) ?_
  refine wp_lt (gRk qf_32 ql_R_68_0) ?_
  refine wp_gd ql_K_69 ?_
  refine wp_lt ql_L_69_3 ?_
  refine wp_lt qf_364 ?_
  refine wp_lt qf_153 ?_
  refine wp_of (f_X8_fingerprint_6.eq_2 ..) ?_
  refine wp_gd ql_K_54 ?_
  refine wp_lt ql_R_54_1 ?_
  refine wp_gd ql_K_68 ?_
  refine wp_lt (gZo ql_Z_68 qf_92) ?_
  refine wp_ifn qf_299 ?_
  refine wp_lt qf_365 ?_
  refine wp_lt ql_R_54_1 ?_
  refine wp_gd ql_K_68 ?_
  refine wp_gd (gZi ql_Z_68 qf_99) ?_
  refine wp_lt (gRk qf_36 ql_R_68_1) ?_
  refine wp_gd ql_K_77 ?_
  refine wp_lt ql_L_77_3 ?_
  refine wp_lt qf_366 ?_
  refine wp_lt qf_164 ?_
  refine wp_of (f_X8_fingerprint_6.eq_2 ..) ?_
  refine wp_gd ql_K_54 ?_
  refine wp_lt ql_R_54_1 ?_
  refine wp_gd ql_K_68 ?_
  refine wp_lt (gZo ql_Z_68 qf_92) ?_
  refine wp_ifn qf_300 ?_
  refine wp_lt qf_367 ?_
  refine wp_lt ql_R_54_1 ?_
  refine wp_gd ql_K_68 ?_
  refine wp_gd (gZi ql_Z_68 qf_102) ?_
  refine wp_lt (gRk qf_41 ql_R_68_2) ?_
  refine wp_gd ql_K_85 ?_
  refine wp_lt ql_L_85_3 ?_
  refine wp_lt qf_368 ?_
  refine wp_lt qf_177 ?_
  refine wp_of (f_X8_fingerprint_6.eq_2 ..) ?_
  refine wp_gd ql_K_54 ?_
  refine wp_lt ql_R_54_1 ?_
  refine wp_gd ql_K_68 ?_
  refine wp_lt (gZo ql_Z_68 qf_92) ?_
  refine wp_ifn qf_301 ?_
  refine wp_lt qf_369 ?_
  refine wp_lt ql_R_54_1 ?_
  refine wp_gd ql_K_68 ?_
  refine wp_gd (gZi ql_Z_68 qf_105) ?_
  refine wp_lt (gRk qf_46 ql_R_68_3) ?_
  refine wp_gd ql_K_93 ?_
  refine wp_lt ql_L_93_3 ?_
  refine wp_lt qf_370 ?_
  refine wp_lt qf_227 ?_
  refine wp_of (f_X8_fingerprint_6.eq_2 ..) ?_
  refine wp_gd ql_K_54 ?_
  refine wp_lt ql_R_54_1 ?_
  refine wp_gd ql_K_68 ?_
  refine wp_lt (gZo ql_Z_68 qf_92) ?_
  refine wp_ifp qf_302 ?_
  refine wp_lt qf_371 ?_
  refine wp_lt ql_I_54_7 ?_
  refine wp_lt qf_70 ?_
  refine wp_lt qf_372 ?_
  refine wp_lt qf_373 ?_
  refine wp_lt ql_I_54_8 ?_
  refine wp_lt qf_70 ?_
  refine wp_lt qf_374 ?_
  refine wp_lt qf_375 ?_
  refine wp_lt ql_I_54_9 ?_
  refine wp_lt qf_70 ?_
  refine wp_lt qf_376 ?_
  refine wp_lt qf_377 ?_
  refine wp_lt ql_I_54_10 ?_
  refine wp_lt qf_70 ?_
  refine wp_lt qf_378 ?_
  refine wp_lt qf_379 ?_
  refine wp_lt ql_R_54_2 ?_
  refine wp_gd ql_K_101 ?_
  refine wp_bd ?_
  refine wp_of (f_X4_everybody.eq_1 ..) ?_
  refine wp_of (f_X4_everybody_4.eq_2 ..) ?_
  refine wp_gd ql_K_101 ?_
  refine wp_lt ql_R_101_0 ?_
  refine wp_gd ql_K_102 ?_
  refine wp_lt (gZo ql_Z_102 qf_214) ?_
  refine wp_ifn qf_215 ?_
  refine wp_lt ql_R_101_0 ?_
  refine wp_gd ql_K_102 ?_
  refine wp_gd (gZi ql_Z_102 qf_216) ?_
  refine wp_lt (gIk qf_32 ql_I_102_0) ?_
  refine wp_lt qf_217 ?_
  refine wp_lt qf_153 ?_
  refine wp_of (f_X4_everybody_4.eq_2 ..) ?_
  refine wp_gd ql_K_101 ?_
  refine wp_lt ql_R_101_0 ?_
  refine wp_gd ql_K_102 ?_
  refine wp_lt (gZo ql_Z_102 qf_214) ?_
  refine wp_ifn qf_218 ?_
  refine wp_lt ql_R_101_0 ?_
  refine wp_gd ql_K_102 ?_
  refine wp_gd (gZi ql_Z_102 qf_219) ?_
  refine wp_lt (gIk qf_36 ql_I_102_1) ?_
  refine wp_lt qf_220 ?_
  refine wp_lt qf_164 ?_
  refine wp_of (f_X4_everybody_4.eq_2 ..) ?_
  refine wp_gd ql_K_101 ?_
  refine wp_lt ql_R_101_0 ?_
  refine wp_gd ql_K_102 ?_
  refine wp_lt (gZo ql_Z_102 qf_214) ?_
  refine wp_ifn qf_221 ?_
  refine wp_lt ql_R_101_0 ?_
  refine wp_gd ql_K_102 ?_
  refine wp_gd (gZi ql_Z_102 qf_222) ?_
  refine wp_lt (gIk qf_41 ql_I_102_2) ?_
  refine wp_lt qf_223 ?_
  refine wp_lt qf_177 ?_
  refine wp_of (f_X4_everybody_4.eq_2 ..) ?_
  refine wp_gd ql_K_101 ?_
  refine wp_lt ql_R_101_0 ?_
  refine wp_gd ql_K_102 ?_
  refine wp_lt (gZo ql_Z_102 qf_214) ?_
  refine wp_ifn qf_224 ?_
  refine wp_lt ql_R_101_0 ?_
  refine wp_gd ql_K_102 ?_
  refine wp_gd (gZi ql_Z_102 qf_225) ?_
  refine wp_lt (gIk qf_46 ql_I_102_3) ?_
  refine wp_lt qf_226 ?_
  refine wp_lt qf_227 ?_
  refine wp_of (f_X4_everybody_4.eq_2 ..) ?_
  refine wp_gd ql_K_101 ?_
  refine wp_lt ql_R_101_0 ?_
  refine wp_gd ql_K_102 ?_
  refine wp_lt (gZo ql_Z_102 qf_214) ?_
  refine wp_ifn qf_228 ?_
  refine wp_lt ql_R_101_0 ?_
  refine wp_gd ql_K_102 ?_
  refine wp_gd (gZi ql_Z_102 qf_229) ?_
  refine wp_lt (gIk qf_51 ql_I_102_4) ?_
  refine wp_lt qf_230 ?_
  refine wp_lt qf_231 ?_
  refine wp_of (f_X4_everybody_4.eq_2 ..) ?_
  refine wp_gd ql_K_101 ?_
  refine wp_lt ql_R_101_0 ?_
  refine wp_gd ql_K_102 ?_
  refine wp_lt (gZo ql_Z_102 qf_214) ?_
  refine wp_ifn qf_232 ?_
  refine wp_lt ql_R_101_0 ?_
  refine wp_gd ql_K_102 ?_
  refine wp_gd (gZi ql_Z_102 qf_233) ?_
  refine wp_lt (gIk qf_56 ql_I_102_5) ?_
  refine wp_lt qf_234 ?_
  refine wp_lt qf_235 ?_
  refine wp_of (f_X4_everybody_4.eq_2 ..) ?_
  refine wp_gd ql_K_101 ?_
  refine wp_lt ql_R_101_0 ?_
  refine wp_gd ql_K_102 ?_
  refine wp_lt (gZo ql_Z_102 qf_214) ?_
  refine wp_ifp qf_236 ?_
  refine wp_ret_bd ?_
  refine wp_lt qf_237 ?_
  refine wp_lt qf_380 ?_
  refine wp_lt qf_381 ?_
  refine wp_gd ql_K_54 ?_
  refine wp_lt ql_R_54_3 ?_
  refine wp_gd ql_K_104 ?_
  refine wp_lt ql_I_104_1 ?_
  refine wp_lt qf_70 ?_
  refine wp_lt qf_382 ?_
  refine wp_ret_bd ?_
  refine wp_ret_bd ?_
  refine wp_gd ql_K_149 ?_
  refine wp_bd ?_
  refine wp_of (f_X13_printAgain.eq_1 ..) ?_
  refine wp_gd ql_K_149 ?_
  refine wp_bd ?_
  refine wp_of (f_X13_print.eq_1 ..) ?_
  refine wp_gd ql_K_149 ?_
  refine wp_zI ?_
  refine wp_lt ql_R_149_2 ?_
  refine wp_gd ql_K_151 ?_
  refine wp_lt (gZo ql_Z_151 qf_92) ?_
  refine wp_of (f_X13_print_21.eq_2 ..) ?_
  refine wp_ifn qf_298 ?_
  refine wp_gd ql_K_151 ?_
  refine wp_gd (gZi ql_Z_151 qf_97) ?_
  refine wp_lt (gRk qf_32 ql_R_151_0) ?_
  refine wp_lt qf_363 ?_
  refine wp_gd ql_K_152 ?_
  refine wp_lt ql_R_152_0 ?_
  refine wp_ifp qf_87 ?_
  refine wp_of (f_X13_print_56.eq_1 ..) ?_
  refine wp_lt qf_364 ?_
  refine wp_lt qf_153 ?_
  refine wp_of (f_X13_print_21.eq_2 ..) ?_
  refine wp_ifn qf_299 ?_
  refine wp_gd ql_K_151 ?_
  refine wp_gd (gZi ql_Z_151 qf_99) ?_
  refine wp_lt (gRk qf_36 ql_R_151_1) ?_
  refine wp_lt qf_365 ?_
  refine wp_gd ql_K_156 ?_
  refine wp_lt ql_R_156_0 ?_
  refine wp_ifp qf_87 ?_
  refine wp_of (f_X13_print_56.eq_1 ..) ?_
  refine wp_lt qf_366 ?_
  refine wp_lt qf_164 ?_
  refine wp_of (f_X13_print_21.eq_2 ..) ?_
  refine wp_ifn qf_300 ?_
  refine wp_gd ql_K_151 ?_
  refine wp_gd (gZi ql_Z_151 qf_102) ?_
  refine wp_lt (gRk qf_41 ql_R_151_2) ?_
  refine wp_lt qf_367 ?_
  refine wp_gd ql_K_160 ?_
  refine wp_lt ql_R_160_0 ?_
  refine wp_ifp qf_87 ?_
  refine wp_of (f_X13_print_56.eq_1 ..) ?_
  refine wp_lt qf_368 ?_
  refine wp_lt qf_177 ?_
  refine wp_of (f_X13_print_21.eq_2 ..) ?_
  refine wp_ifn qf_301 ?_
  refine wp_gd ql_K_151 ?_
  refine wp_gd (gZi ql_Z_151 qf_105) ?_
  refine wp_lt (gRk qf_46 ql_R_151_3) ?_
  refine wp_lt qf_369 ?_
  refine wp_gd ql_K_164 ?_
  refine wp_lt ql_R_164_0 ?_
  refine wp_ifp qf_87 ?_
  refine wp_of (f_X13_print_56.eq_1 ..) ?_
  refine wp_lt qf_370 ?_
  refine wp_lt qf_227 ?_
  refine wp_of (f_X13_print_21.eq_2 ..) ?_
  refine wp_ifp qf_302 ?_
  refine wp_gd ql_K_149 ?_
  refine wp_lt ql_R_149_3 ?_
  refine wp_gd ql_K_168 ?_
  refine wp_lt (gZo ql_Z_168 qf_214) ?_
  refine wp_of (f_X13_print_80.eq_2 ..) ?_
  refine wp_ifn qf_215 ?_
  refine wp_gd ql_K_168 ?_
  refine wp_gd (gZi ql_Z_168 qf_216) ?_
  refine wp_lt (gIk qf_32 (Eq.trans (gI_a rfl) ql_I_168_0)) ?_
  refine wp_lt qf_217 ?_
  refine wp_lt qf_153 ?_
  refine wp_of (f_X13_print_80.eq_2 ..) ?_
  refine wp_ifn qf_218 ?_
  refine wp_gd ql_K_168 ?_
  refine wp_gd (gZi ql_Z_168 qf_219) ?_
  refine wp_lt (gIk qf_36 (Eq.trans (gI_a rfl) ql_I_168_1)) ?_
  refine wp_lt qf_220 ?_
  refine wp_lt qf_164 ?_
  refine wp_of (f_X13_print_80.eq_2 ..) ?_
  refine wp_ifn qf_221 ?_
  refine wp_gd ql_K_168 ?_
  refine wp_gd (gZi ql_Z_168 qf_222) ?_
  refine wp_lt (gIk qf_41 (Eq.trans (gI_a rfl) ql_I_168_2)) ?_
  refine wp_lt qf_223 ?_
  refine wp_lt qf_177 ?_
  refine wp_of (f_X13_print_80.eq_2 ..) ?_
  refine wp_ifn qf_224 ?_
  refine wp_gd ql_K_168 ?_
  refine wp_gd (gZi ql_Z_168 qf_225) ?_
  refine wp_lt (gIk qf_46 (Eq.trans (gI_a rfl) ql_I_168_3)) ?_
  refine wp_lt qf_226 ?_
  refine wp_lt qf_227 ?_
  refine wp_of (f_X13_print_80.eq_2 ..) ?_
  refine wp_ifn qf_228 ?_
  refine wp_gd ql_K_168 ?_
  refine wp_gd (gZi ql_Z_168 qf_229) ?_
  refine wp_lt (gIk qf_51 (Eq.trans (gI_a rfl) ql_I_168_4)) ?_
  refine wp_lt qf_230 ?_
  refine wp_lt qf_231 ?_
  refine wp_of (f_X13_print_80.eq_2 ..) ?_
  refine wp_ifn qf_232 ?_
  refine wp_gd ql_K_168 ?_
  refine wp_gd (gZi ql_Z_168 qf_233) ?_
  refine wp_lt (gIk qf_56 (Eq.trans (gI_a rfl) ql_I_168_5)) ?_
  refine wp_lt qf_234 ?_
  refine wp_lt qf_235 ?_
  refine wp_of (f_X13_print_80.eq_2 ..) ?_
  refine wp_ifp qf_236 ?_
  refine wp_gd (gNk (n := 174) qf_74) ?_
  refine wp_zW (m := 175) rfl ?_
  refine wp_lt (show _ = 175 from rfl) ?_
  refine wp_gd (Eq.trans (gK_w rfl) ql_K_149) ?_
  refine wp_lt (Eq.trans (gI_w rfl) (Eq.trans (gI_b rfl) ql_I_149_9)) ?_
  refine wp_gd (gZi gZ_n qf_216) ?_
  refine wp_zIk qf_32 ?_
  refine wp_lt (Eq.trans (gI_a rfl) (Eq.trans (gI_w rfl) (Eq.trans (gI_b rfl) ql_I_149_11))) ?_
  refine wp_gd (gZi gZ_n qf_219) ?_
  refine wp_zIk qf_36 ?_
  refine wp_lt (Eq.trans (gI_a rfl) (Eq.trans (gI_a rfl) (Eq.trans (gI_w rfl) (Eq.trans (gI_b rfl) ql_I_149_12)))) ?_
  refine wp_gd (gZi gZ_n qf_222) ?_
  refine wp_zIk qf_41 ?_
  refine wp_lt (Eq.trans (gI_a rfl) (Eq.trans (gI_a rfl) (Eq.trans (gI_a rfl) (Eq.trans (gI_w rfl) (Eq.trans (gI_b rfl) ql_I_149_13))))) ?_
  refine wp_gd (gZi gZ_n qf_225) ?_
  refine wp_zIk qf_46 ?_
  refine wp_gd (gZi gZ_n qf_229) ?_
  refine wp_zIk qf_51 ?_
  refine wp_lt (Eq.trans (gI_a rfl) (Eq.trans (gI_a rfl) (Eq.trans (gI_a rfl) (Eq.trans (gI_a rfl) (Eq.trans (gI_a rfl) (Eq.trans (gI_w rfl) (Eq.trans (gI_b rfl) ql_I_149_14))))))) ?_
  refine wp_gd (gZi gZ_n qf_233) ?_
  refine wp_zIk qf_56 ?_
  refine wp_lt (gZo gZ_n qf_214) ?_
  refine wp_of (f_X13_print_162.eq_2 ..) ?_
  refine wp_ifn qf_215 ?_
  refine wp_gd gK_n ?_
  refine wp_gd (gZi gZ_n qf_216) ?_
  refine wp_lt (gIk qf_32 (Eq.trans (gI_b rfl) (Eq.trans (gI_b rfl) (Eq.trans (gI_b rfl) (Eq.trans (gI_b rfl) (Eq.trans (gI_b rfl) gI_s)))))) ?_
  refine wp_lt qf_371 ?_
  refine wp_lt qf_70 ?_
  refine wp_lt qf_372 ?_
  refine wp_lt qf_153 ?_
  refine wp_of (f_X13_print_162.eq_2 ..) ?_
  refine wp_ifn qf_218 ?_
  refine wp_gd gK_n ?_
  refine wp_gd (gZi gZ_n qf_219) ?_
  refine wp_lt (gIk qf_36 (Eq.trans (gI_b rfl) (Eq.trans (gI_b rfl) (Eq.trans (gI_b rfl) (Eq.trans (gI_b rfl) gI_s))))) ?_
  refine wp_lt qf_373 ?_
  refine wp_lt qf_70 ?_
  refine wp_lt qf_374 ?_
  refine wp_lt qf_164 ?_
  refine wp_of (f_X13_print_162.eq_2 ..) ?_
  refine wp_ifn qf_221 ?_
  refine wp_gd gK_n ?_
  refine wp_gd (gZi gZ_n qf_222) ?_
  refine wp_lt (gIk qf_41 (Eq.trans (gI_b rfl) (Eq.trans (gI_b rfl) (Eq.trans (gI_b rfl) gI_s)))) ?_
  refine wp_lt qf_375 ?_
  refine wp_lt qf_70 ?_
  refine wp_lt qf_376 ?_
  refine wp_lt qf_177 ?_
  refine wp_of (f_X13_print_162.eq_2 ..) ?_
  refine wp_ifn qf_224 ?_
  refine wp_gd gK_n ?_
  refine wp_gd (gZi gZ_n qf_225) ?_
  refine wp_lt (gIk qf_46 (Eq.trans (gI_b rfl) (Eq.trans (gI_b rfl) gI_s))) ?_
  refine wp_lt qf_377 ?_
  refine wp_lt qf_70 ?_
  refine wp_lt qf_378 ?_
  refine wp_lt qf_227 ?_
  refine wp_of (f_X13_print_162.eq_2 ..) ?_
  refine wp_ifn qf_228 ?_
  refine wp_gd gK_n ?_
  refine wp_gd (gZi gZ_n qf_229) ?_
  refine wp_lt (gIk qf_51 (Eq.trans (gI_b rfl) gI_s)) ?_
  refine wp_lt qf_379 ?_
  refine wp_lt qf_237 ?_
  refine wp_lt qf_380 ?_
  refine wp_lt qf_231 ?_
  refine wp_of (f_X13_print_162.eq_2 ..) ?_
  refine wp_ifn qf_232 ?_
  refine wp_gd gK_n ?_
  refine wp_gd (gZi gZ_n qf_233) ?_
  refine wp_lt (gIk qf_56 gI_s) ?_
  refine wp_lt qf_381 ?_
  refine wp_lt qf_70 ?_
  refine wp_lt qf_382 ?_
  refine wp_lt qf_235 ?_
  refine wp_of (f_X13_print_162.eq_2 ..) ?_
  refine wp_ifp qf_236 ?_
  refine wp_ret_bd ?_
  refine wp_ret_bd ?_
  refine wp_lt qf_383 ?_
  refine wp_ifp qf_15 ?_
  refine wp_of (f_L_law_3632.eq_1 ..) ?_
  refine wp_lt qf_21 ?_
  exact hrc _
set_option maxRecDepth 100000 in
set_option maxHeartbeats 4000000 in
theorem cs_55 {xs : Nat → Int32} {rc : mS → Nat → Nat → Nat → Nat → Int32 → Option (Rs Int32)} {Q : Rs Int32 → Prop} (hrc : ∀ S, WP Q (rc S 1 149 173 174 8)) : WP Q (f_L_law_3488 8 xs rc (M3I, M3L, M3R, M3D, M3K, M3Z, 174) 1 149 173 174 0) := by
  refine wp_of (f_L_law_3488.eq_1 ..) ?_
  refine wp_bd ?_
  refine wp_of (f_L_silentShare.eq_1 ..) ?_
  refine wp_gd ql_K_1 ?_
  refine wp_bdc ?_
  refine wp_of (f_X10_silentShare.eq_1 ..) ?_
  refine wp_gd ql_K_1 ?_
  refine wp_bd ?_
  refine wp_of (f_X10_demandTicks.eq_1 ..) ?_
  refine wp_gd ql_K_1 ?_
  refine wp_lt ql_R_1_0 ?_
  refine wp_gd ql_K_2 ?_
  refine wp_lt ql_I_2_7 ?_
  refine wp_ifp qf_15 ?_
  refine wp_rs_bd ?_
  refine wp_rs_bdc ?_
  refine wp_ifp qf_384 ?_
  refine wp_ret_bd ?_
  refine wp_gd ql_K_149 ?_
  refine wp_bd ?_
  refine wp_of (f_X13_silentShare.eq_1 ..) ?_
  refine wp_gd ql_K_149 ?_
  refine wp_lt ql_I_149_9 ?_
  refine wp_ifp qf_15 ?_
  refine wp_of (f_X13_silentShare_13.eq_1 ..) ?_
  refine wp_gd ql_K_149 ?_
  refine wp_bd ?_
  refine wp_of (f_X13_isWrong.eq_1 ..) ?_
  refine wp_gd ql_K_149 ?_
  refine wp_zI ?_
  refine wp_ifn qf_17 ?_
  refine wp_of (f_X13_isWrong_14.eq_1 ..) ?_
  refine wp_gd qf_18 ?_
  refine wp_ret_bd ?_
  refine wp_ifn qf_19 ?_
  refine wp_of (f_X13_silentShare_34.eq_1 ..) ?_
  refine wp_ret_bd ?_
  refine wp_gd ql_K_149 ?_
  refine wp_bd ?_
  refine wp_of (f_X13_thrown.eq_1 ..) ?_
  refine wp_gd ql_K_149 ?_
  refine wp_lt gI_s ?_
  refine wp_ret_bd ?_
  refine wp_ifp qf_20 ?_
  refine wp_ifn qf_19 ?_
  refine wp_of (f_L_law_3551.eq_1 ..) ?_
  refine wp_of (f_L_law_3632.eq_1 ..) ?_
  refine wp_lt qf_21 ?_
  exact hrc _
set_option maxRecDepth 100000 in
set_option maxHeartbeats 4000000 in
theorem cs_56 {xs : Nat → Int32} {rc : mS → Nat → Nat → Nat → Nat → Int32 → Option (Rs Int32)} {Q : Rs Int32 → Prop} (hrc : ∀ S, WP Q (rc S 1 149 173 174 8)) : WP Q (f_L_law_3554 8 xs rc (M3I, M3L, M3R, M3D, M3K, M3Z, 174) 1 149 173 174 0) := by
  refine wp_of (f_L_law_3554.eq_1 ..) ?_
  refine wp_bd ?_
  refine wp_of (f_L_meanLoudness.eq_1 ..) ?_
  refine wp_gd ql_K_1 ?_
  refine wp_bdc ?_
  refine wp_of (f_X10_meanLoudness.eq_1 ..) ?_
  refine wp_gd ql_K_1 ?_
  refine wp_bd ?_
  refine wp_of (f_X10_demandTicks.eq_1 ..) ?_
  refine wp_gd ql_K_1 ?_
  refine wp_lt ql_R_1_0 ?_
  refine wp_gd ql_K_2 ?_
  refine wp_lt ql_I_2_7 ?_
  refine wp_ifp qf_15 ?_
  refine wp_rs_bd ?_
  refine wp_rs_bdc ?_
  refine wp_ifp qf_384 ?_
  refine wp_ret_bd ?_
  refine wp_gd ql_K_149 ?_
  refine wp_bd ?_
  refine wp_of (f_X13_meanLoudness.eq_1 ..) ?_
  refine wp_gd ql_K_149 ?_
  refine wp_lt ql_I_149_9 ?_
  refine wp_ifp qf_15 ?_
  refine wp_of (f_X13_meanLoudness_13.eq_1 ..) ?_
  refine wp_gd ql_K_149 ?_
  refine wp_bd ?_
  refine wp_of (f_X13_isWrong.eq_1 ..) ?_
  refine wp_gd ql_K_149 ?_
  refine wp_zI ?_
  refine wp_ifn qf_17 ?_
  refine wp_of (f_X13_isWrong_14.eq_1 ..) ?_
  refine wp_gd qf_18 ?_
  refine wp_ret_bd ?_
  refine wp_ifn qf_19 ?_
  refine wp_of (f_X13_meanLoudness_34.eq_1 ..) ?_
  refine wp_ret_bd ?_
  refine wp_gd ql_K_149 ?_
  refine wp_bd ?_
  refine wp_of (f_X13_thrown.eq_1 ..) ?_
  refine wp_gd ql_K_149 ?_
  refine wp_lt gI_s ?_
  refine wp_ret_bd ?_
  refine wp_ifp qf_20 ?_
  refine wp_ifn qf_19 ?_
  refine wp_of (f_L_law_3616.eq_1 ..) ?_
  refine wp_of (f_L_law_3632.eq_1 ..) ?_
  refine wp_lt qf_21 ?_
  exact hrc _
set_option maxRecDepth 100000 in
set_option maxHeartbeats 4000000 in
theorem cs_57 {xs : Nat → Int32} {rc : mS → Nat → Nat → Nat → Nat → Int32 → Option (Rs Int32)} {Q : Rs Int32 → Prop} (hrc : ∀ S, WP Q (rc S 1 149 173 174 8)) : WP Q (f_L_law_3619 8 xs rc (M3I, M3L, M3R, M3D, M3K, M3Z, 174) 1 149 173 174 0) := by
  refine wp_of (f_L_law_3619.eq_1 ..) ?_
  refine wp_gd ql_K_1 ?_
  refine wp_bd ?_
  refine wp_of (f_X10_isSound.eq_1 ..) ?_
  refine wp_gd ql_K_1 ?_
  refine wp_bd ?_
  refine wp_of (f_X10_redoLog.eq_1 ..) ?_
  refine wp_of (f_X10_redoLog_0.eq_2 ..) ?_
  refine wp_gd ql_K_1 ?_
  refine wp_lt ql_I_1_5 ?_
  refine wp_lt ql_R_1_2 ?_
  refine wp_gd ql_K_106 ?_
  refine wp_lt ql_I_106_2 ?_
  refine wp_ifp qf_73 ?_
  refine wp_ret_bd ?_
  refine wp_gd ql_K_1 ?_
  refine wp_lt ql_R_1_0 ?_
  refine wp_gd ql_K_2 ?_
  refine wp_bd ?_
  refine wp_of (f_X8_fingerprint.eq_1 ..) ?_
  refine wp_of (f_X8_fingerprint_6.eq_2 ..) ?_
  refine wp_gd ql_K_2 ?_
  refine wp_lt ql_R_2_1 ?_
  refine wp_gd ql_K_16 ?_
  refine wp_lt (gZo ql_Z_16 qf_92) ?_
  refine wp_ifn qf_298 ?_
  refine wp_lt qf_363 ?_
  refine wp_lt ql_R_2_1 ?_
  refine wp_gd ql_K_16 ?_
  refine wp_gd (gZi ql_Z_16 qf_97) ?_
  refine wp_lt (gRk qf_32 ql_R_16_0) ?_
  refine wp_gd ql_K_17 ?_
  refine wp_lt ql_L_17_3 ?_
  refine wp_lt qf_364 ?_
  refine wp_lt qf_153 ?_
  refine wp_of (f_X8_fingerprint_6.eq_2 ..) ?_
  refine wp_gd ql_K_2 ?_
  refine wp_lt ql_R_2_1 ?_
  refine wp_gd ql_K_16 ?_
  refine wp_lt (gZo ql_Z_16 qf_92) ?_
  refine wp_ifn qf_299 ?_
  refine wp_lt qf_365 ?_
  refine wp_lt ql_R_2_1 ?_
  refine wp_gd ql_K_16 ?_
  refine wp_gd (gZi ql_Z_16 qf_99) ?_
  refine wp_lt (gRk qf_36 ql_R_16_1) ?_
  refine wp_gd ql_K_25 ?_
  refine wp_lt ql_L_25_3 ?_
  refine wp_lt qf_366 ?_
  refine wp_lt qf_164 ?_
  refine wp_of (f_X8_fingerprint_6.eq_2 ..) ?_
  refine wp_gd ql_K_2 ?_
  refine wp_lt ql_R_2_1 ?_
  refine wp_gd ql_K_16 ?_
  refine wp_lt (gZo ql_Z_16 qf_92) ?_
  refine wp_ifn qf_300 ?_
  refine wp_lt qf_367 ?_
  refine wp_lt ql_R_2_1 ?_
  refine wp_gd ql_K_16 ?_
  refine wp_gd (gZi ql_Z_16 qf_102) ?_
  refine wp_lt (gRk qf_41 ql_R_16_2) ?_
  refine wp_gd ql_K_33 ?_
  refine wp_lt ql_L_33_3 ?_
  refine wp_lt qf_368 ?_
  refine wp_lt qf_177 ?_
  refine wp_of (f_X8_fingerprint_6.eq_2 ..) ?_
  refine wp_gd ql_K_2 ?_
  refine wp_lt ql_R_2_1 ?_
  refine wp_gd ql_K_16 ?_
  refine wp_lt (gZo ql_Z_16 qf_92) ?_
  refine wp_ifn qf_301 ?_
  refine wp_lt qf_369 ?_
  refine wp_lt ql_R_2_1 ?_
  refine wp_gd ql_K_16 ?_
  refine wp_gd (gZi ql_Z_16 qf_105) ?_
  refine wp_lt (gRk qf_46 ql_R_16_3) ?_
  refine wp_gd ql_K_41 ?_
  refine wp_lt ql_L_41_3 ?_
  refine wp_lt qf_370 ?_
  refine wp_lt qf_227 ?_
  refine wp_of (f_X8_fingerprint_6.eq_2 ..) ?_
  refine wp_gd ql_K_2 ?_
  refine wp_lt ql_R_2_1 ?_
  refine wp_gd ql_K_16 ?_
  refine wp_lt (gZo ql_Z_16 qf_92) ?_
  refine wp_ifp qf_302 ?_
  refine wp_lt qf_371 ?_
  refine wp_lt ql_I_2_7 ?_
  refine wp_lt qf_70 ?_
  refine wp_lt qf_372 ?_
  refine wp_lt qf_373 ?_
  refine wp_lt ql_I_2_8 ?_
  refine wp_lt qf_70 ?_
  refine wp_lt qf_374 ?_
  refine wp_lt qf_375 ?_
  refine wp_lt ql_I_2_9 ?_
  refine wp_lt qf_70 ?_
  refine wp_lt qf_376 ?_
  refine wp_lt qf_377 ?_
  refine wp_lt ql_I_2_10 ?_
  refine wp_lt qf_70 ?_
  refine wp_lt qf_378 ?_
  refine wp_lt qf_379 ?_
  refine wp_lt ql_R_2_2 ?_
  refine wp_gd ql_K_49 ?_
  refine wp_bd ?_
  refine wp_of (f_X4_everybody.eq_1 ..) ?_
  refine wp_of (f_X4_everybody_4.eq_2 ..) ?_
  refine wp_gd ql_K_49 ?_
  refine wp_lt ql_R_49_0 ?_
  refine wp_gd ql_K_50 ?_
  refine wp_lt (gZo ql_Z_50 qf_214) ?_
  refine wp_ifn qf_215 ?_
  refine wp_lt ql_R_49_0 ?_
  refine wp_gd ql_K_50 ?_
  refine wp_gd (gZi ql_Z_50 qf_216) ?_
  refine wp_lt (gIk qf_32 ql_I_50_0) ?_
  refine wp_lt qf_217 ?_
  refine wp_lt qf_153 ?_
  refine wp_of (f_X4_everybody_4.eq_2 ..) ?_
  refine wp_gd ql_K_49 ?_
  refine wp_lt ql_R_49_0 ?_
  refine wp_gd ql_K_50 ?_
  refine wp_lt (gZo ql_Z_50 qf_214) ?_
  refine wp_ifn qf_218 ?_
  refine wp_lt ql_R_49_0 ?_
  refine wp_gd ql_K_50 ?_
  refine wp_gd (gZi ql_Z_50 qf_219) ?_
  refine wp_lt (gIk qf_36 ql_I_50_1) ?_
  refine wp_lt qf_220 ?_
  refine wp_lt qf_164 ?_
  refine wp_of (f_X4_everybody_4.eq_2 ..) ?_
  refine wp_gd ql_K_49 ?_
  refine wp_lt ql_R_49_0 ?_
  refine wp_gd ql_K_50 ?_
  refine wp_lt (gZo ql_Z_50 qf_214) ?_
  refine wp_ifn qf_221 ?_
  refine wp_lt ql_R_49_0 ?_
  refine wp_gd ql_K_50 ?_
  refine wp_gd (gZi ql_Z_50 qf_222) ?_
  refine wp_lt (gIk qf_41 ql_I_50_2) ?_
  refine wp_lt qf_223 ?_
  refine wp_lt qf_177 ?_
  refine wp_of (f_X4_everybody_4.eq_2 ..) ?_
  refine wp_gd ql_K_49 ?_
  refine wp_lt ql_R_49_0 ?_
  refine wp_gd ql_K_50 ?_
  refine wp_lt (gZo ql_Z_50 qf_214) ?_
  refine wp_ifn qf_224 ?_
  refine wp_lt ql_R_49_0 ?_
  refine wp_gd ql_K_50 ?_
  refine wp_gd (gZi ql_Z_50 qf_225) ?_
  refine wp_lt (gIk qf_46 ql_I_50_3) ?_
  refine wp_lt qf_226 ?_
  refine wp_lt qf_227 ?_
  refine wp_of (f_X4_everybody_4.eq_2 ..) ?_
  refine wp_gd ql_K_49 ?_
  refine wp_lt ql_R_49_0 ?_
  refine wp_gd ql_K_50 ?_
  refine wp_lt (gZo ql_Z_50 qf_214) ?_
  refine wp_ifn qf_228 ?_
  refine wp_lt ql_R_49_0 ?_
  refine wp_gd ql_K_50 ?_
  refine wp_gd (gZi ql_Z_50 qf_229) ?_
  refine wp_lt (gIk qf_51 ql_I_50_4) ?_
  refine wp_lt qf_230 ?_
  refine wp_lt qf_231 ?_
  refine wp_of (f_X4_everybody_4.eq_2 ..) ?_
  refine wp_gd ql_K_49 ?_
  refine wp_lt ql_R_49_0 ?_
  refine wp_gd ql_K_50 ?_
  refine wp_lt (gZo ql_Z_50 qf_214) ?_
  refine wp_ifn qf_232 ?_
  refine wp_lt ql_R_49_0 ?_
  refine wp_gd ql_K_50 ?_
  refine wp_gd (gZi ql_Z_50 qf_233) ?_
  refine wp_lt (gIk qf_56 ql_I_50_5) ?_
  refine wp_lt qf_234 ?_
  refine wp_lt qf_235 ?_
  refine wp_of (f_X4_everybody_4.eq_2 ..) ?_
  refine wp_gd ql_K_49 ?_
  refine wp_lt ql_R_49_0 ?_
  refine wp_gd ql_K_50 ?_
  refine wp_lt (gZo ql_Z_50 qf_214) ?_
  refine wp_ifp qf_236 ?_
  refine wp_ret_bd ?_
  refine wp_lt qf_237 ?_
  refine wp_lt qf_380 ?_
  refine wp_lt qf_381 ?_
  refine wp_gd ql_K_2 ?_
  refine wp_lt ql_R_2_3 ?_
  refine wp_gd ql_K_52 ?_
  refine wp_lt ql_I_52_1 ?_
  refine wp_lt qf_70 ?_
  refine wp_lt qf_382 ?_
  refine wp_ret_bd ?_
  refine wp_gd ql_K_1 ?_
  refine wp_lt ql_R_1_1 ?_
  refine wp_gd ql_K_54 ?_
  refine wp_bd ?_
  refine wp_of (f_X8_fingerprint.eq_1 ..) ?_
  refine wp_of (f_X8_fingerprint_6.eq_2 ..) ?_
  refine wp_gd ql_K_54 ?_
  refine wp_lt ql_R_54_1 ?_
  refine wp_gd ql_K_68 ?_
  refine wp_lt (gZo ql_Z_68 qf_92) ?_
  refine wp_ifn qf_298 ?_
  refine wp_lt qf_363 ?_
  refine wp_lt ql_R_54_1 ?_
  refine wp_gd ql_K_68 ?_
  refine wp_gd (gZi ql_Z_68 qf_97) ?_
  refine wp_lt (gRk qf_32 ql_R_68_0) ?_
  refine wp_gd ql_K_69 ?_
  refine wp_lt ql_L_69_3 ?_
  refine wp_lt qf_364 ?_
  refine wp_lt qf_153 ?_
  refine wp_of (f_X8_fingerprint_6.eq_2 ..) ?_
  refine wp_gd ql_K_54 ?_
  refine wp_lt ql_R_54_1 ?_
  refine wp_gd ql_K_68 ?_
  refine wp_lt (gZo ql_Z_68 qf_92) ?_
  refine wp_ifn qf_299 ?_
  refine wp_lt qf_365 ?_
  refine wp_lt ql_R_54_1 ?_
  refine wp_gd ql_K_68 ?_
  refine wp_gd (gZi ql_Z_68 qf_99) ?_
  refine wp_lt (gRk qf_36 ql_R_68_1) ?_
  refine wp_gd ql_K_77 ?_
  refine wp_lt ql_L_77_3 ?_
  refine wp_lt qf_366 ?_
  refine wp_lt qf_164 ?_
  refine wp_of (f_X8_fingerprint_6.eq_2 ..) ?_
  refine wp_gd ql_K_54 ?_
  refine wp_lt ql_R_54_1 ?_
  refine wp_gd ql_K_68 ?_
  refine wp_lt (gZo ql_Z_68 qf_92) ?_
  refine wp_ifn qf_300 ?_
  refine wp_lt qf_367 ?_
  refine wp_lt ql_R_54_1 ?_
  refine wp_gd ql_K_68 ?_
  refine wp_gd (gZi ql_Z_68 qf_102) ?_
  refine wp_lt (gRk qf_41 ql_R_68_2) ?_
  refine wp_gd ql_K_85 ?_
  refine wp_lt ql_L_85_3 ?_
  refine wp_lt qf_368 ?_
  refine wp_lt qf_177 ?_
  refine wp_of (f_X8_fingerprint_6.eq_2 ..) ?_
  refine wp_gd ql_K_54 ?_
  refine wp_lt ql_R_54_1 ?_
  refine wp_gd ql_K_68 ?_
  refine wp_lt (gZo ql_Z_68 qf_92) ?_
  refine wp_ifn qf_301 ?_
  refine wp_lt qf_369 ?_
  refine wp_lt ql_R_54_1 ?_
  refine wp_gd ql_K_68 ?_
  refine wp_gd (gZi ql_Z_68 qf_105) ?_
  refine wp_lt (gRk qf_46 ql_R_68_3) ?_
  refine wp_gd ql_K_93 ?_
  refine wp_lt ql_L_93_3 ?_
  refine wp_lt qf_370 ?_
  refine wp_lt qf_227 ?_
  refine wp_of (f_X8_fingerprint_6.eq_2 ..) ?_
  refine wp_gd ql_K_54 ?_
  refine wp_lt ql_R_54_1 ?_
  refine wp_gd ql_K_68 ?_
  refine wp_lt (gZo ql_Z_68 qf_92) ?_
  refine wp_ifp qf_302 ?_
  refine wp_lt qf_371 ?_
  refine wp_lt ql_I_54_7 ?_
  refine wp_lt qf_70 ?_
  refine wp_lt qf_372 ?_
  refine wp_lt qf_373 ?_
  refine wp_lt ql_I_54_8 ?_
  refine wp_lt qf_70 ?_
  refine wp_lt qf_374 ?_
  refine wp_lt qf_375 ?_
  refine wp_lt ql_I_54_9 ?_
  refine wp_lt qf_70 ?_
  refine wp_lt qf_376 ?_
  refine wp_lt qf_377 ?_
  refine wp_lt ql_I_54_10 ?_
  refine wp_lt qf_70 ?_
  refine wp_lt qf_378 ?_
  refine wp_lt qf_379 ?_
  refine wp_lt ql_R_54_2 ?_
  refine wp_gd ql_K_101 ?_
  refine wp_bd ?_
  refine wp_of (f_X4_everybody.eq_1 ..) ?_
  refine wp_of (f_X4_everybody_4.eq_2 ..) ?_
  refine wp_gd ql_K_101 ?_
  refine wp_lt ql_R_101_0 ?_
  refine wp_gd ql_K_102 ?_
  refine wp_lt (gZo ql_Z_102 qf_214) ?_
  refine wp_ifn qf_215 ?_
  refine wp_lt ql_R_101_0 ?_
  refine wp_gd ql_K_102 ?_
  refine wp_gd (gZi ql_Z_102 qf_216) ?_
  refine wp_lt (gIk qf_32 ql_I_102_0) ?_
  refine wp_lt qf_217 ?_
  refine wp_lt qf_153 ?_
  refine wp_of (f_X4_everybody_4.eq_2 ..) ?_
  refine wp_gd ql_K_101 ?_
  refine wp_lt ql_R_101_0 ?_
  refine wp_gd ql_K_102 ?_
  refine wp_lt (gZo ql_Z_102 qf_214) ?_
  refine wp_ifn qf_218 ?_
  refine wp_lt ql_R_101_0 ?_
  refine wp_gd ql_K_102 ?_
  refine wp_gd (gZi ql_Z_102 qf_219) ?_
  refine wp_lt (gIk qf_36 ql_I_102_1) ?_
  refine wp_lt qf_220 ?_
  refine wp_lt qf_164 ?_
  refine wp_of (f_X4_everybody_4.eq_2 ..) ?_
  refine wp_gd ql_K_101 ?_
  refine wp_lt ql_R_101_0 ?_
  refine wp_gd ql_K_102 ?_
  refine wp_lt (gZo ql_Z_102 qf_214) ?_
  refine wp_ifn qf_221 ?_
  refine wp_lt ql_R_101_0 ?_
  refine wp_gd ql_K_102 ?_
  refine wp_gd (gZi ql_Z_102 qf_222) ?_
  refine wp_lt (gIk qf_41 ql_I_102_2) ?_
  refine wp_lt qf_223 ?_
  refine wp_lt qf_177 ?_
  refine wp_of (f_X4_everybody_4.eq_2 ..) ?_
  refine wp_gd ql_K_101 ?_
  refine wp_lt ql_R_101_0 ?_
  refine wp_gd ql_K_102 ?_
  refine wp_lt (gZo ql_Z_102 qf_214) ?_
  refine wp_ifn qf_224 ?_
  refine wp_lt ql_R_101_0 ?_
  refine wp_gd ql_K_102 ?_
  refine wp_gd (gZi ql_Z_102 qf_225) ?_
  refine wp_lt (gIk qf_46 ql_I_102_3) ?_
  refine wp_lt qf_226 ?_
  refine wp_lt qf_227 ?_
  refine wp_of (f_X4_everybody_4.eq_2 ..) ?_
  refine wp_gd ql_K_101 ?_
  refine wp_lt ql_R_101_0 ?_
  refine wp_gd ql_K_102 ?_
  refine wp_lt (gZo ql_Z_102 qf_214) ?_
  refine wp_ifn qf_228 ?_
  refine wp_lt ql_R_101_0 ?_
  refine wp_gd ql_K_102 ?_
  refine wp_gd (gZi ql_Z_102 qf_229) ?_
  refine wp_lt (gIk qf_51 ql_I_102_4) ?_
  refine wp_lt qf_230 ?_
  refine wp_lt qf_231 ?_
  refine wp_of (f_X4_everybody_4.eq_2 ..) ?_
  refine wp_gd ql_K_101 ?_
  refine wp_lt ql_R_101_0 ?_
  refine wp_gd ql_K_102 ?_
  refine wp_lt (gZo ql_Z_102 qf_214) ?_
  refine wp_ifn qf_232 ?_
  refine wp_lt ql_R_101_0 ?_
  refine wp_gd ql_K_102 ?_
  refine wp_gd (gZi ql_Z_102 qf_233) ?_
  refine wp_lt (gIk qf_56 ql_I_102_5) ?_
  refine wp_lt qf_234 ?_
  refine wp_lt qf_235 ?_
  refine wp_of (f_X4_everybody_4.eq_2 ..) ?_
  refine wp_gd ql_K_101 ?_
  refine wp_lt ql_R_101_0 ?_
  refine wp_gd ql_K_102 ?_
  refine wp_lt (gZo ql_Z_102 qf_214) ?_
  refine wp_ifp qf_236 ?_
  refine wp_ret_bd ?_
  refine wp_lt qf_237 ?_
  refine wp_lt qf_380 ?_
  refine wp_lt qf_381 ?_
  refine wp_gd ql_K_54 ?_
  refine wp_lt ql_R_54_3 ?_
  refine wp_gd ql_K_104 ?_
  refine wp_lt ql_I_104_1 ?_
  refine wp_lt qf_70 ?_
  refine wp_lt qf_382 ?_
  refine wp_ret_bd ?_
  refine wp_lt qf_383 ?_
  refine wp_ifp qf_15 ?_
  refine wp_gd ql_K_1 ?_
  refine wp_lt ql_R_1_0 ?_
  refine wp_gd ql_K_2 ?_
  refine wp_bd ?_
  refine wp_of (f_X8_placesAreSound.eq_1 ..) ?_
  refine wp_of (f_X8_placesAreSound_2.eq_2 ..) ?_
  refine wp_gd ql_K_2 ?_
  refine wp_lt ql_R_2_1 ?_
  refine wp_gd ql_K_16 ?_
  refine wp_lt (gZo ql_Z_16 qf_92) ?_
  refine wp_ifn qf_298 ?_
  refine wp_lt ql_R_2_1 ?_
  refine wp_gd ql_K_16 ?_
  refine wp_gd (gZi ql_Z_16 qf_97) ?_
  refine wp_lt (gRk qf_32 ql_R_16_0) ?_
  refine wp_gd ql_K_17 ?_
  refine wp_lt ql_R_17_2 ?_
  refine wp_ifp qf_87 ?_
  refine wp_of (f_X8_placesAreSound_51.eq_1 ..) ?_
  refine wp_lt qf_153 ?_
  refine wp_of (f_X8_placesAreSound_2.eq_2 ..) ?_
  refine wp_gd ql_K_2 ?_
  refine wp_lt ql_R_2_1 ?_
  refine wp_gd ql_K_16 ?_
  refine wp_lt (gZo ql_Z_16 qf_92) ?_
  refine wp_ifn qf_299 ?_
  refine wp_lt ql_R_2_1 ?_
  refine wp_gd ql_K_16 ?_
  refine wp_gd (gZi ql_Z_16 qf_99) ?_
  refine wp_lt (gRk qf_36 ql_R_16_1) ?_
  refine wp_gd ql_K_25 ?_
  refine wp_lt ql_R_25_2 ?_
  refine wp_ifp qf_87 ?_
  refine wp_of (f_X8_placesAreSound_51.eq_1 ..) ?_
  refine wp_lt qf_164 ?_
  refine wp_of (f_X8_placesAreSound_2.eq_2 ..) ?_
  refine wp_gd ql_K_2 ?_
  refine wp_lt ql_R_2_1 ?_
  refine wp_gd ql_K_16 ?_
  refine wp_lt (gZo ql_Z_16 qf_92) ?_
  refine wp_ifn qf_300 ?_
  refine wp_lt ql_R_2_1 ?_
  refine wp_gd ql_K_16 ?_
  refine wp_gd (gZi ql_Z_16 qf_102) ?_
  refine wp_lt (gRk qf_41 ql_R_16_2) ?_
  refine wp_gd ql_K_33 ?_
  refine wp_lt ql_R_33_2 ?_
  refine wp_ifp qf_87 ?_
  refine wp_of (f_X8_placesAreSound_51.eq_1 ..) ?_
  refine wp_lt qf_177 ?_
  refine wp_of (f_X8_placesAreSound_2.eq_2 ..) ?_
  refine wp_gd ql_K_2 ?_
  refine wp_lt ql_R_2_1 ?_
  refine wp_gd ql_K_16 ?_
  refine wp_lt (gZo ql_Z_16 qf_92) ?_
  refine wp_ifn qf_301 ?_
  refine wp_lt ql_R_2_1 ?_
  refine wp_gd ql_K_16 ?_
  refine wp_gd (gZi ql_Z_16 qf_105) ?_
  refine wp_lt (gRk qf_46 ql_R_16_3) ?_
  refine wp_gd ql_K_41 ?_
  refine wp_lt ql_R_41_2 ?_
  refine wp_ifp qf_87 ?_
  refine wp_of (f_X8_placesAreSound_51.eq_1 ..) ?_
  refine wp_lt qf_227 ?_
  refine wp_of (f_X8_placesAreSound_2.eq_2 ..) ?_
  refine wp_gd ql_K_2 ?_
  refine wp_lt ql_R_2_1 ?_
  refine wp_gd ql_K_16 ?_
  refine wp_lt (gZo ql_Z_16 qf_92) ?_
  refine wp_ifp qf_302 ?_
  refine wp_ret_bd ?_
  refine wp_ifn qf_19 ?_
  refine wp_gd ql_K_1 ?_
  refine wp_lt ql_R_1_0 ?_
  refine wp_gd ql_K_2 ?_
  refine wp_lt ql_R_2_2 ?_
  refine wp_gd ql_K_49 ?_
  refine wp_bd ?_
  refine wp_of (f_X4_isInBounds.eq_1 ..) ?_
  refine wp_of (f_X4_isInBounds_2.eq_2 ..) ?_
  refine wp_gd ql_K_49 ?_
  refine wp_lt ql_R_49_0 ?_
  refine wp_gd ql_K_50 ?_
  refine wp_lt (gZo ql_Z_50 qf_214) ?_
  refine wp_ifn qf_215 ?_
  refine wp_lt ql_R_49_0 ?_
  refine wp_gd ql_K_50 ?_
  refine wp_gd (gZi ql_Z_50 qf_216) ?_
  refine wp_lt (gIk qf_32 ql_I_50_0) ?_
  refine wp_ifn qf_385 ?_
  refine wp_lt ql_R_49_0 ?_
  refine wp_gd ql_K_50 ?_
  refine wp_gd (gZi ql_Z_50 qf_216) ?_
  refine wp_lt (gIk qf_32 ql_I_50_0) ?_
  refine wp_ifp qf_386 ?_
  refine wp_lt qf_153 ?_
  refine wp_of (f_X4_isInBounds_2.eq_2 ..) ?_
  refine wp_gd ql_K_49 ?_
  refine wp_lt ql_R_49_0 ?_
  refine wp_gd ql_K_50 ?_
  refine wp_lt (gZo ql_Z_50 qf_214) ?_
  refine wp_ifn qf_218 ?_
  refine wp_lt ql_R_49_0 ?_
  refine wp_gd ql_K_50 ?_
  refine wp_gd (gZi ql_Z_50 qf_219) ?_
  refine wp_lt (gIk qf_36 ql_I_50_1) ?_
  refine wp_ifn qf_385 ?_
  refine wp_lt ql_R_49_0 ?_
  refine wp_gd ql_K_50 ?_
  refine wp_gd (gZi ql_Z_50 qf_219) ?_
  refine wp_lt (gIk qf_36 ql_I_50_1) ?_
  refine wp_ifp qf_386 ?_
  refine wp_lt qf_164 ?_
  refine wp_of (f_X4_isInBounds_2.eq_2 ..) ?_
  refine wp_gd ql_K_49 ?_
  refine wp_lt ql_R_49_0 ?_
  refine wp_gd ql_K_50 ?_
  refine wp_lt (gZo ql_Z_50 qf_214) ?_
  refine wp_ifn qf_221 ?_
  refine wp_lt ql_R_49_0 ?_
  refine wp_gd ql_K_50 ?_
  refine wp_gd (gZi ql_Z_50 qf_222) ?_
  refine wp_lt (gIk qf_41 ql_I_50_2) ?_
  refine wp_ifn qf_385 ?_
  refine wp_lt ql_R_49_0 ?_
  refine wp_gd ql_K_50 ?_
  refine wp_gd (gZi ql_Z_50 qf_222) ?_
  refine wp_lt (gIk qf_41 ql_I_50_2) ?_
  refine wp_ifp qf_386 ?_
  refine wp_lt qf_177 ?_
  refine wp_of (f_X4_isInBounds_2.eq_2 ..) ?_
  refine wp_gd ql_K_49 ?_
  refine wp_lt ql_R_49_0 ?_
  refine wp_gd ql_K_50 ?_
  refine wp_lt (gZo ql_Z_50 qf_214) ?_
  refine wp_ifn qf_224 ?_
  refine wp_lt ql_R_49_0 ?_
  refine wp_gd ql_K_50 ?_
  refine wp_gd (gZi ql_Z_50 qf_225) ?_
  refine wp_lt (gIk qf_46 ql_I_50_3) ?_
  refine wp_ifn qf_385 ?_
  refine wp_lt ql_R_49_0 ?_
  refine wp_gd ql_K_50 ?_
  refine wp_gd (gZi ql_Z_50 qf_225) ?_
  refine wp_lt (gIk qf_46 ql_I_50_3) ?_
  refine wp_ifp qf_386 ?_
  refine wp_lt qf_227 ?_
  refine wp_of (f_X4_isInBounds_2.eq_2 ..) ?_
  refine wp_gd ql_K_49 ?_
  refine wp_lt ql_R_49_0 ?_
  refine wp_gd ql_K_50 ?_
  refine wp_lt (gZo ql_Z_50 qf_214) ?_
  refine wp_ifn qf_228 ?_
  refine wp_lt ql_R_49_0 ?_
  refine wp_gd ql_K_50 ?_
  refine wp_gd (gZi ql_Z_50 qf_229) ?_
  refine wp_lt (gIk qf_51 ql_I_50_4) ?_
  refine wp_ifn qf_385 ?_
  refine wp_lt ql_R_49_0 ?_
  refine wp_gd ql_K_50 ?_
  refine wp_gd (gZi ql_Z_50 qf_229) ?_
  refine wp_lt (gIk qf_51 ql_I_50_4) ?_
  refine wp_ifp qf_386 ?_
  refine wp_lt qf_231 ?_
  refine wp_of (f_X4_isInBounds_2.eq_2 ..) ?_
  refine wp_gd ql_K_49 ?_
  refine wp_lt ql_R_49_0 ?_
  refine wp_gd ql_K_50 ?_
  refine wp_lt (gZo ql_Z_50 qf_214) ?_
  refine wp_ifn qf_232 ?_
  refine wp_lt ql_R_49_0 ?_
  refine wp_gd ql_K_50 ?_
  refine wp_gd (gZi ql_Z_50 qf_233) ?_
  refine wp_lt (gIk qf_56 ql_I_50_5) ?_
  refine wp_ifn qf_385 ?_
  refine wp_lt ql_R_49_0 ?_
  refine wp_gd ql_K_50 ?_
  refine wp_gd (gZi ql_Z_50 qf_233) ?_
  refine wp_lt (gIk qf_56 ql_I_50_5) ?_
  refine wp_ifp qf_386 ?_
  refine wp_lt qf_235 ?_
  refine wp_of (f_X4_isInBounds_2.eq_2 ..) ?_
  refine wp_gd ql_K_49 ?_
  refine wp_lt ql_R_49_0 ?_
  refine wp_gd ql_K_50 ?_
  refine wp_lt (gZo ql_Z_50 qf_214) ?_
  refine wp_ifp qf_236 ?_
  refine wp_ret_bd ?_
  refine wp_ifn qf_19 ?_
  refine wp_gd ql_K_1 ?_
  refine wp_bd ?_
  refine wp_of (f_X10_rowsAreSound.eq_1 ..) ?_
  refine wp_of (f_X10_rowsAreSound_2.eq_2 ..) ?_
  refine wp_gd ql_K_1 ?_
  refine wp_lt ql_R_1_0 ?_
  refine wp_gd ql_K_2 ?_
  refine wp_lt ql_R_2_1 ?_
  refine wp_gd ql_K_16 ?_
  refine wp_lt (gZo ql_Z_16 qf_92) ?_
  refine wp_ifn qf_298 ?_
  refine wp_lt ql_R_1_0 ?_
  refine wp_gd ql_K_2 ?_
  refine wp_lt ql_R_2_1 ?_
  refine wp_gd ql_K_16 ?_
  refine wp_gd (gZi ql_Z_16 qf_97) ?_
  refine wp_lt (gRk qf_32 ql_R_16_0) ?_
  refine wp_gd ql_K_17 ?_
  refine wp_lt ql_R_17_2 ?_
  refine wp_of (f_X10_rowsAreSound_29.eq_2 ..) ?_
  refine wp_ifp qf_87 ?_
  refine wp_of (f_X10_rowsAreSound_76.eq_1 ..) ?_
  refine wp_lt qf_153 ?_
  refine wp_of (f_X10_rowsAreSound_2.eq_2 ..) ?_
  refine wp_gd ql_K_1 ?_
  refine wp_lt ql_R_1_0 ?_
  refine wp_gd ql_K_2 ?_
  refine wp_lt ql_R_2_1 ?_
  refine wp_gd ql_K_16 ?_
  refine wp_lt (gZo ql_Z_16 qf_92) ?_
  refine wp_ifn qf_299 ?_
  refine wp_lt ql_R_1_0 ?_
  refine wp_gd ql_K_2 ?_
  refine wp_lt ql_R_2_1 ?_
  refine wp_gd ql_K_16 ?_
  refine wp_gd (gZi ql_Z_16 qf_99) ?_
  refine wp_lt (gRk qf_36 ql_R_16_1) ?_
  refine wp_gd ql_K_25 ?_
  refine wp_lt ql_R_25_2 ?_
  refine wp_of (f_X10_rowsAreSound_29.eq_2 ..) ?_
  refine wp_ifp qf_87 ?_
  refine wp_of (f_X10_rowsAreSound_76.eq_1 ..) ?_
  refine wp_lt qf_164 ?_
  refine wp_of (f_X10_rowsAreSound_2.eq_2 ..) ?_
  refine wp_gd ql_K_1 ?_
  refine wp_lt ql_R_1_0 ?_
  refine wp_gd ql_K_2 ?_
  refine wp_lt ql_R_2_1 ?_
  refine wp_gd ql_K_16 ?_
  refine wp_lt (gZo ql_Z_16 qf_92) ?_
  refine wp_ifn qf_300 ?_
  refine wp_lt ql_R_1_0 ?_
  refine wp_gd ql_K_2 ?_
  refine wp_lt ql_R_2_1 ?_
  refine wp_gd ql_K_16 ?_
  refine wp_gd (gZi ql_Z_16 qf_102) ?_
  refine wp_lt (gRk qf_41 ql_R_16_2) ?_
  refine wp_gd ql_K_33 ?_
  refine wp_lt ql_R_33_2 ?_
  refine wp_of (f_X10_rowsAreSound_29.eq_2 ..) ?_
  refine wp_ifp qf_87 ?_
  refine wp_of (f_X10_rowsAreSound_76.eq_1 ..) ?_
  refine wp_lt qf_177 ?_
  refine wp_of (f_X10_rowsAreSound_2.eq_2 ..) ?_
  refine wp_gd ql_K_1 ?_
  refine wp_lt ql_R_1_0 ?_
  refine wp_gd ql_K_2 ?_
  refine wp_lt ql_R_2_1 ?_
  refine wp_gd ql_K_16 ?_
  refine wp_lt (gZo ql_Z_16 qf_92) ?_
  refine wp_ifn qf_301 ?_
  refine wp_lt ql_R_1_0 ?_
  refine wp_gd ql_K_2 ?_
  refine wp_lt ql_R_2_1 ?_
  refine wp_gd ql_K_16 ?_
  refine wp_gd (gZi ql_Z_16 qf_105) ?_
  refine wp_lt (gRk qf_46 ql_R_16_3) ?_
  refine wp_gd ql_K_41 ?_
  refine wp_lt ql_R_41_2 ?_
  refine wp_of (f_X10_rowsAreSound_29.eq_2 ..) ?_
  refine wp_ifp qf_87 ?_
  refine wp_of (f_X10_rowsAreSound_76.eq_1 ..) ?_
  refine wp_lt qf_227 ?_
  refine wp_of (f_X10_rowsAreSound_2.eq_2 ..) ?_
  refine wp_gd ql_K_1 ?_
  refine wp_lt ql_R_1_0 ?_
  refine wp_gd ql_K_2 ?_
  refine wp_lt ql_R_2_1 ?_
  refine wp_gd ql_K_16 ?_
  refine wp_lt (gZo ql_Z_16 qf_92) ?_
  refine wp_ifp qf_302 ?_
  refine wp_ret_bd ?_
  refine wp_ifn qf_19 ?_
  refine wp_of (f_X10_isSound_57.eq_1 ..) ?_
  refine wp_gd qf_18 ?_
  refine wp_ret_bd ?_
  refine wp_gd ql_K_149 ?_
  refine wp_bd ?_
  refine wp_of (f_X13_isSound.eq_1 ..) ?_
  refine wp_gd ql_K_149 ?_
  refine wp_zI ?_
  refine wp_ret_bd ?_
  refine wp_ifp qf_20 ?_
  refine wp_of (f_L_law_3632.eq_1 ..) ?_
  refine wp_lt qf_21 ?_
  exact hrc _
end CASES13
