section CASES12
set_option maxRecDepth 100000 in
set_option maxHeartbeats 4000000 in
theorem cs_45 {xs : Nat → Int32} {rc : mS → Nat → Nat → Nat → Nat → Int32 → Option (Rs Int32)} {Q : Rs Int32 → Prop} (hrc : ∀ S, WP Q (rc S 1 149 173 174 8)) : WP Q (f_L_law_3097 8 xs rc (M3I, M3L, M3R, M3D, M3K, M3Z, 174) 1 149 173 174 0) := by
  obtain ⟨y1, hy1⟩ : ∃ y, xs 1 = y := ⟨_, rfl⟩
  refine wp_of (f_L_law_3097.eq_1 ..) ?_
  refine wp_gd qf_0 ?_
  refine wp_lt (xsk qf_1 hy1) ?_
  obtain ⟨wy1, hwy1⟩ : ∃ w, (((y1).toUInt32 % (65536 : UInt32))).toInt32 = w := ⟨_, rfl⟩
  have hwy1c := chq hwy1
  have hwy1a := hwy1c.1.2
  have hwy1b := hwy1c.2
  refine wp_lt hwy1 ?_
  refine wp_bd ?_
  refine wp_of (f_L_type.eq_1 ..) ?_
  refine wp_gd ql_K_1 ?_
  refine wp_bdc ?_
  refine wp_of (f_X10_type.eq_1 ..) ?_
  refine wp_gd ql_K_1 ?_
  refine wp_lt ql_R_1_3 ?_
  refine wp_gd ql_K_109 ?_
  refine wp_lt ql_I_109_4 ?_
  refine wp_lt ql_R_1_3 ?_
  refine wp_gd ql_K_109 ?_
  refine wp_lt ql_R_109_0 ?_
  refine wp_gd ql_K_110 ?_
  refine wp_lt (gZo ql_Z_110 qf_304) ?_
  refine wp_ifp qf_303 ?_
  refine wp_lt ql_R_1_3 ?_
  refine wp_gd ql_K_109 ?_
  refine wp_bd ?_
  refine wp_of (f_X7_append.eq_1 ..) ?_
  refine wp_gd ql_K_109 ?_
  refine wp_lt ql_I_109_4 ?_
  refine wp_ifn qf_28 ?_
  refine wp_lt ql_I_109_4 ?_
  refine wp_lt ql_R_109_0 ?_
  refine wp_gd ql_K_110 ?_
  refine wp_lt (gZo ql_Z_110 qf_304) ?_
  refine wp_ifn qf_305 ?_
  refine wp_lt ql_R_109_0 ?_
  refine wp_lt ql_I_109_4 ?_
  refine wp_gd ql_K_110 ?_
  refine wp_gd (gZi ql_Z_110 qf_306) ?_
  refine wp_gd hwy1c ?_
  refine wp_zIk qf_32 ?_
  refine wp_lt (Eq.trans (gI_a rfl) ql_I_109_4) ?_
  refine wp_lt qf_27 ?_
  refine wp_zI ?_
  refine wp_of (f_X7_append_39.eq_1 ..) ?_
  refine wp_gd ql_K_109 ?_
  refine wp_lt gI_s ?_
  refine wp_ret_bd ?_
  refine wp_ret_bdc ?_
  refine wp_lt qf_192 ?_
  refine wp_gd ql_K_173 ?_
  refine wp_gd (gZi ql_Z_173 qf_71) ?_
  refine wp_zLk qf_32 ?_
  refine wp_ret_bd ?_
  refine wp_gd qf_0 ?_
  refine wp_lt (xsk qf_1 hy1) ?_
  refine wp_lt hwy1 ?_
  refine wp_gd ql_K_149 ?_
  refine wp_bd ?_
  refine wp_of (f2_X13_type.eq_1 ..) ?_
  refine wp_gd ql_K_149 ?_
  refine wp_lt ql_R_149_20 ?_
  refine wp_gd (Or.inr qf_307) ?_
  refine wp_bd ?_
  refine wp_of (f2_J0_length_8abf5.eq_1 ..) ?_
  refine wp_gd (Or.inr qf_307) ?_
  refine wp_lt (ifR qf_308 qf_309) ?_
  refine wp_gd (Or.inr qf_310) ?_
  refine wp_lt (zbo (zbK qf_311 qf_312) qf_313) ?_
  refine wp_gd (Or.inr qf_307) ?_
  refine wp_bd ?_
  refine wp_of (f2_J0_coder_7d493.eq_1 ..) ?_
  refine wp_ifn qf_19 ?_
  refine wp_gd (Or.inr qf_307) ?_
  refine wp_lt (ifR qf_308 rfl) ?_
  refine wp_of (f2_J0_coder_7d493_14.eq_1 ..) ?_
  refine wp_gd qf_138 ?_
  refine wp_ret_bd ?_
  refine wp_lt qf_314 ?_
  refine wp_ret_bd ?_
  refine wp_ifn qf_315 ?_
  refine wp_of (f2_X13_type_18.eq_1 ..) ?_
  refine wp_gd ql_K_149 ?_
  refine wp_bd ?_
  refine wp_of (f_X13_isWrong.eq_1 ..) ?_
  refine wp_gd ql_K_149 ?_
  refine wp_zI ?_
  refine wp_ifp qf_73 ?_
  refine wp_of (f_X13_isWrong_14.eq_1 ..) ?_
  refine wp_gd qf_14 ?_
  refine wp_ret_bd ?_
  refine wp_ifp qf_15 ?_
  refine wp_gd (gNk (n := 174) qf_74) ?_
  refine wp_zW (m := 175) rfl ?_
  refine wp_lt (show _ = 175 from rfl) ?_
  refine wp_bd ?_
  refine wp_of (f2_J4_init_da8c8.eq_1 ..) ?_
  refine wp_gd gK_n ?_
  refine wp_bd ?_
  refine wp_of (f2_J5_init_d00df.eq_1 ..) ?_
  refine wp_gd gK_n ?_
  refine wp_ifn qf_19 ?_
  refine wp_ifp qf_83 ?_
  refine wp_gd (gNk (n := 175) qf_79) ?_
  refine wp_zW (m := 176) rfl ?_
  refine wp_lt (show _ = 176 from rfl) ?_
  refine wp_gd (Eq.trans (gK_w rfl) gK_n) ?_
  refine wp_zR ?_
  refine wp_zI ?_
  refine wp_of (f2_J5_init_d00df_38.eq_1 ..) ?_
  refine wp_ret_bd ?_
  refine wp_ret_bd ?_
  refine wp_gd (Eq.trans (gK_w rfl) (Eq.trans (gK_w rfl) ql_K_149)) ?_
  refine wp_lt (Eq.trans (gR_a rfl) (Eq.trans (gR_w rfl) (Eq.trans (gR_w rfl) ql_R_149_20))) ?_
  refine wp_gd (Eq.trans (gK_w rfl) gK_n) ?_
  refine wp_bd ?_
  refine wp_of (f2_J4_append_15ec4.eq_1 ..) ?_
  refine wp_gd (Eq.trans (gK_w rfl) gK_n) ?_
  refine wp_bd ?_
  refine wp_of (f2_J5_append_cf1ce.eq_1 ..) ?_
  refine wp_ifn qf_316 ?_
  refine wp_gd (Or.inr qf_307) ?_
  refine wp_bd ?_
  refine wp_of (f2_J0_length_8abf5.eq_1 ..) ?_
  refine wp_gd (Or.inr qf_307) ?_
  refine wp_lt (ifR qf_308 qf_309) ?_
  refine wp_gd (Or.inr qf_310) ?_
  refine wp_lt (zbo (zbK qf_311 qf_312) qf_313) ?_
  refine wp_gd (Or.inr qf_307) ?_
  refine wp_bd ?_
  refine wp_of (f2_J0_coder_7d493.eq_1 ..) ?_
  refine wp_ifn qf_19 ?_
  refine wp_gd (Or.inr qf_307) ?_
  refine wp_lt (ifR qf_308 rfl) ?_
  refine wp_of (f2_J0_coder_7d493_14.eq_1 ..) ?_
  refine wp_gd qf_138 ?_
  refine wp_ret_bd ?_
  refine wp_lt qf_314 ?_
  refine wp_ret_bd ?_
  refine wp_gd (Eq.trans (gK_w rfl) gK_n) ?_
  refine wp_lt (Eq.trans (gI_b rfl) (Eq.trans (gI_w rfl) gI_n)) ?_
  refine wp_lt qf_242 ?_
  refine wp_bd ?_
  refine wp_of (f2_J5_ensureCapacityInternal_d00df.eq_1 ..) ?_
  refine wp_gd (Eq.trans (gK_w rfl) gK_n) ?_
  refine wp_lt gR_s ?_
  refine wp_gd (Or.inl ⟨qf_317, gK_n⟩) ?_
  refine wp_lt (zbo (zbL qf_317 gZ_n) qf_318) ?_
  refine wp_lt gI_s ?_
  refine wp_lt qf_319 ?_
  refine wp_lt qf_320 ?_
  refine wp_ifp qf_321 ?_
  refine wp_of (f2_J5_ensureCapacityInternal_d00df_38.eq_1 ..) ?_
  refine wp_ret_bd ?_
  refine wp_gd (Eq.trans (gK_w rfl) gK_n) ?_
  refine wp_lt (Eq.trans (gI_b rfl) (Eq.trans (gI_w rfl) gI_n)) ?_
  refine wp_bd ?_
  refine wp_of (f2_J5_putStringAt_47b60.eq_1 ..) ?_
  refine wp_gd (Eq.trans (gK_w rfl) gK_n) ?_
  refine wp_bd ?_
  refine wp_of (f2_J5_inflateIfNeededFor_a7421.eq_1 ..) ?_
  refine wp_ifn qf_19 ?_
  refine wp_gd (Eq.trans (gK_w rfl) gK_n) ?_
  refine wp_lt gI_s ?_
  refine wp_gd (Or.inr qf_307) ?_
  refine wp_bd ?_
  refine wp_of (f2_J0_coder_7d493.eq_1 ..) ?_
  refine wp_ifn qf_19 ?_
  refine wp_gd (Or.inr qf_307) ?_
  refine wp_lt (ifR qf_308 rfl) ?_
  refine wp_of (f2_J0_coder_7d493_14.eq_1 ..) ?_
  refine wp_gd qf_138 ?_
  refine wp_ret_bd ?_
  refine wp_ifp qf_15 ?_
  refine wp_of (f2_J5_inflateIfNeededFor_a7421_21.eq_1 ..) ?_
  refine wp_ret_bd ?_
  refine wp_gd (Eq.trans (gK_w rfl) gK_n) ?_
  refine wp_lt gR_s ?_
  refine wp_lt gI_s ?_
  refine wp_gd (Or.inr qf_307) ?_
  refine wp_bd ?_
  refine wp_of (f2_J0_getBytes_840e7.eq_1 ..) ?_
  refine wp_gd (Or.inr qf_307) ?_
  refine wp_bd ?_
  refine wp_of (f2_J0_coder_7d493.eq_1 ..) ?_
  refine wp_ifn qf_19 ?_
  refine wp_gd (Or.inr qf_307) ?_
  refine wp_lt (ifR qf_308 rfl) ?_
  refine wp_of (f2_J0_coder_7d493_14.eq_1 ..) ?_
  refine wp_gd qf_138 ?_
  refine wp_ret_bd ?_
  refine wp_ifp qf_15 ?_
  refine wp_gd (Or.inr qf_307) ?_
  refine wp_lt (ifR qf_308 qf_309) ?_
  refine wp_lt qf_322 ?_
  refine wp_gd (Or.inr qf_307) ?_
  refine wp_lt (ifR qf_308 qf_309) ?_
  refine wp_gd (Or.inr qf_310) ?_
  refine wp_lt (zbo (zbK qf_311 qf_312) qf_313) ?_
  refine wp_ifp qf_15 ?_
  refine wp_gd qf_310 ?_
  refine wp_gd gK_n ?_
  refine wp_gd qf_15 ?_
  refine wp_gd (gZi gZ_n qf_323) ?_
  refine wp_of (f2_J0_getBytes_840e7_43.eq_1 ..) ?_
  refine wp_ret_bd ?_
  refine wp_ret_bd ?_
  refine wp_gd (Eq.trans (gK_w rfl) gK_n) ?_
  refine wp_lt (Eq.trans (gI_b rfl) (Eq.trans (gI_w rfl) gI_n)) ?_
  refine wp_lt qf_242 ?_
  refine wp_zI ?_
  refine wp_ret_bd ?_
  refine wp_ret_bd ?_
  refine wp_gd (Eq.trans (gK_w rfl) gK_n) ?_
  refine wp_bd ?_
  refine wp_of (f2_J4_append_cf468.eq_1 ..) ?_
  refine wp_gd (Eq.trans (gK_w rfl) gK_n) ?_
  refine wp_bd ?_
  refine wp_of (f2_J5_append_3fe6f.eq_1 ..) ?_
  refine wp_gd (Eq.trans (gK_w rfl) gK_n) ?_
  refine wp_lt gI_s ?_
  refine wp_lt qf_27 ?_
  refine wp_bd ?_
  refine wp_of (f2_J5_ensureCapacityInternal_d00df.eq_1 ..) ?_
  refine wp_gd (Eq.trans (gK_w rfl) gK_n) ?_
  refine wp_lt gR_s ?_
  refine wp_gd (Or.inl ⟨qf_317, gK_n⟩) ?_
  refine wp_lt (zbo (zbL qf_317 gZ_n) qf_318) ?_
  refine wp_lt (Eq.trans (gI_b rfl) gI_s) ?_
  refine wp_lt qf_319 ?_
  refine wp_lt qf_324 ?_
  refine wp_ifp qf_325 ?_
  refine wp_of (f2_J5_ensureCapacityInternal_d00df_38.eq_1 ..) ?_
  refine wp_ret_bd ?_
  refine wp_gd (Eq.trans (gK_w rfl) gK_n) ?_
  refine wp_bd ?_
  refine wp_of (f2_J5_isLatin1_aae02.eq_1 ..) ?_
  refine wp_ifn qf_19 ?_
  refine wp_gd (Eq.trans (gK_w rfl) gK_n) ?_
  refine wp_lt (Eq.trans (gI_b rfl) gI_s) ?_
  refine wp_ifp qf_15 ?_
  refine wp_of (f2_J5_isLatin1_aae02_18.eq_1 ..) ?_
  refine wp_gd qf_18 ?_
  refine wp_ret_bd ?_
  refine wp_ifn qf_19 ?_
  refine wp_bd ?_
  refine wp_of (f_J1_canEncode_fc78d.eq_1 ..) ?_
  refine wp_if (fun c1 => ?_) (fun c1 => ?_)
  · skip
    refine wp_of (f_J1_canEncode_fc78d_12.eq_1 ..) ?_
    refine wp_gd qf_14 ?_
    refine wp_ret_bd ?_
    refine wp_ifp qf_15 ?_
    refine wp_of (f2_J5_append_3fe6f_45.eq_1 ..) ?_
    refine wp_gd (Eq.trans (gK_w rfl) gK_n) ?_
    refine wp_bd ?_
    refine wp_of (f2_J5_isLatin1_aae02.eq_1 ..) ?_
    refine wp_ifn qf_19 ?_
    refine wp_gd (Eq.trans (gK_w rfl) gK_n) ?_
    refine wp_lt (Eq.trans (gI_b rfl) gI_s) ?_
    refine wp_ifp qf_15 ?_
    refine wp_of (f2_J5_isLatin1_aae02_18.eq_1 ..) ?_
    refine wp_gd qf_18 ?_
    refine wp_ret_bd ?_
    refine wp_ifn qf_19 ?_
    refine wp_gd (Eq.trans (gK_w rfl) gK_n) ?_
    refine wp_bd ?_
    refine wp_of (f2_J5_inflate_da8c8.eq_1 ..) ?_
    refine wp_gd (Eq.trans (gK_w rfl) gK_n) ?_
    refine wp_bd ?_
    refine wp_of (f2_J5_isLatin1_aae02.eq_1 ..) ?_
    refine wp_ifn qf_19 ?_
    refine wp_gd (Eq.trans (gK_w rfl) gK_n) ?_
    refine wp_lt (Eq.trans (gI_b rfl) gI_s) ?_
    refine wp_ifp qf_15 ?_
    refine wp_of (f2_J5_isLatin1_aae02_18.eq_1 ..) ?_
    refine wp_gd qf_18 ?_
    refine wp_ret_bd ?_
    refine wp_ifn qf_19 ?_
    refine wp_gd (Eq.trans (gK_w rfl) gK_n) ?_
    refine wp_lt gR_s ?_
    refine wp_gd (Or.inl ⟨qf_317, gK_n⟩) ?_
    refine wp_lt (zbo (zbL qf_317 gZ_n) qf_318) ?_
    refine wp_bd ?_
    refine wp_of (f2_J2_newBytesFor_77867.eq_1 ..) ?_
    refine wp_bd ?_
    refine wp_of (f_J2_newBytesLength_0f7a4.eq_1 ..) ?_
    refine wp_ifp qf_326 ?_
    refine wp_ifp qf_327 ?_
    refine wp_lt qf_328 ?_
    refine wp_ret_bd ?_
    refine wp_ifp qf_86 ?_
    refine wp_gd (gNk (n := 176) qf_329) ?_
    refine wp_zW (m := 177) rfl ?_
    refine wp_lt (show _ = 177 from rfl) ?_
    refine wp_ret_bd ?_
    refine wp_gd (Eq.trans (gK_w rfl) (Eq.trans (gK_w rfl) gK_n)) ?_
    refine wp_lt (Eq.trans (gR_w rfl) gR_s) ?_
    refine wp_lt (Eq.trans (gI_w rfl) gI_s) ?_
    refine wp_bd ?_
    refine wp_of (f2_J1_inflate_0e8fd.eq_1 ..) ?_
    refine wp_bd ?_
    refine wp_of (f2_J2_inflate_0e8fd.eq_1 ..) ?_
    refine wp_bd ?_
    refine wp_of (f2_J2_checkBoundsOffCount_d044e.eq_1 ..) ?_
    refine wp_bd ?_
    refine wp_of (f2_J2_length_9d52b.eq_1 ..) ?_
    refine wp_gd (Or.inl ⟨qf_330, gK_n⟩) ?_
    refine wp_lt (zbo (zbL qf_330 gZ_n) qf_331) ?_
    refine wp_lt qf_332 ?_
    refine wp_ret_bd ?_
    refine wp_bd ?_
    refine wp_of (f2_J0_checkBoundsOffCount_cabcc.eq_1 ..) ?_
    refine wp_bd ?_
    refine wp_of (f_J3_checkFromIndexSize_8c36e.eq_1 ..) ?_
    refine wp_lt qf_333 ?_
    refine wp_lt qf_333 ?_
    refine wp_ifn qf_334 ?_
    refine wp_lt qf_335 ?_
    refine wp_ifp qf_326 ?_
    refine wp_ret_bd ?_
    refine wp_ret_bd ?_
    refine wp_ret_bd ?_
    refine wp_of (f2_J2_inflate_0e8fd_10.eq_2 ..) ?_
    refine wp_ifp qf_73 ?_
    refine wp_ret_bd ?_
    refine wp_ret_bd ?_
    refine wp_gd (Eq.trans (gK_w rfl) (Eq.trans (gK_w rfl) gK_n)) ?_
    refine wp_zR ?_
    refine wp_zI ?_
    refine wp_ret_bd ?_
    refine wp_of (f2_J5_append_3fe6f_56.eq_1 ..) ?_
    refine wp_gd (Eq.trans (gK_w rfl) (Eq.trans (gK_w rfl) gK_n)) ?_
    refine wp_lt gR_s ?_
    refine wp_lt (Eq.trans (gI_b rfl) (Eq.trans (gI_w rfl) gI_s)) ?_
    refine wp_lt qf_27 ?_
    refine wp_zI ?_
    refine wp_bd ?_
    refine wp_of (f2_J2_putCharSB_b72d1.eq_1 ..) ?_
    refine wp_bd ?_
    refine wp_of (f2_J2_checkIndex_2214a.eq_1 ..) ?_
    refine wp_bd ?_
    refine wp_of (f2_J2_length_9d52b.eq_1 ..) ?_
    refine wp_gd (Or.inl ⟨qf_330, gK_n⟩) ?_
    refine wp_lt (zbo (zbL qf_330 gZ_n) qf_331) ?_
    refine wp_lt qf_332 ?_
    refine wp_ret_bd ?_
    refine wp_bd ?_
    refine wp_of (f2_J0_checkIndex_df160.eq_1 ..) ?_
    refine wp_bd ?_
    refine wp_of (f_J3_checkIndex_8e157.eq_1 ..) ?_
    refine wp_ifn qf_28 ?_
    refine wp_ifp qf_336 ?_
    refine wp_ret_bd ?_
    refine wp_ret_bd ?_
    refine wp_ret_bd ?_
    refine wp_bd ?_
    refine wp_of (f2_J2_putChar_b72d1.eq_1 ..) ?_
    refine wp_ifn qf_19 ?_
    refine wp_of (f2_J2_putChar_b72d1_28.eq_1 ..) ?_
    refine wp_lt qf_337 ?_
    refine wp_lt qf_153 ?_
    refine wp_ltr ?_
    refine wp_ltr ?_
    refine wp_gd gK_n ?_
    refine wp_gd (gZi gZ_n qf_338) ?_
    refine wp_gd i2b_idem ?_
    refine wp_zIk qf_32 ?_
    refine wp_ltr ?_
    refine wp_ltr ?_
    refine wp_gd (gZi gZ_n qf_339) ?_
    refine wp_gd i2b_idem ?_
    refine wp_zIk qf_36 ?_
    refine wp_ret_bd ?_
    refine wp_ret_bd ?_
    refine wp_of (f2_J5_append_3fe6f_75.eq_1 ..) ?_
    refine wp_ret_bd ?_
    refine wp_ret_bd ?_
    refine wp_gd (Eq.trans (gK_w rfl) (Eq.trans (gK_w rfl) gK_n)) ?_
    refine wp_bd ?_
    refine wp_of (f2_J4_toString_0e30d.eq_1 ..) ?_
    refine wp_gd (gNk (n := 177) qf_340) ?_
    refine wp_zW (m := 178) rfl ?_
    refine wp_lt (show _ = 178 from rfl) ?_
    refine wp_bd ?_
    refine wp_of (f2_J0_init_81219.eq_1 ..) ?_
    refine wp_gd gK_n ?_
    refine wp_bd ?_
    refine wp_of (f2_J0_init_db425.eq_1 ..) ?_
    refine wp_gd gK_n ?_
    refine wp_gd (Eq.trans (gK_w rfl) (Eq.trans (gK_w rfl) (Eq.trans (gK_w rfl) gK_n))) ?_
    refine wp_bd ?_
    refine wp_of (f_J5_getValue_6d5f1.eq_1 ..) ?_
    refine wp_gd (Eq.trans (gK_w rfl) (Eq.trans (gK_w rfl) (Eq.trans (gK_w rfl) gK_n))) ?_
    refine wp_lt (Eq.trans (gR_w rfl) gR_s) ?_
    refine wp_ret_bd ?_
    refine wp_gd (Eq.trans (gK_w rfl) (Eq.trans (gK_w rfl) (Eq.trans (gK_w rfl) gK_n))) ?_
    refine wp_bd ?_
    refine wp_of (f2_J4_length_8abf5.eq_1 ..) ?_
    refine wp_gd (Eq.trans (gK_w rfl) (Eq.trans (gK_w rfl) (Eq.trans (gK_w rfl) gK_n))) ?_
    refine wp_bd ?_
    refine wp_of (f_J5_length_8abf5.eq_1 ..) ?_
    refine wp_gd (Eq.trans (gK_w rfl) (Eq.trans (gK_w rfl) (Eq.trans (gK_w rfl) gK_n))) ?_
    refine wp_lt (Eq.trans (gI_w rfl) (Eq.trans (gI_a rfl) (Eq.trans (gI_a rfl) gI_s))) ?_
    refine wp_ret_bd ?_
    refine wp_ret_bd ?_
    refine wp_gd (Eq.trans (gK_w rfl) (Eq.trans (gK_w rfl) (Eq.trans (gK_w rfl) gK_n))) ?_
    refine wp_bd ?_
    refine wp_of (f2_J5_isLatin1_aae02.eq_1 ..) ?_
    refine wp_ifn qf_19 ?_
    refine wp_gd (Eq.trans (gK_w rfl) (Eq.trans (gK_w rfl) (Eq.trans (gK_w rfl) gK_n))) ?_
    refine wp_lt (Eq.trans (gI_w rfl) (Eq.trans (gI_a rfl) (Eq.trans (gI_a rfl) (Eq.trans (gI_b rfl) gI_s)))) ?_
    refine wp_ifn qf_19 ?_
    refine wp_of (f2_J5_isLatin1_aae02_17.eq_1 ..) ?_
    refine wp_of (f2_J5_isLatin1_aae02_18.eq_1 ..) ?_
    refine wp_gd qf_14 ?_
    refine wp_ret_bd ?_
    refine wp_ifp qf_15 ?_
    refine wp_ifn qf_19 ?_
    refine wp_gd (Eq.trans (gK_w rfl) (Eq.trans (gK_w rfl) (Eq.trans (gK_w rfl) gK_n))) ?_
    refine wp_lt (Eq.trans (gI_w rfl) (Eq.trans (gI_a rfl) (Eq.trans (gI_a rfl) (Eq.trans (gI_b rfl) (Eq.trans (gI_b rfl) (Eq.trans (gI_w rfl) (Eq.trans (gI_b rfl) (Eq.trans (gI_b rfl) (Eq.trans (gI_w rfl) gI_n))))))))) ?_
    refine wp_ifp qf_15 ?_
    refine wp_of (f2_J0_init_db425_79.eq_1 ..) ?_
    refine wp_gd gK_n ?_
    refine wp_zI ?_
    refine wp_lt qf_341 ?_
    refine wp_bd ?_
    refine wp_of (f2_J7_copyOfRange_39247.eq_1 ..) ?_
    refine wp_ifp qf_15 ?_
    refine wp_gd (Or.inl ⟨qf_330, (Eq.trans (gK_w rfl) gK_n)⟩) ?_
    refine wp_lt (zbo (zbL qf_330 (Eq.trans (gZ_w rfl) gZ_n)) qf_331) ?_
    refine wp_ifn qf_342 ?_
    refine wp_of (f2_J7_copyOfRange_39247_10.eq_1 ..) ?_
    refine wp_bd ?_
    refine wp_of (f2_J7_copyOfRangeByte_39247.eq_1 ..) ?_
    refine wp_bd ?_
    refine wp_of (f2_J7_checkLength_df160.eq_1 ..) ?_
    refine wp_ifp qf_168 ?_
    refine wp_ret_bd ?_
    refine wp_lt qf_343 ?_
    refine wp_ifn qf_263 ?_
    refine wp_ifp qf_111 ?_
    refine wp_gd (gNk (n := 178) qf_344) ?_
    refine wp_zW (m := 179) rfl ?_
    refine wp_lt (show _ = 179 from rfl) ?_
    refine wp_gd (Or.inl ⟨qf_330, (Eq.trans (gK_w rfl) (Eq.trans (gK_w rfl) gK_n))⟩) ?_
    refine wp_lt (zbo (zbL qf_330 (Eq.trans (gZ_w rfl) (Eq.trans (gZ_w rfl) gZ_n))) qf_331) ?_
    refine wp_lt qf_345 ?_
    refine wp_lt qf_346 ?_
    refine wp_ifn qf_112 ?_
    refine wp_ifn qf_263 ?_
    refine wp_ifp qf_111 ?_
    refine wp_gd (Eq.trans (gK_w rfl) (Eq.trans (gK_w rfl) gK_n)) ?_
    refine wp_gd gK_n ?_
    refine wp_gd qf_15 ?_
    refine wp_gd qf_15 ?_
    refine wp_gd (gZi (Eq.trans (gZ_w rfl) (Eq.trans (gZ_w rfl) gZ_n)) qf_339) ?_
    refine wp_gd (gZi gZ_n qf_347) ?_
    refine wp_lt (gIk qf_32 (Eq.trans (gI_w rfl) (Eq.trans (gI_a rfl) (Eq.trans (gI_w rfl) (Eq.trans (gI_b rfl) gI_s))))) ?_
    refine wp_gd i2b_idem ?_
    refine wp_lt (gIk qf_36 (Eq.trans (gI_w rfl) (Eq.trans (gI_a rfl) (Eq.trans (gI_w rfl) gI_s)))) ?_
    refine wp_gd i2b_idem ?_
    refine wp_zIk qf_32 ?_
    refine wp_zIk qf_36 ?_
    refine wp_ret_bd ?_
    refine wp_ret_bd ?_
    refine wp_gd (Eq.trans (gK_w rfl) gK_n) ?_
    refine wp_zR ?_
    refine wp_of (f2_J0_init_db425_97.eq_1 ..) ?_
    refine wp_ret_bd ?_
    refine wp_ret_bd ?_
    refine wp_ret_bd ?_
    refine wp_gd (Eq.trans (gK_w rfl) (Eq.trans (gK_w rfl) (Eq.trans (gK_w rfl) (Eq.trans (gK_w rfl) (Eq.trans (gK_w rfl) ql_K_149))))) ?_
    refine wp_zR ?_
    refine wp_lt gR_s ?_
    refine wp_gd (Or.inl ⟨qf_348, (Eq.trans (gK_w rfl) gK_n)⟩) ?_
    refine wp_bd ?_
    refine wp_of (f2_J0_length_8abf5.eq_1 ..) ?_
    refine wp_gd (Or.inl ⟨qf_348, (Eq.trans (gK_w rfl) gK_n)⟩) ?_
    refine wp_lt (ifL qf_348 (Eq.trans (gR_a rfl) gR_s)) ?_
    refine wp_gd (Or.inl ⟨qf_349, gK_n⟩) ?_
    refine wp_lt (zbo (zbL qf_349 gZ_n) qf_350) ?_
    refine wp_gd (Or.inl ⟨qf_348, (Eq.trans (gK_w rfl) gK_n)⟩) ?_
    refine wp_bd ?_
    refine wp_of (f2_J0_coder_7d493.eq_1 ..) ?_
    refine wp_ifn qf_19 ?_
    refine wp_gd (Or.inl ⟨qf_348, (Eq.trans (gK_w rfl) gK_n)⟩) ?_
    refine wp_lt (ifL qf_348 (Eq.trans (gI_a rfl) (Eq.trans (gI_a rfl) (Eq.trans (gI_w rfl) gI_s)))) ?_
    refine wp_of (f2_J0_coder_7d493_14.eq_1 ..) ?_
    refine wp_gd qf_351 ?_
    refine wp_ret_bd ?_
    refine wp_lt qf_352 ?_
    refine wp_ret_bd ?_
    refine wp_ret_bd ?_
    refine wp_gd (Eq.trans (gK_w rfl) (Eq.trans (gK_w rfl) (Eq.trans (gK_w rfl) (Eq.trans (gK_w rfl) (Eq.trans (gK_w rfl) ql_K_149))))) ?_
    refine wp_bd ?_
    refine wp_of (f_X13_thrown.eq_1 ..) ?_
    refine wp_gd (Eq.trans (gK_w rfl) (Eq.trans (gK_w rfl) (Eq.trans (gK_w rfl) (Eq.trans (gK_w rfl) (Eq.trans (gK_w rfl) ql_K_149))))) ?_
    refine wp_lt (Eq.trans (gI_a rfl) (Eq.trans (gI_a rfl) (Eq.trans (gI_w rfl) (Eq.trans (gI_a rfl) (Eq.trans (gI_w rfl) (Eq.trans (gI_a rfl) (Eq.trans (gI_a rfl) (Eq.trans (gI_a rfl) (Eq.trans (gI_a rfl) (Eq.trans (gI_w rfl) (Eq.trans (gI_a rfl) (Eq.trans (gI_a rfl) (Eq.trans (gI_w rfl) (Eq.trans (gI_w rfl) gI_s)))))))))))))) ?_
    refine wp_ret_bd ?_
    refine wp_ifp qf_15 ?_
    refine wp_ifp qf_15 ?_
    refine wp_gd (Eq.trans (gK_w rfl) (Eq.trans (gK_w rfl) (Eq.trans (gK_w rfl) (Eq.trans (gK_w rfl) (Eq.trans (gK_w rfl) ql_K_173))))) ?_
    refine wp_gd (gZi (Eq.trans (gZ_w rfl) (Eq.trans (gZ_w rfl) (Eq.trans (gZ_w rfl) (Eq.trans (gZ_w rfl) (Eq.trans (gZ_w rfl) ql_Z_173))))) qf_71) ?_
    refine wp_lt (gLk qf_32 (Eq.trans (gL_w rfl) (Eq.trans (gL_w rfl) (Eq.trans (gL_w rfl) (Eq.trans (gL_w rfl) (Eq.trans (gL_w rfl) gL_s)))))) ?_
    refine wp_lt qf_192 ?_
    refine wp_lt qf_195 ?_
    refine wp_ifp qf_15 ?_
    refine wp_of (f_L_law_3152.eq_1 ..) ?_
    refine wp_of (f_L_law_3632.eq_1 ..) ?_
    refine wp_lt qf_21 ?_
    exact hrc _
  · skip
    refine wp_of (f_J1_canEncode_fc78d_12.eq_1 ..) ?_
    refine wp_gd qf_18 ?_
    refine wp_ret_bd ?_
    refine wp_ifn qf_19 ?_
    refine wp_gd (Eq.trans (gK_w rfl) gK_n) ?_
    refine wp_lt gR_s ?_
    refine wp_lt gI_s ?_
    refine wp_lt qf_27 ?_
    refine wp_zI ?_
    refine wp_ltr ?_
    refine wp_gd gK_n ?_
    refine wp_gd (gZi gZ_n qf_323) ?_
    refine wp_gd i2b_idem ?_
    refine wp_zIk qf_32 ?_
    refine wp_of (f2_J5_append_3fe6f_75.eq_1 ..) ?_
    refine wp_ret_bd ?_
    refine wp_ret_bd ?_
    refine wp_gd (Eq.trans (gK_w rfl) gK_n) ?_
    refine wp_bd ?_
    refine wp_of (f2_J4_toString_0e30d.eq_1 ..) ?_
    refine wp_gd (gNk (n := 176) qf_329) ?_
    refine wp_zW (m := 177) rfl ?_
    refine wp_lt (show _ = 177 from rfl) ?_
    refine wp_bd ?_
    refine wp_of (f2_J0_init_81219.eq_1 ..) ?_
    refine wp_gd gK_n ?_
    refine wp_bd ?_
    refine wp_of (f2_J0_init_db425.eq_1 ..) ?_
    refine wp_gd gK_n ?_
    refine wp_gd (Eq.trans (gK_w rfl) (Eq.trans (gK_w rfl) gK_n)) ?_
    refine wp_bd ?_
    refine wp_of (f_J5_getValue_6d5f1.eq_1 ..) ?_
    refine wp_gd (Eq.trans (gK_w rfl) (Eq.trans (gK_w rfl) gK_n)) ?_
    refine wp_lt (Eq.trans (gR_w rfl) gR_s) ?_
    refine wp_ret_bd ?_
    refine wp_gd (Eq.trans (gK_w rfl) (Eq.trans (gK_w rfl) gK_n)) ?_
    refine wp_bd ?_
    refine wp_of (f2_J4_length_8abf5.eq_1 ..) ?_
    refine wp_gd (Eq.trans (gK_w rfl) (Eq.trans (gK_w rfl) gK_n)) ?_
    refine wp_bd ?_
    refine wp_of (f_J5_length_8abf5.eq_1 ..) ?_
    refine wp_gd (Eq.trans (gK_w rfl) (Eq.trans (gK_w rfl) gK_n)) ?_
    refine wp_lt (Eq.trans (gI_w rfl) (Eq.trans (gI_a rfl) gI_s)) ?_
    refine wp_ret_bd ?_
    refine wp_ret_bd ?_
    refine wp_gd (Eq.trans (gK_w rfl) (Eq.trans (gK_w rfl) gK_n)) ?_
    refine wp_bd ?_
    refine wp_of (f2_J5_isLatin1_aae02.eq_1 ..) ?_
    refine wp_ifn qf_19 ?_
    refine wp_gd (Eq.trans (gK_w rfl) (Eq.trans (gK_w rfl) gK_n)) ?_
    refine wp_lt (Eq.trans (gI_w rfl) (Eq.trans (gI_a rfl) (Eq.trans (gI_b rfl) (Eq.trans (gI_b rfl) gI_s)))) ?_
    refine wp_ifp qf_15 ?_
    refine wp_of (f2_J5_isLatin1_aae02_18.eq_1 ..) ?_
    refine wp_gd qf_18 ?_
    refine wp_ret_bd ?_
    refine wp_ifn qf_19 ?_
    refine wp_gd gK_n ?_
    refine wp_zI ?_
    refine wp_bd ?_
    refine wp_of (f2_J7_copyOfRange_39247.eq_1 ..) ?_
    refine wp_ifp qf_15 ?_
    refine wp_gd (Or.inl ⟨qf_317, (Eq.trans (gK_w rfl) gK_n)⟩) ?_
    refine wp_lt (zbo (zbL qf_317 (Eq.trans (gZ_w rfl) gZ_n)) qf_318) ?_
    refine wp_ifn qf_353 ?_
    refine wp_of (f2_J7_copyOfRange_39247_10.eq_1 ..) ?_
    refine wp_bd ?_
    refine wp_of (f2_J7_copyOfRangeByte_39247.eq_1 ..) ?_
    refine wp_bd ?_
    refine wp_of (f2_J7_checkLength_df160.eq_1 ..) ?_
    refine wp_ifp qf_157 ?_
    refine wp_ret_bd ?_
    refine wp_lt qf_354 ?_
    refine wp_ifp qf_20 ?_
    refine wp_gd (gNk (n := 177) qf_340) ?_
    refine wp_zW (m := 178) rfl ?_
    refine wp_lt (show _ = 178 from rfl) ?_
    refine wp_gd (Or.inl ⟨qf_317, (Eq.trans (gK_w rfl) (Eq.trans (gK_w rfl) gK_n))⟩) ?_
    refine wp_lt (zbo (zbL qf_317 (Eq.trans (gZ_w rfl) (Eq.trans (gZ_w rfl) gZ_n))) qf_318) ?_
    refine wp_lt qf_335 ?_
    refine wp_lt qf_355 ?_
    refine wp_ifn qf_19 ?_
    refine wp_ifp qf_20 ?_
    refine wp_gd (Eq.trans (gK_w rfl) (Eq.trans (gK_w rfl) gK_n)) ?_
    refine wp_gd gK_n ?_
    refine wp_gd qf_15 ?_
    refine wp_gd qf_15 ?_
    refine wp_gd (gZi (Eq.trans (gZ_w rfl) (Eq.trans (gZ_w rfl) gZ_n)) qf_323) ?_
    refine wp_gd (gZi gZ_n qf_71) ?_
    refine wp_lt (gIk qf_32 (Eq.trans (gI_w rfl) (Eq.trans (gI_a rfl) (Eq.trans (gI_w rfl) gI_s)))) ?_
    refine wp_gd i2b_idem ?_
    refine wp_zIk qf_32 ?_
    refine wp_ret_bd ?_
    refine wp_ret_bd ?_
    refine wp_gd (Eq.trans (gK_w rfl) gK_n) ?_
    refine wp_zR ?_
    refine wp_of (f2_J0_init_db425_97.eq_1 ..) ?_
    refine wp_ret_bd ?_
    refine wp_ret_bd ?_
    refine wp_ret_bd ?_
    refine wp_gd (Eq.trans (gK_w rfl) (Eq.trans (gK_w rfl) (Eq.trans (gK_w rfl) (Eq.trans (gK_w rfl) ql_K_149)))) ?_
    refine wp_zR ?_
    refine wp_lt gR_s ?_
    refine wp_gd (Or.inl ⟨qf_330, (Eq.trans (gK_w rfl) gK_n)⟩) ?_
    refine wp_bd ?_
    refine wp_of (f2_J0_length_8abf5.eq_1 ..) ?_
    refine wp_gd (Or.inl ⟨qf_330, (Eq.trans (gK_w rfl) gK_n)⟩) ?_
    refine wp_lt (ifL qf_330 (Eq.trans (gR_a rfl) gR_s)) ?_
    refine wp_gd (Or.inl ⟨qf_348, gK_n⟩) ?_
    refine wp_lt (zbo (zbL qf_348 gZ_n) qf_356) ?_
    refine wp_gd (Or.inl ⟨qf_330, (Eq.trans (gK_w rfl) gK_n)⟩) ?_
    refine wp_bd ?_
    refine wp_of (f2_J0_coder_7d493.eq_1 ..) ?_
    refine wp_ifn qf_19 ?_
    refine wp_gd (Or.inl ⟨qf_330, (Eq.trans (gK_w rfl) gK_n)⟩) ?_
    refine wp_lt (ifL qf_330 (Eq.trans (gI_a rfl) (Eq.trans (gI_w rfl) gI_s))) ?_
    refine wp_of (f2_J0_coder_7d493_14.eq_1 ..) ?_
    refine wp_gd qf_138 ?_
    refine wp_ret_bd ?_
    refine wp_lt qf_357 ?_
    refine wp_ret_bd ?_
    refine wp_ret_bd ?_
    refine wp_gd (Eq.trans (gK_w rfl) (Eq.trans (gK_w rfl) (Eq.trans (gK_w rfl) (Eq.trans (gK_w rfl) ql_K_149)))) ?_
    refine wp_bd ?_
    refine wp_of (f_X13_thrown.eq_1 ..) ?_
    refine wp_gd (Eq.trans (gK_w rfl) (Eq.trans (gK_w rfl) (Eq.trans (gK_w rfl) (Eq.trans (gK_w rfl) ql_K_149)))) ?_
    refine wp_lt (Eq.trans (gI_a rfl) (Eq.trans (gI_w rfl) (Eq.trans (gI_a rfl) (Eq.trans (gI_w rfl) (Eq.trans (gI_a rfl) (Eq.trans (gI_a rfl) (Eq.trans (gI_a rfl) (Eq.trans (gI_a rfl) (Eq.trans (gI_w rfl) (Eq.trans (gI_w rfl) gI_s)))))))))) ?_
    refine wp_ret_bd ?_
    refine wp_ifp qf_15 ?_
    refine wp_ifp qf_15 ?_
    refine wp_gd (Eq.trans (gK_w rfl) (Eq.trans (gK_w rfl) (Eq.trans (gK_w rfl) (Eq.trans (gK_w rfl) ql_K_173)))) ?_
    refine wp_gd (gZi (Eq.trans (gZ_w rfl) (Eq.trans (gZ_w rfl) (Eq.trans (gZ_w rfl) (Eq.trans (gZ_w rfl) ql_Z_173)))) qf_71) ?_
    refine wp_lt (gLk qf_32 (Eq.trans (gL_w rfl) (Eq.trans (gL_w rfl) (Eq.trans (gL_w rfl) (Eq.trans (gL_w rfl) gL_s))))) ?_
    refine wp_lt qf_192 ?_
    refine wp_lt qf_195 ?_
    refine wp_ifp qf_15 ?_
    refine wp_of (f_L_law_3152.eq_1 ..) ?_
    refine wp_of (f_L_law_3632.eq_1 ..) ?_
    refine wp_lt qf_21 ?_
    exact hrc _
set_option maxRecDepth 100000 in
set_option maxHeartbeats 4000000 in
theorem cs_46 {xs : Nat → Int32} {rc : mS → Nat → Nat → Nat → Nat → Int32 → Option (Rs Int32)} {Q : Rs Int32 → Prop} (hrc : ∀ S, WP Q (rc S 1 149 173 174 8)) : WP Q (f_L_law_3155 8 xs rc (M3I, M3L, M3R, M3D, M3K, M3Z, 174) 1 149 173 174 0) := by
  refine wp_of (f_L_law_3155.eq_1 ..) ?_
  refine wp_gd ql_K_1 ?_
  refine wp_bd ?_
  refine wp_of (f_X10_wipe.eq_1 ..) ?_
  refine wp_gd ql_K_1 ?_
  refine wp_lt ql_R_1_3 ?_
  refine wp_gd ql_K_109 ?_
  refine wp_bd ?_
  refine wp_of (f_X7_empty.eq_1 ..) ?_
  refine wp_gd ql_K_109 ?_
  refine wp_lt ql_I_109_4 ?_
  refine wp_zI ?_
  refine wp_ret_bd ?_
  refine wp_ret_bd ?_
  refine wp_gd ql_K_149 ?_
  refine wp_bd ?_
  refine wp_of (f2_X13_wipe.eq_1 ..) ?_
  refine wp_gd ql_K_149 ?_
  refine wp_zI ?_
  refine wp_lt ql_R_149_20 ?_
  refine wp_gd (Or.inr qf_307) ?_
  refine wp_bd ?_
  refine wp_of (f2_J0_length_8abf5.eq_1 ..) ?_
  refine wp_gd (Or.inr qf_307) ?_
  refine wp_lt (ifR qf_308 qf_309) ?_
  refine wp_gd (Or.inr qf_310) ?_
  refine wp_lt (zbo (zbK qf_311 qf_312) qf_313) ?_
  refine wp_gd (Or.inr qf_307) ?_
  refine wp_bd ?_
  refine wp_of (f2_J0_coder_7d493.eq_1 ..) ?_
  refine wp_ifn qf_19 ?_
  refine wp_gd (Or.inr qf_307) ?_
  refine wp_lt (ifR qf_308 rfl) ?_
  refine wp_of (f2_J0_coder_7d493_14.eq_1 ..) ?_
  refine wp_gd qf_138 ?_
  refine wp_ret_bd ?_
  refine wp_lt qf_314 ?_
  refine wp_ret_bd ?_
  refine wp_gd ql_K_149 ?_
  refine wp_zR ?_
  refine wp_ret_bd ?_
  refine wp_ifp qf_15 ?_
  refine wp_of (f_L_law_3632.eq_1 ..) ?_
  refine wp_lt qf_21 ?_
  exact hrc _
set_option maxRecDepth 100000 in
set_option maxHeartbeats 4000000 in
theorem cs_47 {xs : Nat → Int32} {rc : mS → Nat → Nat → Nat → Nat → Int32 → Option (Rs Int32)} {Q : Rs Int32 → Prop} (hrc : ∀ S, WP Q (rc S 1 149 173 174 8)) : WP Q (f_L_law_3168 8 xs rc (M3I, M3L, M3R, M3D, M3K, M3Z, 174) 1 149 173 174 0) := by
  refine wp_of (f_L_law_3168.eq_1 ..) ?_
  refine wp_bd ?_
  refine wp_of (f_L_perform.eq_1 ..) ?_
  refine wp_gd ql_K_1 ?_
  refine wp_bdc ?_
  refine wp_of (f_X10_perform.eq_1 ..) ?_
  refine wp_gd ql_K_1 ?_
  refine wp_lt ql_R_1_3 ?_
  refine wp_gd ql_K_109 ?_
  refine wp_bd ?_
  refine wp_of (f_X7_isReadable.eq_1 ..) ?_
  refine wp_gd ql_K_109 ?_
  refine wp_bd ?_
  refine wp_of (f_X7_firstFault.eq_1 ..) ?_
  refine wp_of (f_X7_firstFault_4.eq_2 ..) ?_
  refine wp_gd ql_K_109 ?_
  refine wp_lt ql_I_109_4 ?_
  refine wp_ifp qf_73 ?_
  refine wp_of (f_X7_firstFault_138.eq_1 ..) ?_
  refine wp_gd ql_K_109 ?_
  refine wp_lt ql_I_109_4 ?_
  refine wp_ifp qf_15 ?_
  refine wp_of (f_X7_firstFault_150.eq_1 ..) ?_
  refine wp_ret_bd ?_
  refine wp_ifn qf_246 ?_
  refine wp_gd ql_K_109 ?_
  refine wp_zI ?_
  refine wp_bd ?_
  refine wp_of (f_X7_addCause.eq_1 ..) ?_
  refine wp_gd ql_K_109 ?_
  refine wp_lt gI_s ?_
  refine wp_ifn qf_28 ?_
  refine wp_lt gI_s ?_
  refine wp_lt ql_R_109_1 ?_
  refine wp_gd ql_K_111 ?_
  refine wp_lt (gZo ql_Z_111 qf_350) ?_
  refine wp_ifn qf_110 ?_
  refine wp_lt gI_s ?_
  refine wp_lt ql_R_109_2 ?_
  refine wp_gd ql_K_112 ?_
  refine wp_lt (gZo ql_Z_112 qf_350) ?_
  refine wp_ifn qf_110 ?_
  refine wp_lt ql_R_109_1 ?_
  refine wp_lt gI_s ?_
  refine wp_gd ql_K_111 ?_
  refine wp_gd (gZi ql_Z_111 qf_358) ?_
  refine wp_gd qf_359 ?_
  refine wp_zIk qf_32 ?_
  refine wp_lt ql_R_109_2 ?_
  refine wp_lt (Eq.trans (gI_a rfl) gI_s) ?_
  refine wp_gd ql_K_112 ?_
  refine wp_gd (gZi ql_Z_112 qf_358) ?_
  refine wp_zIk qf_32 ?_
  refine wp_lt (Eq.trans (gI_a rfl) (Eq.trans (gI_a rfl) gI_s)) ?_
  refine wp_lt qf_27 ?_
  refine wp_zI ?_
  refine wp_of (f_X7_addCause_61.eq_1 ..) ?_
  refine wp_ret_bd ?_
  refine wp_ret_bd ?_
  refine wp_ifp qf_15 ?_
  refine wp_rs_bdc ?_
  refine wp_ifp qf_16 ?_
  refine wp_ret_bd ?_
  refine wp_gd ql_K_149 ?_
  refine wp_bd ?_
  refine wp_of (f2_X13_perform.eq_1 ..) ?_
  refine wp_gd ql_K_149 ?_
  refine wp_bd ?_
  refine wp_of (f2_X13_badSign.eq_1 ..) ?_
  refine wp_gd ql_K_149 ?_
  refine wp_lt ql_R_149_20 ?_
  refine wp_gd (Or.inr qf_307) ?_
  refine wp_bd ?_
  refine wp_of (f2_J0_isEmpty_aae02.eq_1 ..) ?_
  refine wp_gd (Or.inr qf_307) ?_
  refine wp_lt (ifR qf_308 qf_309) ?_
  refine wp_gd (Or.inr qf_310) ?_
  refine wp_lt (zbo (zbK qf_311 qf_312) qf_313) ?_
  refine wp_ifp qf_15 ?_
  refine wp_of (f2_J0_isEmpty_aae02_13.eq_1 ..) ?_
  refine wp_gd qf_18 ?_
  refine wp_ret_bd ?_
  refine wp_ifn qf_19 ?_
  refine wp_ret_bd ?_
  refine wp_ifn qf_246 ?_
  refine wp_of (f2_X13_perform_16.eq_1 ..) ?_
  refine wp_gd ql_K_149 ?_
  refine wp_bd ?_
  refine wp_of (f_X13_isWrong.eq_1 ..) ?_
  refine wp_gd ql_K_149 ?_
  refine wp_zI ?_
  refine wp_ifn qf_17 ?_
  refine wp_of (f_X13_isWrong_14.eq_1 ..) ?_
  refine wp_gd qf_18 ?_
  refine wp_ret_bd ?_
  refine wp_ifn qf_19 ?_
  refine wp_gd ql_K_149 ?_
  refine wp_bd ?_
  refine wp_of (f_X13_refuses.eq_1 ..) ?_
  refine wp_gd ql_K_149 ?_
  refine wp_lt ql_R_149_7 ?_
  refine wp_gd ql_K_172 ?_
  refine wp_gd (gZi ql_Z_172 qf_358) ?_
  refine wp_gd qf_359 ?_
  refine wp_zIk qf_32 ?_
  refine wp_lt ql_R_149_6 ?_
  refine wp_gd ql_K_171 ?_
  refine wp_gd (gZi ql_Z_171 qf_358) ?_
  refine wp_zIk qf_32 ?_
  refine wp_lt ql_R_149_7 ?_
  refine wp_gd ql_K_172 ?_
  refine wp_gd (gZi ql_Z_172 qf_347) ?_
  refine wp_gd qf_360 ?_
  refine wp_zIk qf_36 ?_
  refine wp_lt ql_R_149_6 ?_
  refine wp_gd ql_K_171 ?_
  refine wp_gd (gZi ql_Z_171 qf_347) ?_
  refine wp_zIk qf_36 ?_
  refine wp_ifp qf_361 ?_
  refine wp_of (f_X13_refuses_41.eq_1 ..) ?_
  refine wp_gd ql_K_149 ?_
  refine wp_zI ?_
  refine wp_ret_bd ?_
  refine wp_ret_bd ?_
  refine wp_gd ql_K_149 ?_
  refine wp_bd ?_
  refine wp_of (f_X13_thrown.eq_1 ..) ?_
  refine wp_gd ql_K_149 ?_
  refine wp_lt (Eq.trans (gI_b rfl) (Eq.trans (gI_a rfl) (Eq.trans (gI_a rfl) (Eq.trans (gI_a rfl) (Eq.trans (gI_a rfl) gI_s))))) ?_
  refine wp_ret_bd ?_
  refine wp_ifp qf_20 ?_
  refine wp_ifn qf_19 ?_
  refine wp_of (f_L_law_3209.eq_1 ..) ?_
  refine wp_of (f_L_law_3632.eq_1 ..) ?_
  refine wp_lt qf_21 ?_
  exact hrc _
set_option maxRecDepth 100000 in
set_option maxHeartbeats 4000000 in
theorem cs_48 {xs : Nat → Int32} {rc : mS → Nat → Nat → Nat → Nat → Int32 → Option (Rs Int32)} {Q : Rs Int32 → Prop} (hrc : ∀ S, WP Q (rc S 1 149 173 174 8)) : WP Q (f_L_law_3212 8 xs rc (M3I, M3L, M3R, M3D, M3K, M3Z, 174) 1 149 173 174 0) := by
  obtain ⟨y1, hy1⟩ : ∃ y, xs 1 = y := ⟨_, rfl⟩
  refine wp_of (f_L_law_3212.eq_1 ..) ?_
  refine wp_gd qf_0 ?_
  refine wp_lt (xsk qf_1 hy1) ?_
  refine wp_bd ?_
  refine wp_of (f_L_cause.eq_1 ..) ?_
  refine wp_gd ql_K_1 ?_
  refine wp_bdc ?_
  refine wp_of (f_X10_cause.eq_1 ..) ?_
  refine wp_gd ql_K_1 ?_
  refine wp_bd ?_
  refine wp_of (f_X10_demandCause.eq_1 ..) ?_
  refine wp_if (fun c1 => ?_) (fun c1 => ?_)
  · skip
    refine wp_of (f_X10_demandCause_15.eq_1 ..) ?_
    refine wp_rs_bd ?_
    refine wp_rs_bdc ?_
    refine wp_ifp qf_120 ?_
    refine wp_ret_bd ?_
    refine wp_gd qf_0 ?_
    refine wp_lt (xsk qf_1 hy1) ?_
    refine wp_gd ql_K_149 ?_
    refine wp_bd ?_
    refine wp_of (f_X13_cause.eq_1 ..) ?_
    refine wp_gd ql_K_149 ?_
    refine wp_lt ql_I_149_17 ?_
    refine wp_lt qf_89 ?_
    refine wp_bd ?_
    refine wp_of (f_X13_isBetween.eq_1 ..) ?_
    refine wp_ifp c1 ?_
    refine wp_of (f_X13_isBetween_14.eq_1 ..) ?_
    refine wp_of (f_X13_isBetween_15.eq_1 ..) ?_
    refine wp_gd qf_14 ?_
    refine wp_ret_bd ?_
    refine wp_ifp qf_15 ?_
    refine wp_of (f_X13_cause_20.eq_1 ..) ?_
    refine wp_gd ql_K_149 ?_
    refine wp_bd ?_
    refine wp_of (f_X13_isWrong.eq_1 ..) ?_
    refine wp_gd ql_K_149 ?_
    refine wp_zI ?_
    refine wp_ifn qf_17 ?_
    refine wp_of (f_X13_isWrong_14.eq_1 ..) ?_
    refine wp_gd qf_18 ?_
    refine wp_ret_bd ?_
    refine wp_ifn qf_19 ?_
    refine wp_of (f_X13_cause_36.eq_1 ..) ?_
    refine wp_gd qf_362 ?_
    refine wp_ret_bd ?_
    refine wp_gd ql_K_149 ?_
    refine wp_bd ?_
    refine wp_of (f_X13_thrown.eq_1 ..) ?_
    refine wp_gd ql_K_149 ?_
    refine wp_lt gI_s ?_
    refine wp_ret_bd ?_
    refine wp_ifp qf_20 ?_
    refine wp_ifn qf_19 ?_
    refine wp_of (f_L_law_3265.eq_1 ..) ?_
    refine wp_of (f_L_law_3632.eq_1 ..) ?_
    refine wp_lt qf_21 ?_
    exact hrc _
  · skip
    refine wp_gd ql_K_1 ?_
    refine wp_lt ql_R_1_3 ?_
    refine wp_gd ql_K_109 ?_
    refine wp_lt ql_I_109_5 ?_
    refine wp_ifn c1 ?_
    refine wp_of (f_X10_demandCause_15.eq_1 ..) ?_
    refine wp_rs_bd ?_
    refine wp_rs_bdc ?_
    refine wp_ifp qf_120 ?_
    refine wp_ret_bd ?_
    refine wp_gd qf_0 ?_
    refine wp_lt (xsk qf_1 hy1) ?_
    refine wp_gd ql_K_149 ?_
    refine wp_bd ?_
    refine wp_of (f_X13_cause.eq_1 ..) ?_
    refine wp_gd ql_K_149 ?_
    refine wp_lt ql_I_149_17 ?_
    refine wp_lt qf_89 ?_
    refine wp_bd ?_
    refine wp_of (f_X13_isBetween.eq_1 ..) ?_
    refine wp_ifn c1 ?_
    refine wp_ifp (show ((-1 : Int32) < y1) from by have e0 := qf_91; have e1 := qf_90; simp only [Int32.lt_iff_toInt_lt, Int32.le_iff_toInt_le, ← Int32.toInt_inj] at c1 ⊢; omega) ?_
    refine wp_of (f_X13_isBetween_14.eq_1 ..) ?_
    refine wp_of (f_X13_isBetween_15.eq_1 ..) ?_
    refine wp_gd qf_14 ?_
    refine wp_ret_bd ?_
    refine wp_ifp qf_15 ?_
    refine wp_of (f_X13_cause_20.eq_1 ..) ?_
    refine wp_gd ql_K_149 ?_
    refine wp_bd ?_
    refine wp_of (f_X13_isWrong.eq_1 ..) ?_
    refine wp_gd ql_K_149 ?_
    refine wp_zI ?_
    refine wp_ifn qf_17 ?_
    refine wp_of (f_X13_isWrong_14.eq_1 ..) ?_
    refine wp_gd qf_18 ?_
    refine wp_ret_bd ?_
    refine wp_ifn qf_19 ?_
    refine wp_of (f_X13_cause_36.eq_1 ..) ?_
    refine wp_gd qf_362 ?_
    refine wp_ret_bd ?_
    refine wp_gd ql_K_149 ?_
    refine wp_bd ?_
    refine wp_of (f_X13_thrown.eq_1 ..) ?_
    refine wp_gd ql_K_149 ?_
    refine wp_lt gI_s ?_
    refine wp_ret_bd ?_
    refine wp_ifp qf_20 ?_
    refine wp_ifn qf_19 ?_
    refine wp_of (f_L_law_3265.eq_1 ..) ?_
    refine wp_of (f_L_law_3632.eq_1 ..) ?_
    refine wp_lt qf_21 ?_
    exact hrc _
set_option maxRecDepth 100000 in
set_option maxHeartbeats 4000000 in
theorem cs_49 {xs : Nat → Int32} {rc : mS → Nat → Nat → Nat → Nat → Int32 → Option (Rs Int32)} {Q : Rs Int32 → Prop} (hrc : ∀ S, WP Q (rc S 1 149 173 174 8)) : WP Q (f_L_law_3268 8 xs rc (M3I, M3L, M3R, M3D, M3K, M3Z, 174) 1 149 173 174 0) := by
  obtain ⟨y1, hy1⟩ : ∃ y, xs 1 = y := ⟨_, rfl⟩
  refine wp_of (f_L_law_3268.eq_1 ..) ?_
  refine wp_gd qf_0 ?_
  refine wp_lt (xsk qf_1 hy1) ?_
  refine wp_bd ?_
  refine wp_of (f_L_causeNumber.eq_1 ..) ?_
  refine wp_gd ql_K_1 ?_
  refine wp_bdc ?_
  refine wp_of (f_X10_causeNumber.eq_1 ..) ?_
  refine wp_gd ql_K_1 ?_
  refine wp_bd ?_
  refine wp_of (f_X10_demandCause.eq_1 ..) ?_
  refine wp_if (fun c1 => ?_) (fun c1 => ?_)
  · skip
    refine wp_of (f_X10_demandCause_15.eq_1 ..) ?_
    refine wp_rs_bd ?_
    refine wp_rs_bdc ?_
    refine wp_ifp qf_120 ?_
    refine wp_ret_bd ?_
    refine wp_gd qf_0 ?_
    refine wp_lt (xsk qf_1 hy1) ?_
    refine wp_gd ql_K_149 ?_
    refine wp_bd ?_
    refine wp_of (f_X13_causeNumber.eq_1 ..) ?_
    refine wp_gd ql_K_149 ?_
    refine wp_lt ql_I_149_17 ?_
    refine wp_lt qf_89 ?_
    refine wp_bd ?_
    refine wp_of (f_X13_isBetween.eq_1 ..) ?_
    refine wp_ifp c1 ?_
    refine wp_of (f_X13_isBetween_14.eq_1 ..) ?_
    refine wp_of (f_X13_isBetween_15.eq_1 ..) ?_
    refine wp_gd qf_14 ?_
    refine wp_ret_bd ?_
    refine wp_ifp qf_15 ?_
    refine wp_of (f_X13_causeNumber_20.eq_1 ..) ?_
    refine wp_gd ql_K_149 ?_
    refine wp_bd ?_
    refine wp_of (f_X13_isWrong.eq_1 ..) ?_
    refine wp_gd ql_K_149 ?_
    refine wp_zI ?_
    refine wp_ifn qf_17 ?_
    refine wp_of (f_X13_isWrong_14.eq_1 ..) ?_
    refine wp_gd qf_18 ?_
    refine wp_ret_bd ?_
    refine wp_ifn qf_19 ?_
    refine wp_of (f_X13_causeNumber_36.eq_1 ..) ?_
    refine wp_ret_bd ?_
    refine wp_gd ql_K_149 ?_
    refine wp_bd ?_
    refine wp_of (f_X13_thrown.eq_1 ..) ?_
    refine wp_gd ql_K_149 ?_
    refine wp_lt gI_s ?_
    refine wp_ret_bd ?_
    refine wp_ifp qf_20 ?_
    refine wp_ifn qf_19 ?_
    refine wp_of (f_L_law_3321.eq_1 ..) ?_
    refine wp_of (f_L_law_3632.eq_1 ..) ?_
    refine wp_lt qf_21 ?_
    exact hrc _
  · skip
    refine wp_gd ql_K_1 ?_
    refine wp_lt ql_R_1_3 ?_
    refine wp_gd ql_K_109 ?_
    refine wp_lt ql_I_109_5 ?_
    refine wp_ifn c1 ?_
    refine wp_of (f_X10_demandCause_15.eq_1 ..) ?_
    refine wp_rs_bd ?_
    refine wp_rs_bdc ?_
    refine wp_ifp qf_120 ?_
    refine wp_ret_bd ?_
    refine wp_gd qf_0 ?_
    refine wp_lt (xsk qf_1 hy1) ?_
    refine wp_gd ql_K_149 ?_
    refine wp_bd ?_
    refine wp_of (f_X13_causeNumber.eq_1 ..) ?_
    refine wp_gd ql_K_149 ?_
    refine wp_lt ql_I_149_17 ?_
    refine wp_lt qf_89 ?_
    refine wp_bd ?_
    refine wp_of (f_X13_isBetween.eq_1 ..) ?_
    refine wp_ifn c1 ?_
    refine wp_ifp (show ((-1 : Int32) < y1) from by have e0 := qf_91; have e1 := qf_90; simp only [Int32.lt_iff_toInt_lt, Int32.le_iff_toInt_le, ← Int32.toInt_inj] at c1 ⊢; omega) ?_
    refine wp_of (f_X13_isBetween_14.eq_1 ..) ?_
    refine wp_of (f_X13_isBetween_15.eq_1 ..) ?_
    refine wp_gd qf_14 ?_
    refine wp_ret_bd ?_
    refine wp_ifp qf_15 ?_
    refine wp_of (f_X13_causeNumber_20.eq_1 ..) ?_
    refine wp_gd ql_K_149 ?_
    refine wp_bd ?_
    refine wp_of (f_X13_isWrong.eq_1 ..) ?_
    refine wp_gd ql_K_149 ?_
    refine wp_zI ?_
    refine wp_ifn qf_17 ?_
    refine wp_of (f_X13_isWrong_14.eq_1 ..) ?_
    refine wp_gd qf_18 ?_
    refine wp_ret_bd ?_
    refine wp_ifn qf_19 ?_
    refine wp_of (f_X13_causeNumber_36.eq_1 ..) ?_
    refine wp_ret_bd ?_
    refine wp_gd ql_K_149 ?_
    refine wp_bd ?_
    refine wp_of (f_X13_thrown.eq_1 ..) ?_
    refine wp_gd ql_K_149 ?_
    refine wp_lt gI_s ?_
    refine wp_ret_bd ?_
    refine wp_ifp qf_20 ?_
    refine wp_ifn qf_19 ?_
    refine wp_of (f_L_law_3321.eq_1 ..) ?_
    refine wp_of (f_L_law_3632.eq_1 ..) ?_
    refine wp_lt qf_21 ?_
    exact hrc _
set_option maxRecDepth 100000 in
set_option maxHeartbeats 4000000 in
theorem cs_50 {xs : Nat → Int32} {rc : mS → Nat → Nat → Nat → Nat → Int32 → Option (Rs Int32)} {Q : Rs Int32 → Prop} (hrc : ∀ S, WP Q (rc S 1 149 173 174 8)) : WP Q (f_L_law_3324 8 xs rc (M3I, M3L, M3R, M3D, M3K, M3Z, 174) 1 149 173 174 0) := by
  obtain ⟨y1, hy1⟩ : ∃ y, xs 1 = y := ⟨_, rfl⟩
  obtain ⟨y2, hy2⟩ : ∃ y, xs 2 = y := ⟨_, rfl⟩
  refine wp_of (f_L_law_3324.eq_1 ..) ?_
  refine wp_gd qf_0 ?_
  refine wp_lt (xsk qf_1 hy1) ?_
  refine wp_gd qf_2 ?_
  refine wp_lt (xsk qf_3 hy2) ?_
  refine wp_bd ?_
  refine wp_of (f_L_skip.eq_1 ..) ?_
  refine wp_gd ql_K_1 ?_
  refine wp_bdc ?_
  refine wp_of (f_X10_skip.eq_1 ..) ?_
  refine wp_gd ql_K_1 ?_
  refine wp_bd ?_
  refine wp_of (f_X10_deckOf.eq_1 ..) ?_
  refine wp_gd ql_K_1 ?_
  refine wp_lt ql_R_1_0 ?_
  refine wp_gd ql_K_2 ?_
  refine wp_bd ?_
  refine wp_of (f_X8_deckAt.eq_1 ..) ?_
  refine wp_if (fun c1 => ?_) (fun c1 => ?_)
  · skip
    refine wp_of (f_X8_deckAt_22.eq_1 ..) ?_
    refine wp_of (f_X8_deckAt_23.eq_1 ..) ?_
    refine wp_ret_bd ?_
    refine wp_ifp qf_87 ?_
    refine wp_rs_bd ?_
    refine wp_rs_bdc ?_
    refine wp_ifp qf_88 ?_
    refine wp_ret_bd ?_
    refine wp_gd qf_0 ?_
    refine wp_lt (xsk qf_1 hy1) ?_
    refine wp_gd qf_2 ?_
    refine wp_lt (xsk qf_3 hy2) ?_
    refine wp_gd ql_K_149 ?_
    refine wp_bd ?_
    refine wp_of (f_X13_skip.eq_1 ..) ?_
    refine wp_bd ?_
    refine wp_of (f_X13_isDeck.eq_1 ..) ?_
    refine wp_bd ?_
    refine wp_of (f_X13_isBetween.eq_1 ..) ?_
    refine wp_ifp c1 ?_
    refine wp_of (f_X13_isBetween_14.eq_1 ..) ?_
    refine wp_of (f_X13_isBetween_15.eq_1 ..) ?_
    refine wp_gd qf_14 ?_
    refine wp_ret_bd ?_
    refine wp_gd qf_14 ?_
    refine wp_ret_bd ?_
    refine wp_ifp qf_15 ?_
    refine wp_of (f_X13_skip_39.eq_1 ..) ?_
    refine wp_gd ql_K_149 ?_
    refine wp_bd ?_
    refine wp_of (f_X13_isWrong.eq_1 ..) ?_
    refine wp_gd ql_K_149 ?_
    refine wp_zI ?_
    refine wp_ifn qf_17 ?_
    refine wp_of (f_X13_isWrong_14.eq_1 ..) ?_
    refine wp_gd qf_18 ?_
    refine wp_ret_bd ?_
    refine wp_ifn qf_19 ?_
    refine wp_ret_bd ?_
    refine wp_gd ql_K_149 ?_
    refine wp_bd ?_
    refine wp_of (f_X13_thrown.eq_1 ..) ?_
    refine wp_gd ql_K_149 ?_
    refine wp_lt gI_s ?_
    refine wp_ret_bd ?_
    refine wp_ifp qf_20 ?_
    refine wp_ifn qf_19 ?_
    refine wp_of (f_L_law_3388.eq_1 ..) ?_
    refine wp_of (f_L_law_3632.eq_1 ..) ?_
    refine wp_lt qf_21 ?_
    exact hrc _
  · skip
    refine wp_gd ql_K_2 ?_
    refine wp_lt ql_R_2_1 ?_
    refine wp_gd ql_K_16 ?_
    refine wp_lt (gZo ql_Z_16 qf_92) ?_
    refine wp_if (fun c2 => ?_) (fun c2 => ?_)
    · skip
      refine wp_of (f_X8_deckAt_22.eq_1 ..) ?_
      refine wp_of (f_X8_deckAt_23.eq_1 ..) ?_
      refine wp_ret_bd ?_
      refine wp_ifp qf_87 ?_
      refine wp_rs_bd ?_
      refine wp_rs_bdc ?_
      refine wp_ifp qf_88 ?_
      refine wp_ret_bd ?_
      refine wp_gd qf_0 ?_
      refine wp_lt (xsk qf_1 hy1) ?_
      refine wp_gd qf_2 ?_
      refine wp_lt (xsk qf_3 hy2) ?_
      refine wp_gd ql_K_149 ?_
      refine wp_bd ?_
      refine wp_of (f_X13_skip.eq_1 ..) ?_
      refine wp_bd ?_
      refine wp_of (f_X13_isDeck.eq_1 ..) ?_
      refine wp_bd ?_
      refine wp_of (f_X13_isBetween.eq_1 ..) ?_
      refine wp_ifn c1 ?_
      refine wp_ifp (show ((3 : Int32) < y1) from by have e0 := qf_90; have e1 := qf_93; have e2 := qf_94; simp only [Int32.lt_iff_toInt_lt, Int32.le_iff_toInt_le, ← Int32.toInt_inj] at c1 c2 ⊢; omega) ?_
      refine wp_of (f_X13_isBetween_14.eq_1 ..) ?_
      refine wp_of (f_X13_isBetween_15.eq_1 ..) ?_
      refine wp_gd qf_14 ?_
      refine wp_ret_bd ?_
      refine wp_gd qf_14 ?_
      refine wp_ret_bd ?_
      refine wp_ifp qf_15 ?_
      refine wp_of (f_X13_skip_39.eq_1 ..) ?_
      refine wp_gd ql_K_149 ?_
      refine wp_bd ?_
      refine wp_of (f_X13_isWrong.eq_1 ..) ?_
      refine wp_gd ql_K_149 ?_
      refine wp_zI ?_
      refine wp_ifn qf_17 ?_
      refine wp_of (f_X13_isWrong_14.eq_1 ..) ?_
      refine wp_gd qf_18 ?_
      refine wp_ret_bd ?_
      refine wp_ifn qf_19 ?_
      refine wp_ret_bd ?_
      refine wp_gd ql_K_149 ?_
      refine wp_bd ?_
      refine wp_of (f_X13_thrown.eq_1 ..) ?_
      refine wp_gd ql_K_149 ?_
      refine wp_lt gI_s ?_
      refine wp_ret_bd ?_
      refine wp_ifp qf_20 ?_
      refine wp_ifn qf_19 ?_
      refine wp_of (f_L_law_3388.eq_1 ..) ?_
      refine wp_of (f_L_law_3632.eq_1 ..) ?_
      refine wp_lt qf_21 ?_
      exact hrc _
    · skip
      refine wp_lt ql_R_2_1 ?_
      refine wp_gd ql_K_16 ?_
      rcases (show y1 = (0 : Int32) ∨ y1 = (1 : Int32) ∨ y1 = (2 : Int32) ∨ y1 = (3 : Int32) from by have e0 := qf_90; have e1 := qf_95; have e2 := qf_96; have e3 := qf_93; have e4 := qf_94; simp only [Int32.lt_iff_toInt_lt, Int32.le_iff_toInt_le] at c1 c2; simp only [← Int32.toInt_inj]; omega) with rfl | rfl | rfl | rfl
      · skip
        refine wp_gd (gZi ql_Z_16 qf_97) ?_
        refine wp_lt (gRk qf_32 ql_R_16_0) ?_
        refine wp_of (f_X8_deckAt_23.eq_1 ..) ?_
        refine wp_ret_bd ?_
        refine wp_ifn qf_98 ?_
        refine wp_ret_bd ?_
        refine wp_bd ?_
        refine wp_of (f_X10_isIn.eq_1 ..) ?_
        refine wp_if (fun c3 => ?_) (fun c3 => ?_)
        · skip
          refine wp_of (f_X10_isIn_14.eq_1 ..) ?_
          refine wp_of (f_X10_isIn_15.eq_1 ..) ?_
          refine wp_gd qf_14 ?_
          refine wp_ret_bd ?_
          refine wp_bd ?_
          refine wp_of (f_X10_demand.eq_1 ..) ?_
          refine wp_ifp qf_15 ?_
          refine wp_rs_bd ?_
          refine wp_rs_bdc ?_
          refine wp_ifn qf_113 ?_
          refine wp_ifp qf_16 ?_
          refine wp_ret_bd ?_
          refine wp_gd qf_0 ?_
          refine wp_lt (xsk qf_1 hy1) ?_
          refine wp_gd qf_2 ?_
          refine wp_lt (xsk qf_3 hy2) ?_
          refine wp_gd ql_K_149 ?_
          refine wp_bd ?_
          refine wp_of (f_X13_skip.eq_1 ..) ?_
          refine wp_bd ?_
          refine wp_of (f_X13_isDeck.eq_1 ..) ?_
          refine wp_bd ?_
          refine wp_of (f_X13_isBetween.eq_1 ..) ?_
          refine wp_ifn qf_28 ?_
          refine wp_ifn qf_43 ?_
          refine wp_of (f_X13_isBetween_15.eq_1 ..) ?_
          refine wp_gd qf_18 ?_
          refine wp_ret_bd ?_
          refine wp_gd qf_18 ?_
          refine wp_ret_bd ?_
          refine wp_ifn qf_19 ?_
          refine wp_bd ?_
          refine wp_of (f_X13_isBetween.eq_1 ..) ?_
          refine wp_ifp c3 ?_
          refine wp_of (f_X13_isBetween_14.eq_1 ..) ?_
          refine wp_of (f_X13_isBetween_15.eq_1 ..) ?_
          refine wp_gd qf_14 ?_
          refine wp_ret_bd ?_
          refine wp_ifp qf_15 ?_
          refine wp_of (f_X13_skip_39.eq_1 ..) ?_
          refine wp_gd ql_K_149 ?_
          refine wp_bd ?_
          refine wp_of (f_X13_isWrong.eq_1 ..) ?_
          refine wp_gd ql_K_149 ?_
          refine wp_zI ?_
          refine wp_ifn qf_110 ?_
          refine wp_of (f_X13_isWrong_14.eq_1 ..) ?_
          refine wp_gd qf_18 ?_
          refine wp_ret_bd ?_
          refine wp_ifn qf_19 ?_
          refine wp_ret_bd ?_
          refine wp_gd ql_K_149 ?_
          refine wp_bd ?_
          refine wp_of (f_X13_thrown.eq_1 ..) ?_
          refine wp_gd ql_K_149 ?_
          refine wp_lt gI_s ?_
          refine wp_ret_bd ?_
          refine wp_ifp qf_111 ?_
          refine wp_ifn qf_112 ?_
          refine wp_of (f_L_law_3388.eq_1 ..) ?_
          refine wp_of (f_L_law_3632.eq_1 ..) ?_
          refine wp_lt qf_21 ?_
          exact hrc _
        · skip
          refine wp_if (fun c4 => ?_) (fun c4 => ?_)
          · skip
            refine wp_of (f_X10_isIn_14.eq_1 ..) ?_
            refine wp_of (f_X10_isIn_15.eq_1 ..) ?_
            refine wp_gd qf_14 ?_
            refine wp_ret_bd ?_
            refine wp_bd ?_
            refine wp_of (f_X10_demand.eq_1 ..) ?_
            refine wp_ifp qf_15 ?_
            refine wp_rs_bd ?_
            refine wp_rs_bdc ?_
            refine wp_ifn qf_113 ?_
            refine wp_ifp qf_16 ?_
            refine wp_ret_bd ?_
            refine wp_gd qf_0 ?_
            refine wp_lt (xsk qf_1 hy1) ?_
            refine wp_gd qf_2 ?_
            refine wp_lt (xsk qf_3 hy2) ?_
            refine wp_gd ql_K_149 ?_
            refine wp_bd ?_
            refine wp_of (f_X13_skip.eq_1 ..) ?_
            refine wp_bd ?_
            refine wp_of (f_X13_isDeck.eq_1 ..) ?_
            refine wp_bd ?_
            refine wp_of (f_X13_isBetween.eq_1 ..) ?_
            refine wp_ifn qf_28 ?_
            refine wp_ifn qf_43 ?_
            refine wp_of (f_X13_isBetween_15.eq_1 ..) ?_
            refine wp_gd qf_18 ?_
            refine wp_ret_bd ?_
            refine wp_gd qf_18 ?_
            refine wp_ret_bd ?_
            refine wp_ifn qf_19 ?_
            refine wp_bd ?_
            refine wp_of (f_X13_isBetween.eq_1 ..) ?_
            refine wp_ifn c3 ?_
            refine wp_ifp c4 ?_
            refine wp_of (f_X13_isBetween_14.eq_1 ..) ?_
            refine wp_of (f_X13_isBetween_15.eq_1 ..) ?_
            refine wp_gd qf_14 ?_
            refine wp_ret_bd ?_
            refine wp_ifp qf_15 ?_
            refine wp_of (f_X13_skip_39.eq_1 ..) ?_
            refine wp_gd ql_K_149 ?_
            refine wp_bd ?_
            refine wp_of (f_X13_isWrong.eq_1 ..) ?_
            refine wp_gd ql_K_149 ?_
            refine wp_zI ?_
            refine wp_ifn qf_110 ?_
            refine wp_of (f_X13_isWrong_14.eq_1 ..) ?_
            refine wp_gd qf_18 ?_
            refine wp_ret_bd ?_
            refine wp_ifn qf_19 ?_
            refine wp_ret_bd ?_
            refine wp_gd ql_K_149 ?_
            refine wp_bd ?_
            refine wp_of (f_X13_thrown.eq_1 ..) ?_
            refine wp_gd ql_K_149 ?_
            refine wp_lt gI_s ?_
            refine wp_ret_bd ?_
            refine wp_ifp qf_111 ?_
            refine wp_ifn qf_112 ?_
            refine wp_of (f_L_law_3388.eq_1 ..) ?_
            refine wp_of (f_L_law_3632.eq_1 ..) ?_
            refine wp_lt qf_21 ?_
            exact hrc _
          · skip
            refine wp_of (f_X10_isIn_15.eq_1 ..) ?_
            refine wp_gd qf_18 ?_
            refine wp_ret_bd ?_
            refine wp_bd ?_
            refine wp_of (f_X10_demand.eq_1 ..) ?_
            refine wp_ifn qf_19 ?_
            refine wp_ret_bd ?_
            refine wp_bd ?_
            refine wp_of (f_X10_demandRecord.eq_1 ..) ?_
            refine wp_gd ql_K_17 ?_
            refine wp_lt ql_R_17_2 ?_
            refine wp_ifp qf_87 ?_
            refine wp_rs_bd ?_
            refine wp_rs_bdc ?_
            refine wp_ifn qf_108 ?_
            refine wp_ifn qf_114 ?_
            refine wp_ifp qf_109 ?_
            refine wp_ret_bd ?_
            refine wp_gd qf_0 ?_
            refine wp_lt (xsk qf_1 hy1) ?_
            refine wp_gd qf_2 ?_
            refine wp_lt (xsk qf_3 hy2) ?_
            refine wp_gd ql_K_149 ?_
            refine wp_bd ?_
            refine wp_of (f_X13_skip.eq_1 ..) ?_
            refine wp_bd ?_
            refine wp_of (f_X13_isDeck.eq_1 ..) ?_
            refine wp_bd ?_
            refine wp_of (f_X13_isBetween.eq_1 ..) ?_
            refine wp_ifn qf_28 ?_
            refine wp_ifn qf_43 ?_
            refine wp_of (f_X13_isBetween_15.eq_1 ..) ?_
            refine wp_gd qf_18 ?_
            refine wp_ret_bd ?_
            refine wp_gd qf_18 ?_
            refine wp_ret_bd ?_
            refine wp_ifn qf_19 ?_
            refine wp_bd ?_
            refine wp_of (f_X13_isBetween.eq_1 ..) ?_
            refine wp_ifn c3 ?_
            refine wp_ifn c4 ?_
            refine wp_of (f_X13_isBetween_15.eq_1 ..) ?_
            refine wp_gd qf_18 ?_
            refine wp_ret_bd ?_
            refine wp_ifn qf_19 ?_
            refine wp_gd ql_K_149 ?_
            refine wp_bd ?_
            refine wp_of (f_X13_isEmpty.eq_1 ..) ?_
            refine wp_gd ql_K_149 ?_
            refine wp_lt ql_R_149_2 ?_
            refine wp_gd ql_K_151 ?_
            refine wp_gd (gZi ql_Z_151 qf_97) ?_
            refine wp_lt (gRk qf_32 ql_R_151_0) ?_
            refine wp_gd ql_K_152 ?_
            refine wp_lt ql_R_152_0 ?_
            refine wp_ifp qf_87 ?_
            refine wp_of (f_X13_isEmpty_17.eq_1 ..) ?_
            refine wp_gd qf_18 ?_
            refine wp_ret_bd ?_
            refine wp_ifn qf_19 ?_
            refine wp_of (f_X13_skip_39.eq_1 ..) ?_
            refine wp_gd ql_K_149 ?_
            refine wp_bd ?_
            refine wp_of (f_X13_isWrong.eq_1 ..) ?_
            refine wp_gd ql_K_149 ?_
            refine wp_zI ?_
            refine wp_ifn qf_115 ?_
            refine wp_of (f_X13_isWrong_14.eq_1 ..) ?_
            refine wp_gd qf_18 ?_
            refine wp_ret_bd ?_
            refine wp_ifn qf_19 ?_
            refine wp_ret_bd ?_
            refine wp_gd ql_K_149 ?_
            refine wp_bd ?_
            refine wp_of (f_X13_thrown.eq_1 ..) ?_
            refine wp_gd ql_K_149 ?_
            refine wp_lt gI_s ?_
            refine wp_ret_bd ?_
            refine wp_ifp qf_116 ?_
            refine wp_ifn qf_117 ?_
            refine wp_of (f_L_law_3388.eq_1 ..) ?_
            refine wp_of (f_L_law_3632.eq_1 ..) ?_
            refine wp_lt qf_21 ?_
            exact hrc _
      · skip
        refine wp_gd (gZi ql_Z_16 qf_99) ?_
        refine wp_lt (gRk qf_36 ql_R_16_1) ?_
        refine wp_of (f_X8_deckAt_23.eq_1 ..) ?_
        refine wp_ret_bd ?_
        refine wp_ifn qf_100 ?_
        refine wp_ret_bd ?_
        refine wp_bd ?_
        refine wp_of (f_X10_isIn.eq_1 ..) ?_
        refine wp_if (fun c3 => ?_) (fun c3 => ?_)
        · skip
          refine wp_of (f_X10_isIn_14.eq_1 ..) ?_
          refine wp_of (f_X10_isIn_15.eq_1 ..) ?_
          refine wp_gd qf_14 ?_
          refine wp_ret_bd ?_
          refine wp_bd ?_
          refine wp_of (f_X10_demand.eq_1 ..) ?_
          refine wp_ifp qf_15 ?_
          refine wp_rs_bd ?_
          refine wp_rs_bdc ?_
          refine wp_ifn qf_113 ?_
          refine wp_ifp qf_16 ?_
          refine wp_ret_bd ?_
          refine wp_gd qf_0 ?_
          refine wp_lt (xsk qf_1 hy1) ?_
          refine wp_gd qf_2 ?_
          refine wp_lt (xsk qf_3 hy2) ?_
          refine wp_gd ql_K_149 ?_
          refine wp_bd ?_
          refine wp_of (f_X13_skip.eq_1 ..) ?_
          refine wp_bd ?_
          refine wp_of (f_X13_isDeck.eq_1 ..) ?_
          refine wp_bd ?_
          refine wp_of (f_X13_isBetween.eq_1 ..) ?_
          refine wp_ifn qf_33 ?_
          refine wp_ifn qf_101 ?_
          refine wp_of (f_X13_isBetween_15.eq_1 ..) ?_
          refine wp_gd qf_18 ?_
          refine wp_ret_bd ?_
          refine wp_gd qf_18 ?_
          refine wp_ret_bd ?_
          refine wp_ifn qf_19 ?_
          refine wp_bd ?_
          refine wp_of (f_X13_isBetween.eq_1 ..) ?_
          refine wp_ifp c3 ?_
          refine wp_of (f_X13_isBetween_14.eq_1 ..) ?_
          refine wp_of (f_X13_isBetween_15.eq_1 ..) ?_
          refine wp_gd qf_14 ?_
          refine wp_ret_bd ?_
          refine wp_ifp qf_15 ?_
          refine wp_of (f_X13_skip_39.eq_1 ..) ?_
          refine wp_gd ql_K_149 ?_
          refine wp_bd ?_
          refine wp_of (f_X13_isWrong.eq_1 ..) ?_
          refine wp_gd ql_K_149 ?_
          refine wp_zI ?_
          refine wp_ifn qf_110 ?_
          refine wp_of (f_X13_isWrong_14.eq_1 ..) ?_
          refine wp_gd qf_18 ?_
          refine wp_ret_bd ?_
          refine wp_ifn qf_19 ?_
          refine wp_ret_bd ?_
          refine wp_gd ql_K_149 ?_
          refine wp_bd ?_
          refine wp_of (f_X13_thrown.eq_1 ..) ?_
          refine wp_gd ql_K_149 ?_
          refine wp_lt gI_s ?_
          refine wp_ret_bd ?_
          refine wp_ifp qf_111 ?_
          refine wp_ifn qf_112 ?_
          refine wp_of (f_L_law_3388.eq_1 ..) ?_
          refine wp_of (f_L_law_3632.eq_1 ..) ?_
          refine wp_lt qf_21 ?_
          exact hrc _
        · skip
          refine wp_if (fun c4 => ?_) (fun c4 => ?_)
          · skip
            refine wp_of (f_X10_isIn_14.eq_1 ..) ?_
            refine wp_of (f_X10_isIn_15.eq_1 ..) ?_
            refine wp_gd qf_14 ?_
            refine wp_ret_bd ?_
            refine wp_bd ?_
            refine wp_of (f_X10_demand.eq_1 ..) ?_
            refine wp_ifp qf_15 ?_
            refine wp_rs_bd ?_
            refine wp_rs_bdc ?_
            refine wp_ifn qf_113 ?_
            refine wp_ifp qf_16 ?_
            refine wp_ret_bd ?_
            refine wp_gd qf_0 ?_
            refine wp_lt (xsk qf_1 hy1) ?_
            refine wp_gd qf_2 ?_
            refine wp_lt (xsk qf_3 hy2) ?_
            refine wp_gd ql_K_149 ?_
            refine wp_bd ?_
            refine wp_of (f_X13_skip.eq_1 ..) ?_
            refine wp_bd ?_
            refine wp_of (f_X13_isDeck.eq_1 ..) ?_
            refine wp_bd ?_
            refine wp_of (f_X13_isBetween.eq_1 ..) ?_
            refine wp_ifn qf_33 ?_
            refine wp_ifn qf_101 ?_
            refine wp_of (f_X13_isBetween_15.eq_1 ..) ?_
            refine wp_gd qf_18 ?_
            refine wp_ret_bd ?_
            refine wp_gd qf_18 ?_
            refine wp_ret_bd ?_
            refine wp_ifn qf_19 ?_
            refine wp_bd ?_
            refine wp_of (f_X13_isBetween.eq_1 ..) ?_
            refine wp_ifn c3 ?_
            refine wp_ifp c4 ?_
            refine wp_of (f_X13_isBetween_14.eq_1 ..) ?_
            refine wp_of (f_X13_isBetween_15.eq_1 ..) ?_
            refine wp_gd qf_14 ?_
            refine wp_ret_bd ?_
            refine wp_ifp qf_15 ?_
            refine wp_of (f_X13_skip_39.eq_1 ..) ?_
            refine wp_gd ql_K_149 ?_
            refine wp_bd ?_
            refine wp_of (f_X13_isWrong.eq_1 ..) ?_
            refine wp_gd ql_K_149 ?_
            refine wp_zI ?_
            refine wp_ifn qf_110 ?_
            refine wp_of (f_X13_isWrong_14.eq_1 ..) ?_
            refine wp_gd qf_18 ?_
            refine wp_ret_bd ?_
            refine wp_ifn qf_19 ?_
            refine wp_ret_bd ?_
            refine wp_gd ql_K_149 ?_
            refine wp_bd ?_
            refine wp_of (f_X13_thrown.eq_1 ..) ?_
            refine wp_gd ql_K_149 ?_
            refine wp_lt gI_s ?_
            refine wp_ret_bd ?_
            refine wp_ifp qf_111 ?_
            refine wp_ifn qf_112 ?_
            refine wp_of (f_L_law_3388.eq_1 ..) ?_
            refine wp_of (f_L_law_3632.eq_1 ..) ?_
            refine wp_lt qf_21 ?_
            exact hrc _
          · skip
            refine wp_of (f_X10_isIn_15.eq_1 ..) ?_
            refine wp_gd qf_18 ?_
            refine wp_ret_bd ?_
            refine wp_bd ?_
            refine wp_of (f_X10_demand.eq_1 ..) ?_
            refine wp_ifn qf_19 ?_
            refine wp_ret_bd ?_
            refine wp_bd ?_
            refine wp_of (f_X10_demandRecord.eq_1 ..) ?_
            refine wp_gd ql_K_25 ?_
            refine wp_lt ql_R_25_2 ?_
            refine wp_ifp qf_87 ?_
            refine wp_rs_bd ?_
            refine wp_rs_bdc ?_
            refine wp_ifn qf_108 ?_
            refine wp_ifn qf_114 ?_
            refine wp_ifp qf_109 ?_
            refine wp_ret_bd ?_
            refine wp_gd qf_0 ?_
            refine wp_lt (xsk qf_1 hy1) ?_
            refine wp_gd qf_2 ?_
            refine wp_lt (xsk qf_3 hy2) ?_
            refine wp_gd ql_K_149 ?_
            refine wp_bd ?_
            refine wp_of (f_X13_skip.eq_1 ..) ?_
            refine wp_bd ?_
            refine wp_of (f_X13_isDeck.eq_1 ..) ?_
            refine wp_bd ?_
            refine wp_of (f_X13_isBetween.eq_1 ..) ?_
            refine wp_ifn qf_33 ?_
            refine wp_ifn qf_101 ?_
            refine wp_of (f_X13_isBetween_15.eq_1 ..) ?_
            refine wp_gd qf_18 ?_
            refine wp_ret_bd ?_
            refine wp_gd qf_18 ?_
            refine wp_ret_bd ?_
            refine wp_ifn qf_19 ?_
            refine wp_bd ?_
            refine wp_of (f_X13_isBetween.eq_1 ..) ?_
            refine wp_ifn c3 ?_
            refine wp_ifn c4 ?_
            refine wp_of (f_X13_isBetween_15.eq_1 ..) ?_
            refine wp_gd qf_18 ?_
            refine wp_ret_bd ?_
            refine wp_ifn qf_19 ?_
            refine wp_gd ql_K_149 ?_
            refine wp_bd ?_
            refine wp_of (f_X13_isEmpty.eq_1 ..) ?_
            refine wp_gd ql_K_149 ?_
            refine wp_lt ql_R_149_2 ?_
            refine wp_gd ql_K_151 ?_
            refine wp_gd (gZi ql_Z_151 qf_99) ?_
            refine wp_lt (gRk qf_36 ql_R_151_1) ?_
            refine wp_gd ql_K_156 ?_
            refine wp_lt ql_R_156_0 ?_
            refine wp_ifp qf_87 ?_
            refine wp_of (f_X13_isEmpty_17.eq_1 ..) ?_
            refine wp_gd qf_18 ?_
            refine wp_ret_bd ?_
            refine wp_ifn qf_19 ?_
            refine wp_of (f_X13_skip_39.eq_1 ..) ?_
            refine wp_gd ql_K_149 ?_
            refine wp_bd ?_
            refine wp_of (f_X13_isWrong.eq_1 ..) ?_
            refine wp_gd ql_K_149 ?_
            refine wp_zI ?_
            refine wp_ifn qf_115 ?_
            refine wp_of (f_X13_isWrong_14.eq_1 ..) ?_
            refine wp_gd qf_18 ?_
            refine wp_ret_bd ?_
            refine wp_ifn qf_19 ?_
            refine wp_ret_bd ?_
            refine wp_gd ql_K_149 ?_
            refine wp_bd ?_
            refine wp_of (f_X13_thrown.eq_1 ..) ?_
            refine wp_gd ql_K_149 ?_
            refine wp_lt gI_s ?_
            refine wp_ret_bd ?_
            refine wp_ifp qf_116 ?_
            refine wp_ifn qf_117 ?_
            refine wp_of (f_L_law_3388.eq_1 ..) ?_
            refine wp_of (f_L_law_3632.eq_1 ..) ?_
            refine wp_lt qf_21 ?_
            exact hrc _
      · skip
        refine wp_gd (gZi ql_Z_16 qf_102) ?_
        refine wp_lt (gRk qf_41 ql_R_16_2) ?_
        refine wp_of (f_X8_deckAt_23.eq_1 ..) ?_
        refine wp_ret_bd ?_
        refine wp_ifn qf_103 ?_
        refine wp_ret_bd ?_
        refine wp_bd ?_
        refine wp_of (f_X10_isIn.eq_1 ..) ?_
        refine wp_if (fun c3 => ?_) (fun c3 => ?_)
        · skip
          refine wp_of (f_X10_isIn_14.eq_1 ..) ?_
          refine wp_of (f_X10_isIn_15.eq_1 ..) ?_
          refine wp_gd qf_14 ?_
          refine wp_ret_bd ?_
          refine wp_bd ?_
          refine wp_of (f_X10_demand.eq_1 ..) ?_
          refine wp_ifp qf_15 ?_
          refine wp_rs_bd ?_
          refine wp_rs_bdc ?_
          refine wp_ifn qf_113 ?_
          refine wp_ifp qf_16 ?_
          refine wp_ret_bd ?_
          refine wp_gd qf_0 ?_
          refine wp_lt (xsk qf_1 hy1) ?_
          refine wp_gd qf_2 ?_
          refine wp_lt (xsk qf_3 hy2) ?_
          refine wp_gd ql_K_149 ?_
          refine wp_bd ?_
          refine wp_of (f_X13_skip.eq_1 ..) ?_
          refine wp_bd ?_
          refine wp_of (f_X13_isDeck.eq_1 ..) ?_
          refine wp_bd ?_
          refine wp_of (f_X13_isBetween.eq_1 ..) ?_
          refine wp_ifn qf_38 ?_
          refine wp_ifn qf_104 ?_
          refine wp_of (f_X13_isBetween_15.eq_1 ..) ?_
          refine wp_gd qf_18 ?_
          refine wp_ret_bd ?_
          refine wp_gd qf_18 ?_
          refine wp_ret_bd ?_
          refine wp_ifn qf_19 ?_
          refine wp_bd ?_
          refine wp_of (f_X13_isBetween.eq_1 ..) ?_
          refine wp_ifp c3 ?_
          refine wp_of (f_X13_isBetween_14.eq_1 ..) ?_
          refine wp_of (f_X13_isBetween_15.eq_1 ..) ?_
          refine wp_gd qf_14 ?_
          refine wp_ret_bd ?_
          refine wp_ifp qf_15 ?_
          refine wp_of (f_X13_skip_39.eq_1 ..) ?_
          refine wp_gd ql_K_149 ?_
          refine wp_bd ?_
          refine wp_of (f_X13_isWrong.eq_1 ..) ?_
          refine wp_gd ql_K_149 ?_
          refine wp_zI ?_
          refine wp_ifn qf_110 ?_
          refine wp_of (f_X13_isWrong_14.eq_1 ..) ?_
          refine wp_gd qf_18 ?_
          refine wp_ret_bd ?_
          refine wp_ifn qf_19 ?_
          refine wp_ret_bd ?_
          refine wp_gd ql_K_149 ?_
          refine wp_bd ?_
          refine wp_of (f_X13_thrown.eq_1 ..) ?_
          refine wp_gd ql_K_149 ?_
          refine wp_lt gI_s ?_
          refine wp_ret_bd ?_
          refine wp_ifp qf_111 ?_
          refine wp_ifn qf_112 ?_
          refine wp_of (f_L_law_3388.eq_1 ..) ?_
          refine wp_of (f_L_law_3632.eq_1 ..) ?_
          refine wp_lt qf_21 ?_
          exact hrc _
        · skip
          refine wp_if (fun c4 => ?_) (fun c4 => ?_)
          · skip
            refine wp_of (f_X10_isIn_14.eq_1 ..) ?_
            refine wp_of (f_X10_isIn_15.eq_1 ..) ?_
            refine wp_gd qf_14 ?_
            refine wp_ret_bd ?_
            refine wp_bd ?_
            refine wp_of (f_X10_demand.eq_1 ..) ?_
            refine wp_ifp qf_15 ?_
            refine wp_rs_bd ?_
            refine wp_rs_bdc ?_
            refine wp_ifn qf_113 ?_
            refine wp_ifp qf_16 ?_
            refine wp_ret_bd ?_
            refine wp_gd qf_0 ?_
            refine wp_lt (xsk qf_1 hy1) ?_
            refine wp_gd qf_2 ?_
            refine wp_lt (xsk qf_3 hy2) ?_
            refine wp_gd ql_K_149 ?_
            refine wp_bd ?_
            refine wp_of (f_X13_skip.eq_1 ..) ?_
            refine wp_bd ?_
            refine wp_of (f_X13_isDeck.eq_1 ..) ?_
            refine wp_bd ?_
            refine wp_of (f_X13_isBetween.eq_1 ..) ?_
            refine wp_ifn qf_38 ?_
            refine wp_ifn qf_104 ?_
            refine wp_of (f_X13_isBetween_15.eq_1 ..) ?_
            refine wp_gd qf_18 ?_
            refine wp_ret_bd ?_
            refine wp_gd qf_18 ?_
            refine wp_ret_bd ?_
            refine wp_ifn qf_19 ?_
            refine wp_bd ?_
            refine wp_of (f_X13_isBetween.eq_1 ..) ?_
            refine wp_ifn c3 ?_
            refine wp_ifp c4 ?_
            refine wp_of (f_X13_isBetween_14.eq_1 ..) ?_
            refine wp_of (f_X13_isBetween_15.eq_1 ..) ?_
            refine wp_gd qf_14 ?_
            refine wp_ret_bd ?_
            refine wp_ifp qf_15 ?_
            refine wp_of (f_X13_skip_39.eq_1 ..) ?_
            refine wp_gd ql_K_149 ?_
            refine wp_bd ?_
            refine wp_of (f_X13_isWrong.eq_1 ..) ?_
            refine wp_gd ql_K_149 ?_
            refine wp_zI ?_
            refine wp_ifn qf_110 ?_
            refine wp_of (f_X13_isWrong_14.eq_1 ..) ?_
            refine wp_gd qf_18 ?_
            refine wp_ret_bd ?_
            refine wp_ifn qf_19 ?_
            refine wp_ret_bd ?_
            refine wp_gd ql_K_149 ?_
            refine wp_bd ?_
            refine wp_of (f_X13_thrown.eq_1 ..) ?_
            refine wp_gd ql_K_149 ?_
            refine wp_lt gI_s ?_
            refine wp_ret_bd ?_
            refine wp_ifp qf_111 ?_
            refine wp_ifn qf_112 ?_
            refine wp_of (f_L_law_3388.eq_1 ..) ?_
            refine wp_of (f_L_law_3632.eq_1 ..) ?_
            refine wp_lt qf_21 ?_
            exact hrc _
          · skip
            refine wp_of (f_X10_isIn_15.eq_1 ..) ?_
            refine wp_gd qf_18 ?_
            refine wp_ret_bd ?_
            refine wp_bd ?_
            refine wp_of (f_X10_demand.eq_1 ..) ?_
            refine wp_ifn qf_19 ?_
            refine wp_ret_bd ?_
            refine wp_bd ?_
            refine wp_of (f_X10_demandRecord.eq_1 ..) ?_
            refine wp_gd ql_K_33 ?_
            refine wp_lt ql_R_33_2 ?_
            refine wp_ifp qf_87 ?_
            refine wp_rs_bd ?_
            refine wp_rs_bdc ?_
            refine wp_ifn qf_108 ?_
            refine wp_ifn qf_114 ?_
            refine wp_ifp qf_109 ?_
            refine wp_ret_bd ?_
            refine wp_gd qf_0 ?_
            refine wp_lt (xsk qf_1 hy1) ?_
            refine wp_gd qf_2 ?_
            refine wp_lt (xsk qf_3 hy2) ?_
            refine wp_gd ql_K_149 ?_
            refine wp_bd ?_
            refine wp_of (f_X13_skip.eq_1 ..) ?_
            refine wp_bd ?_
            refine wp_of (f_X13_isDeck.eq_1 ..) ?_
            refine wp_bd ?_
            refine wp_of (f_X13_isBetween.eq_1 ..) ?_
            refine wp_ifn qf_38 ?_
            refine wp_ifn qf_104 ?_
            refine wp_of (f_X13_isBetween_15.eq_1 ..) ?_
            refine wp_gd qf_18 ?_
            refine wp_ret_bd ?_
            refine wp_gd qf_18 ?_
            refine wp_ret_bd ?_
            refine wp_ifn qf_19 ?_
            refine wp_bd ?_
            refine wp_of (f_X13_isBetween.eq_1 ..) ?_
            refine wp_ifn c3 ?_
            refine wp_ifn c4 ?_
            refine wp_of (f_X13_isBetween_15.eq_1 ..) ?_
            refine wp_gd qf_18 ?_
            refine wp_ret_bd ?_
            refine wp_ifn qf_19 ?_
            refine wp_gd ql_K_149 ?_
            refine wp_bd ?_
            refine wp_of (f_X13_isEmpty.eq_1 ..) ?_
            refine wp_gd ql_K_149 ?_
            refine wp_lt ql_R_149_2 ?_
            refine wp_gd ql_K_151 ?_
            refine wp_gd (gZi ql_Z_151 qf_102) ?_
            refine wp_lt (gRk qf_41 ql_R_151_2) ?_
            refine wp_gd ql_K_160 ?_
            refine wp_lt ql_R_160_0 ?_
            refine wp_ifp qf_87 ?_
            refine wp_of (f_X13_isEmpty_17.eq_1 ..) ?_
            refine wp_gd qf_18 ?_
            refine wp_ret_bd ?_
            refine wp_ifn qf_19 ?_
            refine wp_of (f_X13_skip_39.eq_1 ..) ?_
            refine wp_gd ql_K_149 ?_
            refine wp_bd ?_
            refine wp_of (f_X13_isWrong.eq_1 ..) ?_
            refine wp_gd ql_K_149 ?_
            refine wp_zI ?_
            refine wp_ifn qf_115 ?_
            refine wp_of (f_X13_isWrong_14.eq_1 ..) ?_
            refine wp_gd qf_18 ?_
            refine wp_ret_bd ?_
            refine wp_ifn qf_19 ?_
            refine wp_ret_bd ?_
            refine wp_gd ql_K_149 ?_
            refine wp_bd ?_
            refine wp_of (f_X13_thrown.eq_1 ..) ?_
            refine wp_gd ql_K_149 ?_
            refine wp_lt gI_s ?_
            refine wp_ret_bd ?_
            refine wp_ifp qf_116 ?_
            refine wp_ifn qf_117 ?_
            refine wp_of (f_L_law_3388.eq_1 ..) ?_
            refine wp_of (f_L_law_3632.eq_1 ..) ?_
            refine wp_lt qf_21 ?_
            exact hrc _
      · skip
        refine wp_gd (gZi ql_Z_16 qf_105) ?_
        refine wp_lt (gRk qf_46 ql_R_16_3) ?_
        refine wp_of (f_X8_deckAt_23.eq_1 ..) ?_
        refine wp_ret_bd ?_
        refine wp_ifn qf_106 ?_
        refine wp_ret_bd ?_
        refine wp_bd ?_
        refine wp_of (f_X10_isIn.eq_1 ..) ?_
        refine wp_if (fun c3 => ?_) (fun c3 => ?_)
        · skip
          refine wp_of (f_X10_isIn_14.eq_1 ..) ?_
          refine wp_of (f_X10_isIn_15.eq_1 ..) ?_
          refine wp_gd qf_14 ?_
          refine wp_ret_bd ?_
          refine wp_bd ?_
          refine wp_of (f_X10_demand.eq_1 ..) ?_
          refine wp_ifp qf_15 ?_
          refine wp_rs_bd ?_
          refine wp_rs_bdc ?_
          refine wp_ifn qf_113 ?_
          refine wp_ifp qf_16 ?_
          refine wp_ret_bd ?_
          refine wp_gd qf_0 ?_
          refine wp_lt (xsk qf_1 hy1) ?_
          refine wp_gd qf_2 ?_
          refine wp_lt (xsk qf_3 hy2) ?_
          refine wp_gd ql_K_149 ?_
          refine wp_bd ?_
          refine wp_of (f_X13_skip.eq_1 ..) ?_
          refine wp_bd ?_
          refine wp_of (f_X13_isDeck.eq_1 ..) ?_
          refine wp_bd ?_
          refine wp_of (f_X13_isBetween.eq_1 ..) ?_
          refine wp_ifn qf_43 ?_
          refine wp_ifn qf_107 ?_
          refine wp_of (f_X13_isBetween_15.eq_1 ..) ?_
          refine wp_gd qf_18 ?_
          refine wp_ret_bd ?_
          refine wp_gd qf_18 ?_
          refine wp_ret_bd ?_
          refine wp_ifn qf_19 ?_
          refine wp_bd ?_
          refine wp_of (f_X13_isBetween.eq_1 ..) ?_
          refine wp_ifp c3 ?_
          refine wp_of (f_X13_isBetween_14.eq_1 ..) ?_
          refine wp_of (f_X13_isBetween_15.eq_1 ..) ?_
          refine wp_gd qf_14 ?_
          refine wp_ret_bd ?_
          refine wp_ifp qf_15 ?_
          refine wp_of (f_X13_skip_39.eq_1 ..) ?_
          refine wp_gd ql_K_149 ?_
          refine wp_bd ?_
          refine wp_of (f_X13_isWrong.eq_1 ..) ?_
          refine wp_gd ql_K_149 ?_
          refine wp_zI ?_
          refine wp_ifn qf_110 ?_
          refine wp_of (f_X13_isWrong_14.eq_1 ..) ?_
          refine wp_gd qf_18 ?_
          refine wp_ret_bd ?_
          refine wp_ifn qf_19 ?_
          refine wp_ret_bd ?_
          refine wp_gd ql_K_149 ?_
          refine wp_bd ?_
          refine wp_of (f_X13_thrown.eq_1 ..) ?_
          refine wp_gd ql_K_149 ?_
          refine wp_lt gI_s ?_
          refine wp_ret_bd ?_
          refine wp_ifp qf_111 ?_
          refine wp_ifn qf_112 ?_
          refine wp_of (f_L_law_3388.eq_1 ..) ?_
          refine wp_of (f_L_law_3632.eq_1 ..) ?_
          refine wp_lt qf_21 ?_
          exact hrc _
        · skip
          refine wp_if (fun c4 => ?_) (fun c4 => ?_)
          · skip
            refine wp_of (f_X10_isIn_14.eq_1 ..) ?_
            refine wp_of (f_X10_isIn_15.eq_1 ..) ?_
            refine wp_gd qf_14 ?_
            refine wp_ret_bd ?_
            refine wp_bd ?_
            refine wp_of (f_X10_demand.eq_1 ..) ?_
            refine wp_ifp qf_15 ?_
            refine wp_rs_bd ?_
            refine wp_rs_bdc ?_
            refine wp_ifn qf_113 ?_
            refine wp_ifp qf_16 ?_
            refine wp_ret_bd ?_
            refine wp_gd qf_0 ?_
            refine wp_lt (xsk qf_1 hy1) ?_
            refine wp_gd qf_2 ?_
            refine wp_lt (xsk qf_3 hy2) ?_
            refine wp_gd ql_K_149 ?_
            refine wp_bd ?_
            refine wp_of (f_X13_skip.eq_1 ..) ?_
            refine wp_bd ?_
            refine wp_of (f_X13_isDeck.eq_1 ..) ?_
            refine wp_bd ?_
            refine wp_of (f_X13_isBetween.eq_1 ..) ?_
            refine wp_ifn qf_43 ?_
            refine wp_ifn qf_107 ?_
            refine wp_of (f_X13_isBetween_15.eq_1 ..) ?_
            refine wp_gd qf_18 ?_
            refine wp_ret_bd ?_
            refine wp_gd qf_18 ?_
            refine wp_ret_bd ?_
            refine wp_ifn qf_19 ?_
            refine wp_bd ?_
            refine wp_of (f_X13_isBetween.eq_1 ..) ?_
            refine wp_ifn c3 ?_
            refine wp_ifp c4 ?_
            refine wp_of (f_X13_isBetween_14.eq_1 ..) ?_
            refine wp_of (f_X13_isBetween_15.eq_1 ..) ?_
            refine wp_gd qf_14 ?_
            refine wp_ret_bd ?_
            refine wp_ifp qf_15 ?_
            refine wp_of (f_X13_skip_39.eq_1 ..) ?_
            refine wp_gd ql_K_149 ?_
            refine wp_bd ?_
            refine wp_of (f_X13_isWrong.eq_1 ..) ?_
            refine wp_gd ql_K_149 ?_
            refine wp_zI ?_
            refine wp_ifn qf_110 ?_
            refine wp_of (f_X13_isWrong_14.eq_1 ..) ?_
            refine wp_gd qf_18 ?_
            refine wp_ret_bd ?_
            refine wp_ifn qf_19 ?_
            refine wp_ret_bd ?_
            refine wp_gd ql_K_149 ?_
            refine wp_bd ?_
            refine wp_of (f_X13_thrown.eq_1 ..) ?_
            refine wp_gd ql_K_149 ?_
            refine wp_lt gI_s ?_
            refine wp_ret_bd ?_
            refine wp_ifp qf_111 ?_
            refine wp_ifn qf_112 ?_
            refine wp_of (f_L_law_3388.eq_1 ..) ?_
            refine wp_of (f_L_law_3632.eq_1 ..) ?_
            refine wp_lt qf_21 ?_
            exact hrc _
          · skip
            refine wp_of (f_X10_isIn_15.eq_1 ..) ?_
            refine wp_gd qf_18 ?_
            refine wp_ret_bd ?_
            refine wp_bd ?_
            refine wp_of (f_X10_demand.eq_1 ..) ?_
            refine wp_ifn qf_19 ?_
            refine wp_ret_bd ?_
            refine wp_bd ?_
            refine wp_of (f_X10_demandRecord.eq_1 ..) ?_
            refine wp_gd ql_K_41 ?_
            refine wp_lt ql_R_41_2 ?_
            refine wp_ifp qf_87 ?_
            refine wp_rs_bd ?_
            refine wp_rs_bdc ?_
            refine wp_ifn qf_108 ?_
            refine wp_ifn qf_114 ?_
            refine wp_ifp qf_109 ?_
            refine wp_ret_bd ?_
            refine wp_gd qf_0 ?_
            refine wp_lt (xsk qf_1 hy1) ?_
            refine wp_gd qf_2 ?_
            refine wp_lt (xsk qf_3 hy2) ?_
            refine wp_gd ql_K_149 ?_
            refine wp_bd ?_
            refine wp_of (f_X13_skip.eq_1 ..) ?_
            refine wp_bd ?_
            refine wp_of (f_X13_isDeck.eq_1 ..) ?_
            refine wp_bd ?_
            refine wp_of (f_X13_isBetween.eq_1 ..) ?_
            refine wp_ifn qf_43 ?_
            refine wp_ifn qf_107 ?_
            refine wp_of (f_X13_isBetween_15.eq_1 ..) ?_
            refine wp_gd qf_18 ?_
            refine wp_ret_bd ?_
            refine wp_gd qf_18 ?_
            refine wp_ret_bd ?_
            refine wp_ifn qf_19 ?_
            refine wp_bd ?_
            refine wp_of (f_X13_isBetween.eq_1 ..) ?_
            refine wp_ifn c3 ?_
            refine wp_ifn c4 ?_
            refine wp_of (f_X13_isBetween_15.eq_1 ..) ?_
            refine wp_gd qf_18 ?_
            refine wp_ret_bd ?_
            refine wp_ifn qf_19 ?_
            refine wp_gd ql_K_149 ?_
            refine wp_bd ?_
            refine wp_of (f_X13_isEmpty.eq_1 ..) ?_
            refine wp_gd ql_K_149 ?_
            refine wp_lt ql_R_149_2 ?_
            refine wp_gd ql_K_151 ?_
            refine wp_gd (gZi ql_Z_151 qf_105) ?_
            refine wp_lt (gRk qf_46 ql_R_151_3) ?_
            refine wp_gd ql_K_164 ?_
            refine wp_lt ql_R_164_0 ?_
            refine wp_ifp qf_87 ?_
            refine wp_of (f_X13_isEmpty_17.eq_1 ..) ?_
            refine wp_gd qf_18 ?_
            refine wp_ret_bd ?_
            refine wp_ifn qf_19 ?_
            refine wp_of (f_X13_skip_39.eq_1 ..) ?_
            refine wp_gd ql_K_149 ?_
            refine wp_bd ?_
            refine wp_of (f_X13_isWrong.eq_1 ..) ?_
            refine wp_gd ql_K_149 ?_
            refine wp_zI ?_
            refine wp_ifn qf_115 ?_
            refine wp_of (f_X13_isWrong_14.eq_1 ..) ?_
            refine wp_gd qf_18 ?_
            refine wp_ret_bd ?_
            refine wp_ifn qf_19 ?_
            refine wp_ret_bd ?_
            refine wp_gd ql_K_149 ?_
            refine wp_bd ?_
            refine wp_of (f_X13_thrown.eq_1 ..) ?_
            refine wp_gd ql_K_149 ?_
            refine wp_lt gI_s ?_
            refine wp_ret_bd ?_
            refine wp_ifp qf_116 ?_
            refine wp_ifn qf_117 ?_
            refine wp_of (f_L_law_3388.eq_1 ..) ?_
            refine wp_of (f_L_law_3632.eq_1 ..) ?_
            refine wp_lt qf_21 ?_
            exact hrc _
set_option maxRecDepth 100000 in
set_option maxHeartbeats 4000000 in
theorem cs_51 {xs : Nat → Int32} {rc : mS → Nat → Nat → Nat → Nat → Int32 → Option (Rs Int32)} {Q : Rs Int32 → Prop} (hrc : ∀ S, WP Q (rc S 1 149 173 174 8)) : WP Q (f_L_law_3391 8 xs rc (M3I, M3L, M3R, M3D, M3K, M3Z, 174) 1 149 173 174 0) := by
  obtain ⟨y1, hy1⟩ : ∃ y, xs 1 = y := ⟨_, rfl⟩
  refine wp_of (f_L_law_3391.eq_1 ..) ?_
  refine wp_gd qf_0 ?_
  refine wp_lt (xsk qf_1 hy1) ?_
  refine wp_bd ?_
  refine wp_of (f_L_loseStick.eq_1 ..) ?_
  refine wp_gd ql_K_1 ?_
  refine wp_bdc ?_
  refine wp_of (f_X10_loseStick.eq_1 ..) ?_
  refine wp_gd ql_K_1 ?_
  refine wp_bd ?_
  refine wp_of (f_X10_deckOf.eq_1 ..) ?_
  refine wp_gd ql_K_1 ?_
  refine wp_lt ql_R_1_0 ?_
  refine wp_gd ql_K_2 ?_
  refine wp_bd ?_
  refine wp_of (f_X8_deckAt.eq_1 ..) ?_
  refine wp_if (fun c1 => ?_) (fun c1 => ?_)
  · skip
    refine wp_of (f_X8_deckAt_22.eq_1 ..) ?_
    refine wp_of (f_X8_deckAt_23.eq_1 ..) ?_
    refine wp_ret_bd ?_
    refine wp_ifp qf_87 ?_
    refine wp_rs_bd ?_
    refine wp_rs_bdc ?_
    refine wp_ifp qf_88 ?_
    refine wp_ret_bd ?_
    refine wp_gd qf_0 ?_
    refine wp_lt (xsk qf_1 hy1) ?_
    refine wp_gd ql_K_149 ?_
    refine wp_bd ?_
    refine wp_of (f_X13_loseStick.eq_1 ..) ?_
    refine wp_gd ql_K_149 ?_
    refine wp_bd ?_
    refine wp_of (f_X13_isNoRecord.eq_1 ..) ?_
    refine wp_bd ?_
    refine wp_of (f_X13_isDeck.eq_1 ..) ?_
    refine wp_bd ?_
    refine wp_of (f_X13_isBetween.eq_1 ..) ?_
    refine wp_ifp c1 ?_
    refine wp_of (f_X13_isBetween_14.eq_1 ..) ?_
    refine wp_of (f_X13_isBetween_15.eq_1 ..) ?_
    refine wp_gd qf_14 ?_
    refine wp_ret_bd ?_
    refine wp_gd qf_14 ?_
    refine wp_ret_bd ?_
    refine wp_ifp qf_15 ?_
    refine wp_of (f_X13_isNoRecord_25.eq_1 ..) ?_
    refine wp_gd ql_K_149 ?_
    refine wp_bd ?_
    refine wp_of (f_X13_isWrong.eq_1 ..) ?_
    refine wp_gd ql_K_149 ?_
    refine wp_zI ?_
    refine wp_ifn qf_17 ?_
    refine wp_of (f_X13_isWrong_14.eq_1 ..) ?_
    refine wp_gd qf_18 ?_
    refine wp_ret_bd ?_
    refine wp_gd qf_18 ?_
    refine wp_ret_bd ?_
    refine wp_ifn qf_19 ?_
    refine wp_ret_bd ?_
    refine wp_gd ql_K_149 ?_
    refine wp_bd ?_
    refine wp_of (f_X13_thrown.eq_1 ..) ?_
    refine wp_gd ql_K_149 ?_
    refine wp_lt gI_s ?_
    refine wp_ret_bd ?_
    refine wp_ifp qf_20 ?_
    refine wp_ifn qf_19 ?_
    refine wp_of (f_L_law_3444.eq_1 ..) ?_
    refine wp_of (f_L_law_3632.eq_1 ..) ?_
    refine wp_lt qf_21 ?_
    exact hrc _
  · skip
    refine wp_gd ql_K_2 ?_
    refine wp_lt ql_R_2_1 ?_
    refine wp_gd ql_K_16 ?_
    refine wp_lt (gZo ql_Z_16 qf_92) ?_
    refine wp_if (fun c2 => ?_) (fun c2 => ?_)
    · skip
      refine wp_of (f_X8_deckAt_22.eq_1 ..) ?_
      refine wp_of (f_X8_deckAt_23.eq_1 ..) ?_
      refine wp_ret_bd ?_
      refine wp_ifp qf_87 ?_
      refine wp_rs_bd ?_
      refine wp_rs_bdc ?_
      refine wp_ifp qf_88 ?_
      refine wp_ret_bd ?_
      refine wp_gd qf_0 ?_
      refine wp_lt (xsk qf_1 hy1) ?_
      refine wp_gd ql_K_149 ?_
      refine wp_bd ?_
      refine wp_of (f_X13_loseStick.eq_1 ..) ?_
      refine wp_gd ql_K_149 ?_
      refine wp_bd ?_
      refine wp_of (f_X13_isNoRecord.eq_1 ..) ?_
      refine wp_bd ?_
      refine wp_of (f_X13_isDeck.eq_1 ..) ?_
      refine wp_bd ?_
      refine wp_of (f_X13_isBetween.eq_1 ..) ?_
      refine wp_ifn c1 ?_
      refine wp_ifp (show ((3 : Int32) < y1) from by have e0 := qf_90; have e1 := qf_93; have e2 := qf_94; simp only [Int32.lt_iff_toInt_lt, Int32.le_iff_toInt_le, ← Int32.toInt_inj] at c1 c2 ⊢; omega) ?_
      refine wp_of (f_X13_isBetween_14.eq_1 ..) ?_
      refine wp_of (f_X13_isBetween_15.eq_1 ..) ?_
      refine wp_gd qf_14 ?_
      refine wp_ret_bd ?_
      refine wp_gd qf_14 ?_
      refine wp_ret_bd ?_
      refine wp_ifp qf_15 ?_
      refine wp_of (f_X13_isNoRecord_25.eq_1 ..) ?_
      refine wp_gd ql_K_149 ?_
      refine wp_bd ?_
      refine wp_of (f_X13_isWrong.eq_1 ..) ?_
      refine wp_gd ql_K_149 ?_
      refine wp_zI ?_
      refine wp_ifn qf_17 ?_
      refine wp_of (f_X13_isWrong_14.eq_1 ..) ?_
      refine wp_gd qf_18 ?_
      refine wp_ret_bd ?_
      refine wp_gd qf_18 ?_
      refine wp_ret_bd ?_
      refine wp_ifn qf_19 ?_
      refine wp_ret_bd ?_
      refine wp_gd ql_K_149 ?_
      refine wp_bd ?_
      refine wp_of (f_X13_thrown.eq_1 ..) ?_
      refine wp_gd ql_K_149 ?_
      refine wp_lt gI_s ?_
      refine wp_ret_bd ?_
      refine wp_ifp qf_20 ?_
      refine wp_ifn qf_19 ?_
      refine wp_of (f_L_law_3444.eq_1 ..) ?_
      refine wp_of (f_L_law_3632.eq_1 ..) ?_
      refine wp_lt qf_21 ?_
      exact hrc _
    · skip
      refine wp_lt ql_R_2_1 ?_
      refine wp_gd ql_K_16 ?_
      rcases (show y1 = (0 : Int32) ∨ y1 = (1 : Int32) ∨ y1 = (2 : Int32) ∨ y1 = (3 : Int32) from by have e0 := qf_90; have e1 := qf_95; have e2 := qf_96; have e3 := qf_93; have e4 := qf_94; simp only [Int32.lt_iff_toInt_lt, Int32.le_iff_toInt_le] at c1 c2; simp only [← Int32.toInt_inj]; omega) with rfl | rfl | rfl | rfl
      · skip
        refine wp_gd (gZi ql_Z_16 qf_97) ?_
        refine wp_lt (gRk qf_32 ql_R_16_0) ?_
        refine wp_of (f_X8_deckAt_23.eq_1 ..) ?_
        refine wp_ret_bd ?_
        refine wp_ifn qf_98 ?_
        refine wp_ret_bd ?_
        refine wp_bd ?_
        refine wp_of (f_X10_demandRecord.eq_1 ..) ?_
        refine wp_gd ql_K_17 ?_
        refine wp_lt ql_R_17_2 ?_
        refine wp_ifp qf_87 ?_
        refine wp_rs_bd ?_
        refine wp_rs_bdc ?_
        refine wp_ifn qf_108 ?_
        refine wp_ifp qf_109 ?_
        refine wp_ret_bd ?_
        refine wp_gd qf_0 ?_
        refine wp_lt (xsk qf_1 hy1) ?_
        refine wp_gd ql_K_149 ?_
        refine wp_bd ?_
        refine wp_of (f_X13_loseStick.eq_1 ..) ?_
        refine wp_gd ql_K_149 ?_
        refine wp_bd ?_
        refine wp_of (f_X13_isNoRecord.eq_1 ..) ?_
        refine wp_bd ?_
        refine wp_of (f_X13_isDeck.eq_1 ..) ?_
        refine wp_bd ?_
        refine wp_of (f_X13_isBetween.eq_1 ..) ?_
        refine wp_ifn qf_28 ?_
        refine wp_ifn qf_43 ?_
        refine wp_of (f_X13_isBetween_15.eq_1 ..) ?_
        refine wp_gd qf_18 ?_
        refine wp_ret_bd ?_
        refine wp_gd qf_18 ?_
        refine wp_ret_bd ?_
        refine wp_ifn qf_19 ?_
        refine wp_gd ql_K_149 ?_
        refine wp_bd ?_
        refine wp_of (f_X13_isEmpty.eq_1 ..) ?_
        refine wp_gd ql_K_149 ?_
        refine wp_lt ql_R_149_2 ?_
        refine wp_gd ql_K_151 ?_
        refine wp_gd (gZi ql_Z_151 qf_97) ?_
        refine wp_lt (gRk qf_32 ql_R_151_0) ?_
        refine wp_gd ql_K_152 ?_
        refine wp_lt ql_R_152_0 ?_
        refine wp_ifp qf_87 ?_
        refine wp_of (f_X13_isEmpty_17.eq_1 ..) ?_
        refine wp_gd qf_18 ?_
        refine wp_ret_bd ?_
        refine wp_ifn qf_19 ?_
        refine wp_of (f_X13_isNoRecord_25.eq_1 ..) ?_
        refine wp_gd ql_K_149 ?_
        refine wp_bd ?_
        refine wp_of (f_X13_isWrong.eq_1 ..) ?_
        refine wp_gd ql_K_149 ?_
        refine wp_zI ?_
        refine wp_ifn qf_110 ?_
        refine wp_of (f_X13_isWrong_14.eq_1 ..) ?_
        refine wp_gd qf_18 ?_
        refine wp_ret_bd ?_
        refine wp_gd qf_18 ?_
        refine wp_ret_bd ?_
        refine wp_ifn qf_19 ?_
        refine wp_ret_bd ?_
        refine wp_gd ql_K_149 ?_
        refine wp_bd ?_
        refine wp_of (f_X13_thrown.eq_1 ..) ?_
        refine wp_gd ql_K_149 ?_
        refine wp_lt gI_s ?_
        refine wp_ret_bd ?_
        refine wp_ifp qf_111 ?_
        refine wp_ifn qf_112 ?_
        refine wp_of (f_L_law_3444.eq_1 ..) ?_
        refine wp_of (f_L_law_3632.eq_1 ..) ?_
        refine wp_lt qf_21 ?_
        exact hrc _
      · skip
        refine wp_gd (gZi ql_Z_16 qf_99) ?_
        refine wp_lt (gRk qf_36 ql_R_16_1) ?_
        refine wp_of (f_X8_deckAt_23.eq_1 ..) ?_
        refine wp_ret_bd ?_
        refine wp_ifn qf_100 ?_
        refine wp_ret_bd ?_
        refine wp_bd ?_
        refine wp_of (f_X10_demandRecord.eq_1 ..) ?_
        refine wp_gd ql_K_25 ?_
        refine wp_lt ql_R_25_2 ?_
        refine wp_ifp qf_87 ?_
        refine wp_rs_bd ?_
        refine wp_rs_bdc ?_
        refine wp_ifn qf_108 ?_
        refine wp_ifp qf_109 ?_
        refine wp_ret_bd ?_
        refine wp_gd qf_0 ?_
        refine wp_lt (xsk qf_1 hy1) ?_
        refine wp_gd ql_K_149 ?_
        refine wp_bd ?_
        refine wp_of (f_X13_loseStick.eq_1 ..) ?_
        refine wp_gd ql_K_149 ?_
        refine wp_bd ?_
        refine wp_of (f_X13_isNoRecord.eq_1 ..) ?_
        refine wp_bd ?_
        refine wp_of (f_X13_isDeck.eq_1 ..) ?_
        refine wp_bd ?_
        refine wp_of (f_X13_isBetween.eq_1 ..) ?_
        refine wp_ifn qf_33 ?_
        refine wp_ifn qf_101 ?_
        refine wp_of (f_X13_isBetween_15.eq_1 ..) ?_
        refine wp_gd qf_18 ?_
        refine wp_ret_bd ?_
        refine wp_gd qf_18 ?_
        refine wp_ret_bd ?_
        refine wp_ifn qf_19 ?_
        refine wp_gd ql_K_149 ?_
        refine wp_bd ?_
        refine wp_of (f_X13_isEmpty.eq_1 ..) ?_
        refine wp_gd ql_K_149 ?_
        refine wp_lt ql_R_149_2 ?_
        refine wp_gd ql_K_151 ?_
        refine wp_gd (gZi ql_Z_151 qf_99) ?_
        refine wp_lt (gRk qf_36 ql_R_151_1) ?_
        refine wp_gd ql_K_156 ?_
        refine wp_lt ql_R_156_0 ?_
        refine wp_ifp qf_87 ?_
        refine wp_of (f_X13_isEmpty_17.eq_1 ..) ?_
        refine wp_gd qf_18 ?_
        refine wp_ret_bd ?_
        refine wp_ifn qf_19 ?_
        refine wp_of (f_X13_isNoRecord_25.eq_1 ..) ?_
        refine wp_gd ql_K_149 ?_
        refine wp_bd ?_
        refine wp_of (f_X13_isWrong.eq_1 ..) ?_
        refine wp_gd ql_K_149 ?_
        refine wp_zI ?_
        refine wp_ifn qf_110 ?_
        refine wp_of (f_X13_isWrong_14.eq_1 ..) ?_
        refine wp_gd qf_18 ?_
        refine wp_ret_bd ?_
        refine wp_gd qf_18 ?_
        refine wp_ret_bd ?_
        refine wp_ifn qf_19 ?_
        refine wp_ret_bd ?_
        refine wp_gd ql_K_149 ?_
        refine wp_bd ?_
        refine wp_of (f_X13_thrown.eq_1 ..) ?_
        refine wp_gd ql_K_149 ?_
        refine wp_lt gI_s ?_
        refine wp_ret_bd ?_
        refine wp_ifp qf_111 ?_
        refine wp_ifn qf_112 ?_
        refine wp_of (f_L_law_3444.eq_1 ..) ?_
        refine wp_of (f_L_law_3632.eq_1 ..) ?_
        refine wp_lt qf_21 ?_
        exact hrc _
      · skip
        refine wp_gd (gZi ql_Z_16 qf_102) ?_
        refine wp_lt (gRk qf_41 ql_R_16_2) ?_
        refine wp_of (f_X8_deckAt_23.eq_1 ..) ?_
        refine wp_ret_bd ?_
        refine wp_ifn qf_103 ?_
        refine wp_ret_bd ?_
        refine wp_bd ?_
        refine wp_of (f_X10_demandRecord.eq_1 ..) ?_
        refine wp_gd ql_K_33 ?_
        refine wp_lt ql_R_33_2 ?_
        refine wp_ifp qf_87 ?_
        refine wp_rs_bd ?_
        refine wp_rs_bdc ?_
        refine wp_ifn qf_108 ?_
        refine wp_ifp qf_109 ?_
        refine wp_ret_bd ?_
        refine wp_gd qf_0 ?_
        refine wp_lt (xsk qf_1 hy1) ?_
        refine wp_gd ql_K_149 ?_
        refine wp_bd ?_
        refine wp_of (f_X13_loseStick.eq_1 ..) ?_
        refine wp_gd ql_K_149 ?_
        refine wp_bd ?_
        refine wp_of (f_X13_isNoRecord.eq_1 ..) ?_
        refine wp_bd ?_
        refine wp_of (f_X13_isDeck.eq_1 ..) ?_
        refine wp_bd ?_
        refine wp_of (f_X13_isBetween.eq_1 ..) ?_
        refine wp_ifn qf_38 ?_
        refine wp_ifn qf_104 ?_
        refine wp_of (f_X13_isBetween_15.eq_1 ..) ?_
        refine wp_gd qf_18 ?_
        refine wp_ret_bd ?_
        refine wp_gd qf_18 ?_
        refine wp_ret_bd ?_
        refine wp_ifn qf_19 ?_
        refine wp_gd ql_K_149 ?_
        refine wp_bd ?_
        refine wp_of (f_X13_isEmpty.eq_1 ..) ?_
        refine wp_gd ql_K_149 ?_
        refine wp_lt ql_R_149_2 ?_
        refine wp_gd ql_K_151 ?_
        refine wp_gd (gZi ql_Z_151 qf_102) ?_
        refine wp_lt (gRk qf_41 ql_R_151_2) ?_
        refine wp_gd ql_K_160 ?_
        refine wp_lt ql_R_160_0 ?_
        refine wp_ifp qf_87 ?_
        refine wp_of (f_X13_isEmpty_17.eq_1 ..) ?_
        refine wp_gd qf_18 ?_
        refine wp_ret_bd ?_
        refine wp_ifn qf_19 ?_
        refine wp_of (f_X13_isNoRecord_25.eq_1 ..) ?_
        refine wp_gd ql_K_149 ?_
        refine wp_bd ?_
        refine wp_of (f_X13_isWrong.eq_1 ..) ?_
        refine wp_gd ql_K_149 ?_
        refine wp_zI ?_
        refine wp_ifn qf_110 ?_
        refine wp_of (f_X13_isWrong_14.eq_1 ..) ?_
        refine wp_gd qf_18 ?_
        refine wp_ret_bd ?_
        refine wp_gd qf_18 ?_
        refine wp_ret_bd ?_
        refine wp_ifn qf_19 ?_
        refine wp_ret_bd ?_
        refine wp_gd ql_K_149 ?_
        refine wp_bd ?_
        refine wp_of (f_X13_thrown.eq_1 ..) ?_
        refine wp_gd ql_K_149 ?_
        refine wp_lt gI_s ?_
        refine wp_ret_bd ?_
        refine wp_ifp qf_111 ?_
        refine wp_ifn qf_112 ?_
        refine wp_of (f_L_law_3444.eq_1 ..) ?_
        refine wp_of (f_L_law_3632.eq_1 ..) ?_
        refine wp_lt qf_21 ?_
        exact hrc _
      · skip
        refine wp_gd (gZi ql_Z_16 qf_105) ?_
        refine wp_lt (gRk qf_46 ql_R_16_3) ?_
        refine wp_of (f_X8_deckAt_23.eq_1 ..) ?_
        refine wp_ret_bd ?_
        refine wp_ifn qf_106 ?_
        refine wp_ret_bd ?_
        refine wp_bd ?_
        refine wp_of (f_X10_demandRecord.eq_1 ..) ?_
        refine wp_gd ql_K_41 ?_
        refine wp_lt ql_R_41_2 ?_
        refine wp_ifp qf_87 ?_
        refine wp_rs_bd ?_
        refine wp_rs_bdc ?_
        refine wp_ifn qf_108 ?_
        refine wp_ifp qf_109 ?_
        refine wp_ret_bd ?_
        refine wp_gd qf_0 ?_
        refine wp_lt (xsk qf_1 hy1) ?_
        refine wp_gd ql_K_149 ?_
        refine wp_bd ?_
        refine wp_of (f_X13_loseStick.eq_1 ..) ?_
        refine wp_gd ql_K_149 ?_
        refine wp_bd ?_
        refine wp_of (f_X13_isNoRecord.eq_1 ..) ?_
        refine wp_bd ?_
        refine wp_of (f_X13_isDeck.eq_1 ..) ?_
        refine wp_bd ?_
        refine wp_of (f_X13_isBetween.eq_1 ..) ?_
        refine wp_ifn qf_43 ?_
        refine wp_ifn qf_107 ?_
        refine wp_of (f_X13_isBetween_15.eq_1 ..) ?_
        refine wp_gd qf_18 ?_
        refine wp_ret_bd ?_
        refine wp_gd qf_18 ?_
        refine wp_ret_bd ?_
        refine wp_ifn qf_19 ?_
        refine wp_gd ql_K_149 ?_
        refine wp_bd ?_
        refine wp_of (f_X13_isEmpty.eq_1 ..) ?_
        refine wp_gd ql_K_149 ?_
        refine wp_lt ql_R_149_2 ?_
        refine wp_gd ql_K_151 ?_
        refine wp_gd (gZi ql_Z_151 qf_105) ?_
        refine wp_lt (gRk qf_46 ql_R_151_3) ?_
        refine wp_gd ql_K_164 ?_
        refine wp_lt ql_R_164_0 ?_
        refine wp_ifp qf_87 ?_
        refine wp_of (f_X13_isEmpty_17.eq_1 ..) ?_
        refine wp_gd qf_18 ?_
        refine wp_ret_bd ?_
        refine wp_ifn qf_19 ?_
        refine wp_of (f_X13_isNoRecord_25.eq_1 ..) ?_
        refine wp_gd ql_K_149 ?_
        refine wp_bd ?_
        refine wp_of (f_X13_isWrong.eq_1 ..) ?_
        refine wp_gd ql_K_149 ?_
        refine wp_zI ?_
        refine wp_ifn qf_110 ?_
        refine wp_of (f_X13_isWrong_14.eq_1 ..) ?_
        refine wp_gd qf_18 ?_
        refine wp_ret_bd ?_
        refine wp_gd qf_18 ?_
        refine wp_ret_bd ?_
        refine wp_ifn qf_19 ?_
        refine wp_ret_bd ?_
        refine wp_gd ql_K_149 ?_
        refine wp_bd ?_
        refine wp_of (f_X13_thrown.eq_1 ..) ?_
        refine wp_gd ql_K_149 ?_
        refine wp_lt gI_s ?_
        refine wp_ret_bd ?_
        refine wp_ifp qf_111 ?_
        refine wp_ifn qf_112 ?_
        refine wp_of (f_L_law_3444.eq_1 ..) ?_
        refine wp_of (f_L_law_3632.eq_1 ..) ?_
        refine wp_lt qf_21 ?_
        exact hrc _
end CASES12
