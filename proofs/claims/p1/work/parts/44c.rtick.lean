section TICKR
set_option maxRecDepth 100000 in
set_option maxHeartbeats 4000000 in
theorem r_tick {Q : Rs Int32 → Prop} {kk N : Nat} {a1 a3 t u g : Int32} {w : Int64} {I : List (List Int32)} {L : List (List Int64)} {R : List (List Nat)} {D : List (List UInt64)} {K Z : List Nat} (hN : 174 ≤ N) (hN2 : N ≤ 20000) (hk : ¬ a1 ≤ a3) (hj : ((t + (1 : Int32)) - (1 : Int32)) / (360000 : Int32) = (0 : Int32)) (hc : RI t u g w (I, L, R, D, K, Z, N)) (hrc : ∀ (t9 u9 g9 : Int32) (I9 : List (List Int32)) (L9 : List (List Int64)) (R9 : List (List Nat)) (D9 : List (List UInt64)) (K9 Z9 : List Nat), t9 = t + (1 : Int32) → u9 = u + (1 : Int32) → RI t9 u9 g9 w (I9, L9, R9, D9, K9, Z9, N + 4) → WP Q (f_X13_go_32 kk (I9, L9, R9, D9, K9, Z9, N + 4) 149 a1 0 (a3 + Int32.ofInt (1)))) : WP Q (f_X13_go_32 (kk + 1) (I, L, R, D, K, Z, N) 149 a1 0 a3) := by
  obtain ⟨hI, hL, hR, hK, hZ, hw, ht, hu, hg0, hg1, hg2, hg3, hg4, hg5⟩ := hc
  dsimp only at hI hL hR hK hZ
  refine wp_of (f_X13_go_32.eq_2 ..) ?_
  refine wp_ifn hk ?_
  refine wp_gd (agK hK rfl ql_K_149) ?_
  refine wp_bd ?_
  refine wp_of (f_X13_tick.eq_1 ..) ?_
  refine wp_gd (agK hK rfl ql_K_149) ?_
  refine wp_lt (agR hR rfl ql_R_149_2) ?_
  refine wp_gd (agK hK rfl ql_K_151) ?_
  refine wp_lt (gZo (agZ hZ rfl ql_Z_151) qf_92) ?_
  refine wp_of (f_X13_tick_10.eq_2 ..) ?_
  refine wp_ifn qf_298 ?_
  refine wp_gd (agK hK rfl ql_K_151) ?_
  refine wp_gd (gZi (agZ hZ rfl ql_Z_151) qf_97) ?_
  refine wp_lt (gRk qf_32 (agR hR rfl ql_R_151_0)) ?_
  refine wp_gd (agK hK rfl ql_K_152) ?_
  refine wp_bd ?_
  refine wp_of (f_X11_goesOn.eq_1 ..) ?_
  refine wp_gd (agK hK rfl ql_K_152) ?_
  refine wp_lt (agI hI rfl ql_I_152_13) ?_
  refine wp_ifp qf_15 ?_
  refine wp_ret_bd ?_
  refine wp_lt qf_153 ?_
  refine wp_of (f_X13_tick_10.eq_2 ..) ?_
  refine wp_ifn qf_299 ?_
  refine wp_gd (agK hK rfl ql_K_151) ?_
  refine wp_gd (gZi (agZ hZ rfl ql_Z_151) qf_99) ?_
  refine wp_lt (gRk qf_36 (agR hR rfl ql_R_151_1)) ?_
  refine wp_gd (agK hK rfl ql_K_156) ?_
  refine wp_bd ?_
  refine wp_of (f_X11_goesOn.eq_1 ..) ?_
  refine wp_gd (agK hK rfl ql_K_156) ?_
  refine wp_lt (agI hI rfl ql_I_156_13) ?_
  refine wp_ifp qf_15 ?_
  refine wp_ret_bd ?_
  refine wp_lt qf_164 ?_
  refine wp_of (f_X13_tick_10.eq_2 ..) ?_
  refine wp_ifn qf_300 ?_
  refine wp_gd (agK hK rfl ql_K_151) ?_
  refine wp_gd (gZi (agZ hZ rfl ql_Z_151) qf_102) ?_
  refine wp_lt (gRk qf_41 (agR hR rfl ql_R_151_2)) ?_
  refine wp_gd (agK hK rfl ql_K_160) ?_
  refine wp_bd ?_
  refine wp_of (f_X11_goesOn.eq_1 ..) ?_
  refine wp_gd (agK hK rfl ql_K_160) ?_
  refine wp_lt (agI hI rfl ql_I_160_13) ?_
  refine wp_ifp qf_15 ?_
  refine wp_ret_bd ?_
  refine wp_lt qf_177 ?_
  refine wp_of (f_X13_tick_10.eq_2 ..) ?_
  refine wp_ifn qf_301 ?_
  refine wp_gd (agK hK rfl ql_K_151) ?_
  refine wp_gd (gZi (agZ hZ rfl ql_Z_151) qf_105) ?_
  refine wp_lt (gRk qf_46 (agR hR rfl ql_R_151_3)) ?_
  refine wp_gd (agK hK rfl ql_K_164) ?_
  refine wp_bd ?_
  refine wp_of (f_X11_goesOn.eq_1 ..) ?_
  refine wp_gd (agK hK rfl ql_K_164) ?_
  refine wp_lt (agI hI rfl ql_I_164_13) ?_
  refine wp_ifp qf_15 ?_
  refine wp_ret_bd ?_
  refine wp_lt qf_227 ?_
  refine wp_of (f_X13_tick_10.eq_2 ..) ?_
  refine wp_ifp qf_302 ?_
  refine wp_gd (agK hK rfl ql_K_149) ?_
  refine wp_lt (agR hR rfl ql_R_149_2) ?_
  refine wp_gd (agK hK rfl ql_K_151) ?_
  refine wp_lt (gZo (agZ hZ rfl ql_Z_151) qf_92) ?_
  refine wp_of (f_X13_tick_51.eq_2 ..) ?_
  refine wp_ifn qf_298 ?_
  refine wp_gd (agK hK rfl ql_K_151) ?_
  refine wp_gd (gZi (agZ hZ rfl ql_Z_151) qf_97) ?_
  refine wp_lt (gRk qf_32 (agR hR rfl ql_R_151_0)) ?_
  refine wp_gd (agK hK rfl ql_K_149) ?_
  refine wp_bd ?_
  refine wp_of (f_X13_sounds.eq_1 ..) ?_
  refine wp_gd (agK hK rfl ql_K_149) ?_
  refine wp_bd ?_
  refine wp_of (f_X13_loudnessOf.eq_1 ..) ?_
  refine wp_gd (agK hK rfl ql_K_152) ?_
  refine wp_lt (agR hR rfl ql_R_152_0) ?_
  refine wp_ifp qf_87 ?_
  refine wp_of (f_X13_loudnessOf_51.eq_1 ..) ?_
  refine wp_ret_bd ?_
  refine wp_gd (agK hK rfl ql_K_152) ?_
  refine wp_lt (agR hR rfl ql_R_152_8) ?_
  refine wp_gd (agK hK rfl ql_K_155) ?_
  refine wp_bd ?_
  refine wp_of (f_Jx4a65c_iterator_32c93.eq_1 ..) ?_
  refine wp_gd (gNk (show N + 1 < KB from by unfold KB; omega)) ?_
  refine wp_zW (m := (N + 1)) rfl ?_
  refine wp_lt (show _ = (N + 1) from rfl) ?_
  refine wp_bd ?_
  refine wp_of (f_Jx35411_init_45d68.eq_1 ..) ?_
  refine wp_gd gK_n ?_
  refine wp_zR ?_
  refine wp_zI ?_
  refine wp_lt gR_s ?_
  refine wp_gd (Eq.trans (gK_w2 (nq hN rfl rfl)) (agK hK rfl ql_K_155)) ?_
  refine wp_lt (Eq.trans (gI_a2 (nq hN rfl rfl)) (Eq.trans (gI_w2 (nq hN rfl rfl)) (agI hI rfl ql_I_155_0))) ?_
  refine wp_zI ?_
  refine wp_ret_bd ?_
  refine wp_ret_bd ?_
  refine wp_of (f_X13_sounds_22.eq_2 ..) ?_
  refine wp_gd gK_n ?_
  refine wp_bd ?_
  refine wp_of (f_Jx35411_hasNext_aae02.eq_1 ..) ?_
  refine wp_gd gK_n ?_
  refine wp_lt (Eq.trans (gI_b rfl) (Eq.trans (gI_b rfl) gI_n)) ?_
  refine wp_lt gR_s ?_
  refine wp_gd (Eq.trans (gK_w2 (nq hN rfl rfl)) (agK hK rfl ql_K_155)) ?_
  refine wp_lt (Eq.trans (gI_a2 (nq hN rfl rfl)) (Eq.trans (gI_a2 (nq hN rfl rfl)) (Eq.trans (gI_w2 (nq hN rfl rfl)) (agI hI rfl ql_I_155_2)))) ?_
  refine wp_ifp qf_15 ?_
  refine wp_of (f_Jx35411_hasNext_aae02_19.eq_1 ..) ?_
  refine wp_gd qf_14 ?_
  refine wp_ret_bd ?_
  refine wp_ifp qf_15 ?_
  refine wp_ifp qf_15 ?_
  refine wp_of (f_X13_sounds_165.eq_1 ..) ?_
  refine wp_lt qf_242 ?_
  refine wp_of (f_X13_sounds_168.eq_1 ..) ?_
  refine wp_ret_bd ?_
  refine wp_lt qf_242 ?_
  refine wp_gd (Eq.trans (gK_w2 (nq hN rfl rfl)) (agK hK rfl ql_K_149)) ?_
  refine wp_bd ?_
  refine wp_of (f_X13_isHeard.eq_1 ..) ?_
  refine wp_gd (Eq.trans (gK_w2 (nq hN rfl rfl)) (agK hK rfl ql_K_149)) ?_
  refine wp_bd ?_
  refine wp_of (f_X13_levelOf.eq_1 ..) ?_
  refine wp_gd (Eq.trans (gK_w2 (nq hN rfl rfl)) (agK hK rfl ql_K_152)) ?_
  refine wp_lt (Eq.trans (gI_a2 (nq hN rfl rfl)) (Eq.trans (gI_a2 (nq hN rfl rfl)) (Eq.trans (gI_w2 (nq hN rfl rfl)) (agI hI rfl ql_I_152_15)))) ?_
  refine wp_ifn qf_179 ?_
  refine wp_lt (Eq.trans (gI_a2 (nq hN rfl rfl)) (Eq.trans (gI_a2 (nq hN rfl rfl)) (Eq.trans (gI_w2 (nq hN rfl rfl)) (agI hI rfl ql_I_152_15)))) ?_
  refine wp_ifn qf_163 ?_
  refine wp_of (f_X13_levelOf_49.eq_1 ..) ?_
  refine wp_gd (Eq.trans (gK_w2 (nq hN rfl rfl)) (agK hK rfl ql_K_152)) ?_
  refine wp_lt (Eq.trans (gI_a2 (nq hN rfl rfl)) (Eq.trans (gI_a2 (nq hN rfl rfl)) (Eq.trans (gI_w2 (nq hN rfl rfl)) (agI hI rfl ql_I_152_13)))) ?_
  refine wp_ifp qf_15 ?_
  refine wp_of (f_X13_levelOf_70.eq_1 ..) ?_
  refine wp_ret_bd ?_
  refine wp_ifp qf_303 ?_
  refine wp_of (f_X13_isHeard_15.eq_1 ..) ?_
  refine wp_gd qf_14 ?_
  refine wp_ret_bd ?_
  refine wp_ifp qf_15 ?_
  refine wp_of (f_X13_tick_160.eq_1 ..) ?_
  refine wp_lt qf_153 ?_
  refine wp_of (f_X13_tick_51.eq_2 ..) ?_
  refine wp_ifn qf_299 ?_
  refine wp_gd (Eq.trans (gK_w2 (nq hN rfl rfl)) (agK hK rfl ql_K_151)) ?_
  refine wp_gd (gZi (Eq.trans (gZ_w2 (nq hN rfl rfl)) (agZ hZ rfl ql_Z_151)) qf_99) ?_
  refine wp_lt (gRk qf_36 (Eq.trans (gR_a2 (nq hN rfl rfl)) (Eq.trans (gR_w2 (nq hN rfl rfl)) (agR hR rfl ql_R_151_1)))) ?_
  refine wp_gd (Eq.trans (gK_w2 (nq hN rfl rfl)) (agK hK rfl ql_K_149)) ?_
  refine wp_bd ?_
  refine wp_of (f_X13_sounds.eq_1 ..) ?_
  refine wp_gd (Eq.trans (gK_w2 (nq hN rfl rfl)) (agK hK rfl ql_K_149)) ?_
  refine wp_bd ?_
  refine wp_of (f_X13_loudnessOf.eq_1 ..) ?_
  refine wp_gd (Eq.trans (gK_w2 (nq hN rfl rfl)) (agK hK rfl ql_K_156)) ?_
  refine wp_lt (Eq.trans (gR_a2 (nq hN rfl rfl)) (Eq.trans (gR_w2 (nq hN rfl rfl)) (agR hR rfl ql_R_156_0))) ?_
  refine wp_ifp qf_87 ?_
  refine wp_of (f_X13_loudnessOf_51.eq_1 ..) ?_
  refine wp_ret_bd ?_
  refine wp_gd (Eq.trans (gK_w2 (nq hN rfl rfl)) (agK hK rfl ql_K_156)) ?_
  refine wp_lt (Eq.trans (gR_a2 (nq hN rfl rfl)) (Eq.trans (gR_w2 (nq hN rfl rfl)) (agR hR rfl ql_R_156_8))) ?_
  refine wp_gd (Eq.trans (gK_w2 (nq hN rfl rfl)) (agK hK rfl ql_K_159)) ?_
  refine wp_bd ?_
  refine wp_of (f_Jx4a65c_iterator_32c93.eq_1 ..) ?_
  refine wp_gd (gNk (show (N + 1) + 1 < KB from by unfold KB; omega)) ?_
  refine wp_zW (m := (N + 2)) rfl ?_
  refine wp_lt (show _ = (N + 2) from rfl) ?_
  refine wp_bd ?_
  refine wp_of (f_Jx35411_init_45d68.eq_1 ..) ?_
  refine wp_gd gK_n ?_
  refine wp_zR ?_
  refine wp_zI ?_
  refine wp_lt gR_s ?_
  refine wp_gd (Eq.trans (gK_w2 (nq hN rfl rfl)) (Eq.trans (gK_w2 (nq hN rfl rfl)) (agK hK rfl ql_K_159))) ?_
  refine wp_lt (Eq.trans (gI_a2 (nq hN rfl rfl)) (Eq.trans (gI_w2 (nq hN rfl rfl)) (Eq.trans (gI_a2 (nq hN rfl rfl)) (Eq.trans (gI_a2 (nq hN rfl rfl)) (Eq.trans (gI_w2 (nq hN rfl rfl)) (agI hI rfl ql_I_159_0)))))) ?_
  refine wp_zI ?_
  refine wp_ret_bd ?_
  refine wp_ret_bd ?_
  refine wp_of (f_X13_sounds_22.eq_2 ..) ?_
  refine wp_gd gK_n ?_
  refine wp_bd ?_
  refine wp_of (f_Jx35411_hasNext_aae02.eq_1 ..) ?_
  refine wp_gd gK_n ?_
  refine wp_lt (Eq.trans (gI_b rfl) (Eq.trans (gI_b rfl) gI_n)) ?_
  refine wp_lt gR_s ?_
  refine wp_gd (Eq.trans (gK_w2 (nq hN rfl rfl)) (Eq.trans (gK_w2 (nq hN rfl rfl)) (agK hK rfl ql_K_159))) ?_
  refine wp_lt (Eq.trans (gI_a2 (nq hN rfl rfl)) (Eq.trans (gI_a2 (nq hN rfl rfl)) (Eq.trans (gI_w2 (nq hN rfl rfl)) (Eq.trans (gI_a2 (nq hN rfl rfl)) (Eq.trans (gI_a2 (nq hN rfl rfl)) (Eq.trans (gI_w2 (nq hN rfl rfl)) (agI hI rfl ql_I_159_2))))))) ?_
  refine wp_ifp qf_15 ?_
  refine wp_of (f_Jx35411_hasNext_aae02_19.eq_1 ..) ?_
  refine wp_gd qf_14 ?_
  refine wp_ret_bd ?_
  refine wp_ifp qf_15 ?_
  refine wp_ifp qf_15 ?_
  refine wp_of (f_X13_sounds_165.eq_1 ..) ?_
  refine wp_lt qf_242 ?_
  refine wp_of (f_X13_sounds_168.eq_1 ..) ?_
  refine wp_ret_bd ?_
  refine wp_lt qf_242 ?_
  refine wp_gd (Eq.trans (gK_w2 (nq hN rfl rfl)) (Eq.trans (gK_w2 (nq hN rfl rfl)) (agK hK rfl ql_K_149))) ?_
  refine wp_bd ?_
  refine wp_of (f_X13_isHeard.eq_1 ..) ?_
  refine wp_gd (Eq.trans (gK_w2 (nq hN rfl rfl)) (Eq.trans (gK_w2 (nq hN rfl rfl)) (agK hK rfl ql_K_149))) ?_
  refine wp_bd ?_
  refine wp_of (f_X13_levelOf.eq_1 ..) ?_
  refine wp_gd (Eq.trans (gK_w2 (nq hN rfl rfl)) (Eq.trans (gK_w2 (nq hN rfl rfl)) (agK hK rfl ql_K_156))) ?_
  refine wp_lt (Eq.trans (gI_a2 (nq hN rfl rfl)) (Eq.trans (gI_a2 (nq hN rfl rfl)) (Eq.trans (gI_w2 (nq hN rfl rfl)) (Eq.trans (gI_a2 (nq hN rfl rfl)) (Eq.trans (gI_a2 (nq hN rfl rfl)) (Eq.trans (gI_w2 (nq hN rfl rfl)) (agI hI rfl ql_I_156_15))))))) ?_
  refine wp_ifn qf_179 ?_
  refine wp_lt (Eq.trans (gI_a2 (nq hN rfl rfl)) (Eq.trans (gI_a2 (nq hN rfl rfl)) (Eq.trans (gI_w2 (nq hN rfl rfl)) (Eq.trans (gI_a2 (nq hN rfl rfl)) (Eq.trans (gI_a2 (nq hN rfl rfl)) (Eq.trans (gI_w2 (nq hN rfl rfl)) (agI hI rfl ql_I_156_15))))))) ?_
  refine wp_ifn qf_163 ?_
  refine wp_of (f_X13_levelOf_49.eq_1 ..) ?_
  refine wp_gd (Eq.trans (gK_w2 (nq hN rfl rfl)) (Eq.trans (gK_w2 (nq hN rfl rfl)) (agK hK rfl ql_K_156))) ?_
  refine wp_lt (Eq.trans (gI_a2 (nq hN rfl rfl)) (Eq.trans (gI_a2 (nq hN rfl rfl)) (Eq.trans (gI_w2 (nq hN rfl rfl)) (Eq.trans (gI_a2 (nq hN rfl rfl)) (Eq.trans (gI_a2 (nq hN rfl rfl)) (Eq.trans (gI_w2 (nq hN rfl rfl)) (agI hI rfl ql_I_156_13))))))) ?_
  refine wp_ifp qf_15 ?_
  refine wp_of (f_X13_levelOf_70.eq_1 ..) ?_
  refine wp_ret_bd ?_
  refine wp_ifp qf_303 ?_
  refine wp_of (f_X13_isHeard_15.eq_1 ..) ?_
  refine wp_gd qf_14 ?_
  refine wp_ret_bd ?_
  refine wp_ifp qf_15 ?_
  refine wp_of (f_X13_tick_160.eq_1 ..) ?_
  refine wp_lt qf_164 ?_
  refine wp_of (f_X13_tick_51.eq_2 ..) ?_
  refine wp_ifn qf_300 ?_
  refine wp_gd (Eq.trans (gK_w2 (nq hN rfl rfl)) (Eq.trans (gK_w2 (nq hN rfl rfl)) (agK hK rfl ql_K_151))) ?_
  refine wp_gd (gZi (Eq.trans (gZ_w2 (nq hN rfl rfl)) (Eq.trans (gZ_w2 (nq hN rfl rfl)) (agZ hZ rfl ql_Z_151))) qf_102) ?_
  refine wp_lt (gRk qf_41 (Eq.trans (gR_a2 (nq hN rfl rfl)) (Eq.trans (gR_w2 (nq hN rfl rfl)) (Eq.trans (gR_a2 (nq hN rfl rfl)) (Eq.trans (gR_w2 (nq hN rfl rfl)) (agR hR rfl ql_R_151_2)))))) ?_
  refine wp_gd (Eq.trans (gK_w2 (nq hN rfl rfl)) (Eq.trans (gK_w2 (nq hN rfl rfl)) (agK hK rfl ql_K_149))) ?_
  refine wp_bd ?_
  refine wp_of (f_X13_sounds.eq_1 ..) ?_
  refine wp_gd (Eq.trans (gK_w2 (nq hN rfl rfl)) (Eq.trans (gK_w2 (nq hN rfl rfl)) (agK hK rfl ql_K_149))) ?_
  refine wp_bd ?_
  refine wp_of (f_X13_loudnessOf.eq_1 ..) ?_
  refine wp_gd (Eq.trans (gK_w2 (nq hN rfl rfl)) (Eq.trans (gK_w2 (nq hN rfl rfl)) (agK hK rfl ql_K_160))) ?_
  refine wp_lt (Eq.trans (gR_a2 (nq hN rfl rfl)) (Eq.trans (gR_w2 (nq hN rfl rfl)) (Eq.trans (gR_a2 (nq hN rfl rfl)) (Eq.trans (gR_w2 (nq hN rfl rfl)) (agR hR rfl ql_R_160_0))))) ?_
  refine wp_ifp qf_87 ?_
  refine wp_of (f_X13_loudnessOf_51.eq_1 ..) ?_
  refine wp_ret_bd ?_
  refine wp_gd (Eq.trans (gK_w2 (nq hN rfl rfl)) (Eq.trans (gK_w2 (nq hN rfl rfl)) (agK hK rfl ql_K_160))) ?_
  refine wp_lt (Eq.trans (gR_a2 (nq hN rfl rfl)) (Eq.trans (gR_w2 (nq hN rfl rfl)) (Eq.trans (gR_a2 (nq hN rfl rfl)) (Eq.trans (gR_w2 (nq hN rfl rfl)) (agR hR rfl ql_R_160_8))))) ?_
  refine wp_gd (Eq.trans (gK_w2 (nq hN rfl rfl)) (Eq.trans (gK_w2 (nq hN rfl rfl)) (agK hK rfl ql_K_163))) ?_
  refine wp_bd ?_
  refine wp_of (f_Jx4a65c_iterator_32c93.eq_1 ..) ?_
  refine wp_gd (gNk (show (N + 2) + 1 < KB from by unfold KB; omega)) ?_
  refine wp_zW (m := (N + 3)) rfl ?_
  refine wp_lt (show _ = (N + 3) from rfl) ?_
  refine wp_bd ?_
  refine wp_of (f_Jx35411_init_45d68.eq_1 ..) ?_
  refine wp_gd gK_n ?_
  refine wp_zR ?_
  refine wp_zI ?_
  refine wp_lt gR_s ?_
  refine wp_gd (Eq.trans (gK_w2 (nq hN rfl rfl)) (Eq.trans (gK_w2 (nq hN rfl rfl)) (Eq.trans (gK_w2 (nq hN rfl rfl)) (agK hK rfl ql_K_163)))) ?_
  refine wp_lt (Eq.trans (gI_a2 (nq hN rfl rfl)) (Eq.trans (gI_w2 (nq hN rfl rfl)) (Eq.trans (gI_a2 (nq hN rfl rfl)) (Eq.trans (gI_a2 (nq hN rfl rfl)) (Eq.trans (gI_w2 (nq hN rfl rfl)) (Eq.trans (gI_a2 (nq hN rfl rfl)) (Eq.trans (gI_a2 (nq hN rfl rfl)) (Eq.trans (gI_w2 (nq hN rfl rfl)) (agI hI rfl ql_I_163_0))))))))) ?_
  refine wp_zI ?_
  refine wp_ret_bd ?_
  refine wp_ret_bd ?_
  refine wp_of (f_X13_sounds_22.eq_2 ..) ?_
  refine wp_gd gK_n ?_
  refine wp_bd ?_
  refine wp_of (f_Jx35411_hasNext_aae02.eq_1 ..) ?_
  refine wp_gd gK_n ?_
  refine wp_lt (Eq.trans (gI_b rfl) (Eq.trans (gI_b rfl) gI_n)) ?_
  refine wp_lt gR_s ?_
  refine wp_gd (Eq.trans (gK_w2 (nq hN rfl rfl)) (Eq.trans (gK_w2 (nq hN rfl rfl)) (Eq.trans (gK_w2 (nq hN rfl rfl)) (agK hK rfl ql_K_163)))) ?_
  refine wp_lt (Eq.trans (gI_a2 (nq hN rfl rfl)) (Eq.trans (gI_a2 (nq hN rfl rfl)) (Eq.trans (gI_w2 (nq hN rfl rfl)) (Eq.trans (gI_a2 (nq hN rfl rfl)) (Eq.trans (gI_a2 (nq hN rfl rfl)) (Eq.trans (gI_w2 (nq hN rfl rfl)) (Eq.trans (gI_a2 (nq hN rfl rfl)) (Eq.trans (gI_a2 (nq hN rfl rfl)) (Eq.trans (gI_w2 (nq hN rfl rfl)) (agI hI rfl ql_I_163_2)))))))))) ?_
  refine wp_ifp qf_15 ?_
  refine wp_of (f_Jx35411_hasNext_aae02_19.eq_1 ..) ?_
  refine wp_gd qf_14 ?_
  refine wp_ret_bd ?_
  refine wp_ifp qf_15 ?_
  refine wp_ifp qf_15 ?_
  refine wp_of (f_X13_sounds_165.eq_1 ..) ?_
  refine wp_lt qf_242 ?_
  refine wp_of (f_X13_sounds_168.eq_1 ..) ?_
  refine wp_ret_bd ?_
  refine wp_lt qf_242 ?_
  refine wp_gd (Eq.trans (gK_w2 (nq hN rfl rfl)) (Eq.trans (gK_w2 (nq hN rfl rfl)) (Eq.trans (gK_w2 (nq hN rfl rfl)) (agK hK rfl ql_K_149)))) ?_
  refine wp_bd ?_
  refine wp_of (f_X13_isHeard.eq_1 ..) ?_
  refine wp_gd (Eq.trans (gK_w2 (nq hN rfl rfl)) (Eq.trans (gK_w2 (nq hN rfl rfl)) (Eq.trans (gK_w2 (nq hN rfl rfl)) (agK hK rfl ql_K_149)))) ?_
  refine wp_bd ?_
  refine wp_of (f_X13_levelOf.eq_1 ..) ?_
  refine wp_gd (Eq.trans (gK_w2 (nq hN rfl rfl)) (Eq.trans (gK_w2 (nq hN rfl rfl)) (Eq.trans (gK_w2 (nq hN rfl rfl)) (agK hK rfl ql_K_160)))) ?_
  refine wp_lt (Eq.trans (gI_a2 (nq hN rfl rfl)) (Eq.trans (gI_a2 (nq hN rfl rfl)) (Eq.trans (gI_w2 (nq hN rfl rfl)) (Eq.trans (gI_a2 (nq hN rfl rfl)) (Eq.trans (gI_a2 (nq hN rfl rfl)) (Eq.trans (gI_w2 (nq hN rfl rfl)) (Eq.trans (gI_a2 (nq hN rfl rfl)) (Eq.trans (gI_a2 (nq hN rfl rfl)) (Eq.trans (gI_w2 (nq hN rfl rfl)) (agI hI rfl ql_I_160_15)))))))))) ?_
  refine wp_ifn qf_179 ?_
  refine wp_lt (Eq.trans (gI_a2 (nq hN rfl rfl)) (Eq.trans (gI_a2 (nq hN rfl rfl)) (Eq.trans (gI_w2 (nq hN rfl rfl)) (Eq.trans (gI_a2 (nq hN rfl rfl)) (Eq.trans (gI_a2 (nq hN rfl rfl)) (Eq.trans (gI_w2 (nq hN rfl rfl)) (Eq.trans (gI_a2 (nq hN rfl rfl)) (Eq.trans (gI_a2 (nq hN rfl rfl)) (Eq.trans (gI_w2 (nq hN rfl rfl)) (agI hI rfl ql_I_160_15)))))))))) ?_
  refine wp_ifn qf_163 ?_
  refine wp_of (f_X13_levelOf_49.eq_1 ..) ?_
  refine wp_gd (Eq.trans (gK_w2 (nq hN rfl rfl)) (Eq.trans (gK_w2 (nq hN rfl rfl)) (Eq.trans (gK_w2 (nq hN rfl rfl)) (agK hK rfl ql_K_160)))) ?_
  refine wp_lt (Eq.trans (gI_a2 (nq hN rfl rfl)) (Eq.trans (gI_a2 (nq hN rfl rfl)) (Eq.trans (gI_w2 (nq hN rfl rfl)) (Eq.trans (gI_a2 (nq hN rfl rfl)) (Eq.trans (gI_a2 (nq hN rfl rfl)) (Eq.trans (gI_w2 (nq hN rfl rfl)) (Eq.trans (gI_a2 (nq hN rfl rfl)) (Eq.trans (gI_a2 (nq hN rfl rfl)) (Eq.trans (gI_w2 (nq hN rfl rfl)) (agI hI rfl ql_I_160_13)))))))))) ?_
  refine wp_ifp qf_15 ?_
  refine wp_of (f_X13_levelOf_70.eq_1 ..) ?_
  refine wp_ret_bd ?_
  refine wp_ifp qf_303 ?_
  refine wp_of (f_X13_isHeard_15.eq_1 ..) ?_
  refine wp_gd qf_14 ?_
  refine wp_ret_bd ?_
  refine wp_ifp qf_15 ?_
  refine wp_of (f_X13_tick_160.eq_1 ..) ?_
  refine wp_lt qf_177 ?_
  refine wp_of (f_X13_tick_51.eq_2 ..) ?_
  refine wp_ifn qf_301 ?_
  refine wp_gd (Eq.trans (gK_w2 (nq hN rfl rfl)) (Eq.trans (gK_w2 (nq hN rfl rfl)) (Eq.trans (gK_w2 (nq hN rfl rfl)) (agK hK rfl ql_K_151)))) ?_
  refine wp_gd (gZi (Eq.trans (gZ_w2 (nq hN rfl rfl)) (Eq.trans (gZ_w2 (nq hN rfl rfl)) (Eq.trans (gZ_w2 (nq hN rfl rfl)) (agZ hZ rfl ql_Z_151)))) qf_105) ?_
  refine wp_lt (gRk qf_46 (Eq.trans (gR_a2 (nq hN rfl rfl)) (Eq.trans (gR_w2 (nq hN rfl rfl)) (Eq.trans (gR_a2 (nq hN rfl rfl)) (Eq.trans (gR_w2 (nq hN rfl rfl)) (Eq.trans (gR_a2 (nq hN rfl rfl)) (Eq.trans (gR_w2 (nq hN rfl rfl)) (agR hR rfl ql_R_151_3)))))))) ?_
  refine wp_gd (Eq.trans (gK_w2 (nq hN rfl rfl)) (Eq.trans (gK_w2 (nq hN rfl rfl)) (Eq.trans (gK_w2 (nq hN rfl rfl)) (agK hK rfl ql_K_149)))) ?_
  refine wp_bd ?_
  refine wp_of (f_X13_sounds.eq_1 ..) ?_
  refine wp_gd (Eq.trans (gK_w2 (nq hN rfl rfl)) (Eq.trans (gK_w2 (nq hN rfl rfl)) (Eq.trans (gK_w2 (nq hN rfl rfl)) (agK hK rfl ql_K_149)))) ?_
  refine wp_bd ?_
  refine wp_of (f_X13_loudnessOf.eq_1 ..) ?_
  refine wp_gd (Eq.trans (gK_w2 (nq hN rfl rfl)) (Eq.trans (gK_w2 (nq hN rfl rfl)) (Eq.trans (gK_w2 (nq hN rfl rfl)) (agK hK rfl ql_K_164)))) ?_
  refine wp_lt (Eq.trans (gR_a2 (nq hN rfl rfl)) (Eq.trans (gR_w2 (nq hN rfl rfl)) (Eq.trans (gR_a2 (nq hN rfl rfl)) (Eq.trans (gR_w2 (nq hN rfl rfl)) (Eq.trans (gR_a2 (nq hN rfl rfl)) (Eq.trans (gR_w2 (nq hN rfl rfl)) (agR hR rfl ql_R_164_0))))))) ?_
  refine wp_ifp qf_87 ?_
  refine wp_of (f_X13_loudnessOf_51.eq_1 ..) ?_
  refine wp_ret_bd ?_
  refine wp_gd (Eq.trans (gK_w2 (nq hN rfl rfl)) (Eq.trans (gK_w2 (nq hN rfl rfl)) (Eq.trans (gK_w2 (nq hN rfl rfl)) (agK hK rfl ql_K_164)))) ?_
  refine wp_lt (Eq.trans (gR_a2 (nq hN rfl rfl)) (Eq.trans (gR_w2 (nq hN rfl rfl)) (Eq.trans (gR_a2 (nq hN rfl rfl)) (Eq.trans (gR_w2 (nq hN rfl rfl)) (Eq.trans (gR_a2 (nq hN rfl rfl)) (Eq.trans (gR_w2 (nq hN rfl rfl)) (agR hR rfl ql_R_164_8))))))) ?_
  refine wp_gd (Eq.trans (gK_w2 (nq hN rfl rfl)) (Eq.trans (gK_w2 (nq hN rfl rfl)) (Eq.trans (gK_w2 (nq hN rfl rfl)) (agK hK rfl ql_K_167)))) ?_
  refine wp_bd ?_
  refine wp_of (f_Jx4a65c_iterator_32c93.eq_1 ..) ?_
  refine wp_gd (gNk (show (N + 3) + 1 < KB from by unfold KB; omega)) ?_
  refine wp_zW (m := (N + 4)) rfl ?_
  refine wp_lt (show _ = (N + 4) from rfl) ?_
  refine wp_bd ?_
  refine wp_of (f_Jx35411_init_45d68.eq_1 ..) ?_
  refine wp_gd gK_n ?_
  refine wp_zR ?_
  refine wp_zI ?_
  refine wp_lt gR_s ?_
  refine wp_gd (Eq.trans (gK_w2 (nq hN rfl rfl)) (Eq.trans (gK_w2 (nq hN rfl rfl)) (Eq.trans (gK_w2 (nq hN rfl rfl)) (Eq.trans (gK_w2 (nq hN rfl rfl)) (agK hK rfl ql_K_167))))) ?_
  refine wp_lt (Eq.trans (gI_a2 (nq hN rfl rfl)) (Eq.trans (gI_w2 (nq hN rfl rfl)) (Eq.trans (gI_a2 (nq hN rfl rfl)) (Eq.trans (gI_a2 (nq hN rfl rfl)) (Eq.trans (gI_w2 (nq hN rfl rfl)) (Eq.trans (gI_a2 (nq hN rfl rfl)) (Eq.trans (gI_a2 (nq hN rfl rfl)) (Eq.trans (gI_w2 (nq hN rfl rfl)) (Eq.trans (gI_a2 (nq hN rfl rfl)) (Eq.trans (gI_a2 (nq hN rfl rfl)) (Eq.trans (gI_w2 (nq hN rfl rfl)) (agI hI rfl ql_I_167_0)))))))))))) ?_
  refine wp_zI ?_
  refine wp_ret_bd ?_
  refine wp_ret_bd ?_
  refine wp_of (f_X13_sounds_22.eq_2 ..) ?_
  refine wp_gd gK_n ?_
  refine wp_bd ?_
  refine wp_of (f_Jx35411_hasNext_aae02.eq_1 ..) ?_
  refine wp_gd gK_n ?_
  refine wp_lt (Eq.trans (gI_b rfl) (Eq.trans (gI_b rfl) gI_n)) ?_
  refine wp_lt gR_s ?_
  refine wp_gd (Eq.trans (gK_w2 (nq hN rfl rfl)) (Eq.trans (gK_w2 (nq hN rfl rfl)) (Eq.trans (gK_w2 (nq hN rfl rfl)) (Eq.trans (gK_w2 (nq hN rfl rfl)) (agK hK rfl ql_K_167))))) ?_
  refine wp_lt (Eq.trans (gI_a2 (nq hN rfl rfl)) (Eq.trans (gI_a2 (nq hN rfl rfl)) (Eq.trans (gI_w2 (nq hN rfl rfl)) (Eq.trans (gI_a2 (nq hN rfl rfl)) (Eq.trans (gI_a2 (nq hN rfl rfl)) (Eq.trans (gI_w2 (nq hN rfl rfl)) (Eq.trans (gI_a2 (nq hN rfl rfl)) (Eq.trans (gI_a2 (nq hN rfl rfl)) (Eq.trans (gI_w2 (nq hN rfl rfl)) (Eq.trans (gI_a2 (nq hN rfl rfl)) (Eq.trans (gI_a2 (nq hN rfl rfl)) (Eq.trans (gI_w2 (nq hN rfl rfl)) (agI hI rfl ql_I_167_2))))))))))))) ?_
  refine wp_ifp qf_15 ?_
  refine wp_of (f_Jx35411_hasNext_aae02_19.eq_1 ..) ?_
  refine wp_gd qf_14 ?_
  refine wp_ret_bd ?_
  refine wp_ifp qf_15 ?_
  refine wp_ifp qf_15 ?_
  refine wp_of (f_X13_sounds_165.eq_1 ..) ?_
  refine wp_lt qf_242 ?_
  refine wp_of (f_X13_sounds_168.eq_1 ..) ?_
  refine wp_ret_bd ?_
  refine wp_lt qf_242 ?_
  refine wp_gd (Eq.trans (gK_w2 (nq hN rfl rfl)) (Eq.trans (gK_w2 (nq hN rfl rfl)) (Eq.trans (gK_w2 (nq hN rfl rfl)) (Eq.trans (gK_w2 (nq hN rfl rfl)) (agK hK rfl ql_K_149))))) ?_
  refine wp_bd ?_
  refine wp_of (f_X13_isHeard.eq_1 ..) ?_
  refine wp_gd (Eq.trans (gK_w2 (nq hN rfl rfl)) (Eq.trans (gK_w2 (nq hN rfl rfl)) (Eq.trans (gK_w2 (nq hN rfl rfl)) (Eq.trans (gK_w2 (nq hN rfl rfl)) (agK hK rfl ql_K_149))))) ?_
  refine wp_bd ?_
  refine wp_of (f_X13_levelOf.eq_1 ..) ?_
  refine wp_gd (Eq.trans (gK_w2 (nq hN rfl rfl)) (Eq.trans (gK_w2 (nq hN rfl rfl)) (Eq.trans (gK_w2 (nq hN rfl rfl)) (Eq.trans (gK_w2 (nq hN rfl rfl)) (agK hK rfl ql_K_164))))) ?_
  refine wp_lt (Eq.trans (gI_a2 (nq hN rfl rfl)) (Eq.trans (gI_a2 (nq hN rfl rfl)) (Eq.trans (gI_w2 (nq hN rfl rfl)) (Eq.trans (gI_a2 (nq hN rfl rfl)) (Eq.trans (gI_a2 (nq hN rfl rfl)) (Eq.trans (gI_w2 (nq hN rfl rfl)) (Eq.trans (gI_a2 (nq hN rfl rfl)) (Eq.trans (gI_a2 (nq hN rfl rfl)) (Eq.trans (gI_w2 (nq hN rfl rfl)) (Eq.trans (gI_a2 (nq hN rfl rfl)) (Eq.trans (gI_a2 (nq hN rfl rfl)) (Eq.trans (gI_w2 (nq hN rfl rfl)) (agI hI rfl ql_I_164_15))))))))))))) ?_
  refine wp_ifn qf_179 ?_
  refine wp_lt (Eq.trans (gI_a2 (nq hN rfl rfl)) (Eq.trans (gI_a2 (nq hN rfl rfl)) (Eq.trans (gI_w2 (nq hN rfl rfl)) (Eq.trans (gI_a2 (nq hN rfl rfl)) (Eq.trans (gI_a2 (nq hN rfl rfl)) (Eq.trans (gI_w2 (nq hN rfl rfl)) (Eq.trans (gI_a2 (nq hN rfl rfl)) (Eq.trans (gI_a2 (nq hN rfl rfl)) (Eq.trans (gI_w2 (nq hN rfl rfl)) (Eq.trans (gI_a2 (nq hN rfl rfl)) (Eq.trans (gI_a2 (nq hN rfl rfl)) (Eq.trans (gI_w2 (nq hN rfl rfl)) (agI hI rfl ql_I_164_15))))))))))))) ?_
  refine wp_ifn qf_163 ?_
  refine wp_of (f_X13_levelOf_49.eq_1 ..) ?_
  refine wp_gd (Eq.trans (gK_w2 (nq hN rfl rfl)) (Eq.trans (gK_w2 (nq hN rfl rfl)) (Eq.trans (gK_w2 (nq hN rfl rfl)) (Eq.trans (gK_w2 (nq hN rfl rfl)) (agK hK rfl ql_K_164))))) ?_
  refine wp_lt (Eq.trans (gI_a2 (nq hN rfl rfl)) (Eq.trans (gI_a2 (nq hN rfl rfl)) (Eq.trans (gI_w2 (nq hN rfl rfl)) (Eq.trans (gI_a2 (nq hN rfl rfl)) (Eq.trans (gI_a2 (nq hN rfl rfl)) (Eq.trans (gI_w2 (nq hN rfl rfl)) (Eq.trans (gI_a2 (nq hN rfl rfl)) (Eq.trans (gI_a2 (nq hN rfl rfl)) (Eq.trans (gI_w2 (nq hN rfl rfl)) (Eq.trans (gI_a2 (nq hN rfl rfl)) (Eq.trans (gI_a2 (nq hN rfl rfl)) (Eq.trans (gI_w2 (nq hN rfl rfl)) (agI hI rfl ql_I_164_13))))))))))))) ?_
  refine wp_ifp qf_15 ?_
  refine wp_of (f_X13_levelOf_70.eq_1 ..) ?_
  refine wp_ret_bd ?_
  refine wp_ifp qf_303 ?_
  refine wp_of (f_X13_isHeard_15.eq_1 ..) ?_
  refine wp_gd qf_14 ?_
  refine wp_ret_bd ?_
  refine wp_ifp qf_15 ?_
  refine wp_of (f_X13_tick_160.eq_1 ..) ?_
  refine wp_lt qf_227 ?_
  refine wp_of (f_X13_tick_51.eq_2 ..) ?_
  refine wp_ifp qf_302 ?_
  refine wp_lt qf_409 ?_
  refine wp_gd (Eq.trans (gK_w2 (nq hN rfl rfl)) (Eq.trans (gK_w2 (nq hN rfl rfl)) (Eq.trans (gK_w2 (nq hN rfl rfl)) (Eq.trans (gK_w2 (nq hN rfl rfl)) (agK hK rfl ql_K_149))))) ?_
  refine wp_zI ?_
  refine wp_lt (Eq.trans (gI_b rfl) (Eq.trans (gI_a2 (nq hN rfl rfl)) (Eq.trans (gI_a2 (nq hN rfl rfl)) (Eq.trans (gI_w2 (nq hN rfl rfl)) (Eq.trans (gI_a2 (nq hN rfl rfl)) (Eq.trans (gI_a2 (nq hN rfl rfl)) (Eq.trans (gI_w2 (nq hN rfl rfl)) (Eq.trans (gI_a2 (nq hN rfl rfl)) (Eq.trans (gI_a2 (nq hN rfl rfl)) (Eq.trans (gI_w2 (nq hN rfl rfl)) (Eq.trans (gI_a2 (nq hN rfl rfl)) (Eq.trans (gI_a2 (nq hN rfl rfl)) (Eq.trans (gI_w2 (nq hN rfl rfl)) hu))))))))))))) ?_
  refine wp_lt gI_s ?_
  refine wp_ifp qf_15 ?_
  refine wp_of (f_X13_tick_194.eq_1 ..) ?_
  refine wp_ltr ?_
  refine wp_gd (Eq.trans (gK_w2 (nq hN rfl rfl)) (Eq.trans (gK_w2 (nq hN rfl rfl)) (Eq.trans (gK_w2 (nq hN rfl rfl)) (Eq.trans (gK_w2 (nq hN rfl rfl)) (agK hK rfl ql_K_149))))) ?_
  refine wp_zI ?_
  refine wp_gd (Eq.trans (gK_w2 (nq hN rfl rfl)) (Eq.trans (gK_w2 (nq hN rfl rfl)) (Eq.trans (gK_w2 (nq hN rfl rfl)) (Eq.trans (gK_w2 (nq hN rfl rfl)) (agK hK rfl ql_K_149))))) ?_
  refine wp_lt (Eq.trans (gI_b rfl) (Eq.trans (gI_b rfl) (Eq.trans (gI_a2 (nq hN rfl rfl)) (Eq.trans (gI_a2 (nq hN rfl rfl)) (Eq.trans (gI_w2 (nq hN rfl rfl)) (Eq.trans (gI_a2 (nq hN rfl rfl)) (Eq.trans (gI_a2 (nq hN rfl rfl)) (Eq.trans (gI_w2 (nq hN rfl rfl)) (Eq.trans (gI_a2 (nq hN rfl rfl)) (Eq.trans (gI_a2 (nq hN rfl rfl)) (Eq.trans (gI_w2 (nq hN rfl rfl)) (Eq.trans (gI_a2 (nq hN rfl rfl)) (Eq.trans (gI_a2 (nq hN rfl rfl)) (Eq.trans (gI_w2 (nq hN rfl rfl)) (agI hI rfl ql_I_149_12))))))))))))))) ?_
  refine wp_ifp qf_157 ?_
  refine wp_of (f_X13_tick_213.eq_1 ..) ?_
  refine wp_lt qf_242 ?_
  refine wp_gd (Eq.trans (gK_w2 (nq hN rfl rfl)) (Eq.trans (gK_w2 (nq hN rfl rfl)) (Eq.trans (gK_w2 (nq hN rfl rfl)) (Eq.trans (gK_w2 (nq hN rfl rfl)) (agK hK rfl ql_K_149))))) ?_
  refine wp_zI ?_
  refine wp_gd (Eq.trans (gK_w2 (nq hN rfl rfl)) (Eq.trans (gK_w2 (nq hN rfl rfl)) (Eq.trans (gK_w2 (nq hN rfl rfl)) (Eq.trans (gK_w2 (nq hN rfl rfl)) (agK hK rfl ql_K_149))))) ?_
  refine wp_lt (Eq.trans (gI_b rfl) (Eq.trans (gI_b rfl) (Eq.trans (gI_b rfl) (Eq.trans (gI_a2 (nq hN rfl rfl)) (Eq.trans (gI_a2 (nq hN rfl rfl)) (Eq.trans (gI_w2 (nq hN rfl rfl)) (Eq.trans (gI_a2 (nq hN rfl rfl)) (Eq.trans (gI_a2 (nq hN rfl rfl)) (Eq.trans (gI_w2 (nq hN rfl rfl)) (Eq.trans (gI_a2 (nq hN rfl rfl)) (Eq.trans (gI_a2 (nq hN rfl rfl)) (Eq.trans (gI_w2 (nq hN rfl rfl)) (Eq.trans (gI_a2 (nq hN rfl rfl)) (Eq.trans (gI_a2 (nq hN rfl rfl)) (Eq.trans (gI_w2 (nq hN rfl rfl)) (agI hI rfl ql_I_149_13)))))))))))))))) ?_
  refine wp_ifp qf_157 ?_
  refine wp_of (f_X13_tick_232.eq_1 ..) ?_
  refine wp_lt qf_242 ?_
  refine wp_gd (Eq.trans (gK_w2 (nq hN rfl rfl)) (Eq.trans (gK_w2 (nq hN rfl rfl)) (Eq.trans (gK_w2 (nq hN rfl rfl)) (Eq.trans (gK_w2 (nq hN rfl rfl)) (agK hK rfl ql_K_149))))) ?_
  refine wp_zI ?_
  refine wp_gd (Eq.trans (gK_w2 (nq hN rfl rfl)) (Eq.trans (gK_w2 (nq hN rfl rfl)) (Eq.trans (gK_w2 (nq hN rfl rfl)) (Eq.trans (gK_w2 (nq hN rfl rfl)) (agK hK rfl ql_K_149))))) ?_
  refine wp_lt (Eq.trans (gL_w2 (nq hN rfl rfl)) (Eq.trans (gL_w2 (nq hN rfl rfl)) (Eq.trans (gL_w2 (nq hN rfl rfl)) (Eq.trans (gL_w2 (nq hN rfl rfl)) (agL hL rfl ql_L_149_18))))) ?_
  refine wp_lt (Eq.trans (gI_b rfl) (Eq.trans (gI_b rfl) (Eq.trans (gI_b rfl) gI_s))) ?_
  refine wp_lt qf_70 ?_
  refine wp_lt qf_391 ?_
  refine wp_zL ?_
  refine wp_lt (Eq.trans (gL_b rfl) (Eq.trans (gL_w2 (nq hN rfl rfl)) (Eq.trans (gL_w2 (nq hN rfl rfl)) (Eq.trans (gL_w2 (nq hN rfl rfl)) (Eq.trans (gL_w2 (nq hN rfl rfl)) (agL hL rfl ql_L_149_19)))))) ?_
  refine wp_lt (Eq.trans (gI_b rfl) (Eq.trans (gI_b rfl) (Eq.trans (gI_b rfl) gI_s))) ?_
  refine wp_lt qf_70 ?_
  refine wp_lt qf_391 ?_
  refine wp_zL ?_
  refine wp_lt (Eq.trans (gI_b rfl) (Eq.trans (gI_b rfl) (Eq.trans (gI_b rfl) (Eq.trans (gI_b rfl) (Eq.trans (gI_a2 (nq hN rfl rfl)) (Eq.trans (gI_a2 (nq hN rfl rfl)) (Eq.trans (gI_w2 (nq hN rfl rfl)) (Eq.trans (gI_a2 (nq hN rfl rfl)) (Eq.trans (gI_a2 (nq hN rfl rfl)) (Eq.trans (gI_w2 (nq hN rfl rfl)) (Eq.trans (gI_a2 (nq hN rfl rfl)) (Eq.trans (gI_a2 (nq hN rfl rfl)) (Eq.trans (gI_w2 (nq hN rfl rfl)) (Eq.trans (gI_a2 (nq hN rfl rfl)) (Eq.trans (gI_a2 (nq hN rfl rfl)) (Eq.trans (gI_w2 (nq hN rfl rfl)) ht)))))))))))))))) ?_
  refine wp_ltr ?_
  refine wp_zI ?_
  refine wp_lt gI_s ?_
  refine wp_gd qf_393 ?_
  refine wp_ltr ?_
  refine wp_if (fun c1 => ?_) (fun c1 => ?_)
  · skip
    refine wp_bd ?_
    refine r_dance ⟨(ag_p2 rfl (ag_p2s (lkI ql_I_149_13) (ag_p2s (lkI ql_I_149_12) (ag_p2 rfl (ag_p2s (lkI ql_I_149_10) (ag_p2 (okR_big (bq hN rfl)) (ag_p2 (okR_big (bq hN rfl)) (ag_pt (fun _ => okR_big (bq hN rfl)) (ag_p2 (okR_big (bq hN rfl)) (ag_p2 (okR_big (bq hN rfl)) (ag_pt (fun _ => okR_big (bq hN rfl)) (ag_p2 (okR_big (bq hN rfl)) (ag_p2 (okR_big (bq hN rfl)) (ag_pt (fun _ => okR_big (bq hN rfl)) (ag_p2 (okR_big (bq hN rfl)) (ag_p2 (okR_big (bq hN rfl)) (ag_pt (fun _ => okR_big (bq hN rfl)) hI))))))))))))))))), (ag_p2s (lkL ql_L_149_19) (ag_p2s (lkL ql_L_149_18) (ag_pt (fun _ => okH_big (bq hN rfl)) (ag_pt (fun _ => okH_big (bq hN rfl)) (ag_pt (fun _ => okH_big (bq hN rfl)) (ag_pt (fun _ => okH_big (bq hN rfl)) hL)))))), (ag_p2 (okG_big (bq hN rfl)) (ag_pt (fun _ => okG_big (bq hN rfl)) (ag_p2 (okG_big (bq hN rfl)) (ag_pt (fun _ => okG_big (bq hN rfl)) (ag_p2 (okG_big (bq hN rfl)) (ag_pt (fun _ => okG_big (bq hN rfl)) (ag_p2 (okG_big (bq hN rfl)) (ag_pt (fun _ => okG_big (bq hN rfl)) hR)))))))), (ak_pt (bq hN rfl) (ak_pt (bq hN rfl) (ak_pt (bq hN rfl) (ak_pt (bq hN rfl) hK)))), (ak_pt (bq hN rfl) (ak_pt (bq hN rfl) (ak_pt (bq hN rfl) (ak_pt (bq hN rfl) hZ)))), (Eq.trans (gL_a rfl) (Eq.trans (gL_a rfl) (Eq.trans (gL_w2 (nq hN rfl rfl)) (Eq.trans (gL_w2 (nq hN rfl rfl)) (Eq.trans (gL_w2 (nq hN rfl rfl)) (Eq.trans (gL_w2 (nq hN rfl rfl)) hw)))))), gI_s, (Eq.trans (gI_b rfl) (Eq.trans (gI_b rfl) (Eq.trans (gI_b rfl) gI_s))), (Eq.trans (gI_a rfl) (Eq.trans (gI_a rfl) (Eq.trans (gI_a rfl) (Eq.trans (gI_a rfl) (Eq.trans (gI_a rfl) (Eq.trans (gI_a2 (nq hN rfl rfl)) (Eq.trans (gI_a2 (nq hN rfl rfl)) (Eq.trans (gI_w2 (nq hN rfl rfl)) (Eq.trans (gI_a2 (nq hN rfl rfl)) (Eq.trans (gI_a2 (nq hN rfl rfl)) (Eq.trans (gI_w2 (nq hN rfl rfl)) (Eq.trans (gI_a2 (nq hN rfl rfl)) (Eq.trans (gI_a2 (nq hN rfl rfl)) (Eq.trans (gI_w2 (nq hN rfl rfl)) (Eq.trans (gI_a2 (nq hN rfl rfl)) (Eq.trans (gI_a2 (nq hN rfl rfl)) (Eq.trans (gI_w2 (nq hN rfl rfl)) hg0))))))))))))))))), (Eq.trans (gI_a rfl) (Eq.trans (gI_a rfl) (Eq.trans (gI_a rfl) (Eq.trans (gI_a rfl) (Eq.trans (gI_a rfl) (Eq.trans (gI_a2 (nq hN rfl rfl)) (Eq.trans (gI_a2 (nq hN rfl rfl)) (Eq.trans (gI_w2 (nq hN rfl rfl)) (Eq.trans (gI_a2 (nq hN rfl rfl)) (Eq.trans (gI_a2 (nq hN rfl rfl)) (Eq.trans (gI_w2 (nq hN rfl rfl)) (Eq.trans (gI_a2 (nq hN rfl rfl)) (Eq.trans (gI_a2 (nq hN rfl rfl)) (Eq.trans (gI_w2 (nq hN rfl rfl)) (Eq.trans (gI_a2 (nq hN rfl rfl)) (Eq.trans (gI_a2 (nq hN rfl rfl)) (Eq.trans (gI_w2 (nq hN rfl rfl)) hg1))))))))))))))))), (Eq.trans (gI_a rfl) (Eq.trans (gI_a rfl) (Eq.trans (gI_a rfl) (Eq.trans (gI_a rfl) (Eq.trans (gI_a rfl) (Eq.trans (gI_a2 (nq hN rfl rfl)) (Eq.trans (gI_a2 (nq hN rfl rfl)) (Eq.trans (gI_w2 (nq hN rfl rfl)) (Eq.trans (gI_a2 (nq hN rfl rfl)) (Eq.trans (gI_a2 (nq hN rfl rfl)) (Eq.trans (gI_w2 (nq hN rfl rfl)) (Eq.trans (gI_a2 (nq hN rfl rfl)) (Eq.trans (gI_a2 (nq hN rfl rfl)) (Eq.trans (gI_w2 (nq hN rfl rfl)) (Eq.trans (gI_a2 (nq hN rfl rfl)) (Eq.trans (gI_a2 (nq hN rfl rfl)) (Eq.trans (gI_w2 (nq hN rfl rfl)) hg2))))))))))))))))), (Eq.trans (gI_a rfl) (Eq.trans (gI_a rfl) (Eq.trans (gI_a rfl) (Eq.trans (gI_a rfl) (Eq.trans (gI_a rfl) (Eq.trans (gI_a2 (nq hN rfl rfl)) (Eq.trans (gI_a2 (nq hN rfl rfl)) (Eq.trans (gI_w2 (nq hN rfl rfl)) (Eq.trans (gI_a2 (nq hN rfl rfl)) (Eq.trans (gI_a2 (nq hN rfl rfl)) (Eq.trans (gI_w2 (nq hN rfl rfl)) (Eq.trans (gI_a2 (nq hN rfl rfl)) (Eq.trans (gI_a2 (nq hN rfl rfl)) (Eq.trans (gI_w2 (nq hN rfl rfl)) (Eq.trans (gI_a2 (nq hN rfl rfl)) (Eq.trans (gI_a2 (nq hN rfl rfl)) (Eq.trans (gI_w2 (nq hN rfl rfl)) hg3))))))))))))))))), (Eq.trans (gI_a rfl) (Eq.trans (gI_a rfl) (Eq.trans (gI_a rfl) (Eq.trans (gI_a rfl) (Eq.trans (gI_a rfl) (Eq.trans (gI_a2 (nq hN rfl rfl)) (Eq.trans (gI_a2 (nq hN rfl rfl)) (Eq.trans (gI_w2 (nq hN rfl rfl)) (Eq.trans (gI_a2 (nq hN rfl rfl)) (Eq.trans (gI_a2 (nq hN rfl rfl)) (Eq.trans (gI_w2 (nq hN rfl rfl)) (Eq.trans (gI_a2 (nq hN rfl rfl)) (Eq.trans (gI_a2 (nq hN rfl rfl)) (Eq.trans (gI_w2 (nq hN rfl rfl)) (Eq.trans (gI_a2 (nq hN rfl rfl)) (Eq.trans (gI_a2 (nq hN rfl rfl)) (Eq.trans (gI_w2 (nq hN rfl rfl)) hg4))))))))))))))))), (Eq.trans (gI_a rfl) (Eq.trans (gI_a rfl) (Eq.trans (gI_a rfl) (Eq.trans (gI_a rfl) (Eq.trans (gI_a rfl) (Eq.trans (gI_a2 (nq hN rfl rfl)) (Eq.trans (gI_a2 (nq hN rfl rfl)) (Eq.trans (gI_w2 (nq hN rfl rfl)) (Eq.trans (gI_a2 (nq hN rfl rfl)) (Eq.trans (gI_a2 (nq hN rfl rfl)) (Eq.trans (gI_w2 (nq hN rfl rfl)) (Eq.trans (gI_a2 (nq hN rfl rfl)) (Eq.trans (gI_a2 (nq hN rfl rfl)) (Eq.trans (gI_w2 (nq hN rfl rfl)) (Eq.trans (gI_a2 (nq hN rfl rfl)) (Eq.trans (gI_a2 (nq hN rfl rfl)) (Eq.trans (gI_w2 (nq hN rfl rfl)) hg5)))))))))))))))))⟩ (fun g2 I2 hc2 => ?_)
    obtain ⟨hI2, hL2, hR2, hK2, hZ2, hw2, ht2, hu2, hg2_0, hg2_1, hg2_2, hg2_3, hg2_4, hg2_5⟩ := hc2
    dsimp only at hI2 hL2 hR2 hK2 hZ2
    refine wp_gd (agK hK2 rfl ql_K_149) ?_
    refine wp_lt (agI hI2 rfl ql_I_149_14) ?_
    refine wp_lt (agL hL2 rfl ql_L_149_19) ?_
    refine wp_gd qf_412 ?_
    refine wp_lt qf_413 ?_
    refine wp_lt (agR hR2 rfl ql_R_149_5) ?_
    refine wp_lt ht2 ?_
    refine wp_ltr ?_
    refine wp_gd qf_402 ?_
    refine wp_lt hj ?_
    refine wp_gd qf_403 ?_
    refine wp_lt qf_404 ?_
    refine wp_gd (agK hK2 rfl ql_K_170) ?_
    refine wp_gd (gZi (agZ hZ2 rfl ql_Z_170) qf_97) ?_
    refine wp_lt (gIk qf_32 (agI hI2 rfl ql_I_170_0)) ?_
    refine wp_lt qf_291 ?_
    refine wp_lt qf_414 ?_
    refine wp_ifp qf_415 ?_
    refine wp_of (f_X13_tick_329.eq_1 ..) ?_
    refine wp_lt qf_242 ?_
    refine wp_gd (agK hK2 rfl ql_K_149) ?_
    refine wp_zI ?_
    refine wp_gd (agK hK2 rfl ql_K_149) ?_
    refine wp_zL ?_
    refine wp_ret_bd ?_
    refine wp_ltr ?_
    exact hrc _ _ _ _ _ _ _ _ _ rfl rfl ⟨(ag_p2s (lkI ql_I_149_14) hI2), (ag_p2s (lkL ql_L_149_19) hL2), hR2, hK2, hZ2, (Eq.trans (gL_a rfl) hw2), (Eq.trans (gI_b rfl) ht2), (Eq.trans (gI_b rfl) hu2), (Eq.trans (gI_a rfl) hg2_0), (Eq.trans (gI_a rfl) hg2_1), (Eq.trans (gI_a rfl) hg2_2), (Eq.trans (gI_a rfl) hg2_3), (Eq.trans (gI_a rfl) hg2_4), (Eq.trans (gI_a rfl) hg2_5)⟩
  · skip
    refine wp_ret_bd ?_
    refine wp_ltr ?_
    exact hrc _ _ _ _ _ _ _ _ _ rfl rfl ⟨(ag_p2 rfl (ag_p2s (lkI ql_I_149_13) (ag_p2s (lkI ql_I_149_12) (ag_p2 rfl (ag_p2s (lkI ql_I_149_10) (ag_p2 (okR_big (bq hN rfl)) (ag_p2 (okR_big (bq hN rfl)) (ag_pt (fun _ => okR_big (bq hN rfl)) (ag_p2 (okR_big (bq hN rfl)) (ag_p2 (okR_big (bq hN rfl)) (ag_pt (fun _ => okR_big (bq hN rfl)) (ag_p2 (okR_big (bq hN rfl)) (ag_p2 (okR_big (bq hN rfl)) (ag_pt (fun _ => okR_big (bq hN rfl)) (ag_p2 (okR_big (bq hN rfl)) (ag_p2 (okR_big (bq hN rfl)) (ag_pt (fun _ => okR_big (bq hN rfl)) hI))))))))))))))))), (ag_p2s (lkL ql_L_149_19) (ag_p2s (lkL ql_L_149_18) (ag_pt (fun _ => okH_big (bq hN rfl)) (ag_pt (fun _ => okH_big (bq hN rfl)) (ag_pt (fun _ => okH_big (bq hN rfl)) (ag_pt (fun _ => okH_big (bq hN rfl)) hL)))))), (ag_p2 (okG_big (bq hN rfl)) (ag_pt (fun _ => okG_big (bq hN rfl)) (ag_p2 (okG_big (bq hN rfl)) (ag_pt (fun _ => okG_big (bq hN rfl)) (ag_p2 (okG_big (bq hN rfl)) (ag_pt (fun _ => okG_big (bq hN rfl)) (ag_p2 (okG_big (bq hN rfl)) (ag_pt (fun _ => okG_big (bq hN rfl)) hR)))))))), (ak_pt (bq hN rfl) (ak_pt (bq hN rfl) (ak_pt (bq hN rfl) (ak_pt (bq hN rfl) hK)))), (ak_pt (bq hN rfl) (ak_pt (bq hN rfl) (ak_pt (bq hN rfl) (ak_pt (bq hN rfl) hZ)))), (Eq.trans (gL_a rfl) (Eq.trans (gL_a rfl) (Eq.trans (gL_w2 (nq hN rfl rfl)) (Eq.trans (gL_w2 (nq hN rfl rfl)) (Eq.trans (gL_w2 (nq hN rfl rfl)) (Eq.trans (gL_w2 (nq hN rfl rfl)) hw)))))), gI_s, (Eq.trans (gI_b rfl) (Eq.trans (gI_b rfl) (Eq.trans (gI_b rfl) gI_s))), (Eq.trans (gI_a rfl) (Eq.trans (gI_a rfl) (Eq.trans (gI_a rfl) (Eq.trans (gI_a rfl) (Eq.trans (gI_a rfl) (Eq.trans (gI_a2 (nq hN rfl rfl)) (Eq.trans (gI_a2 (nq hN rfl rfl)) (Eq.trans (gI_w2 (nq hN rfl rfl)) (Eq.trans (gI_a2 (nq hN rfl rfl)) (Eq.trans (gI_a2 (nq hN rfl rfl)) (Eq.trans (gI_w2 (nq hN rfl rfl)) (Eq.trans (gI_a2 (nq hN rfl rfl)) (Eq.trans (gI_a2 (nq hN rfl rfl)) (Eq.trans (gI_w2 (nq hN rfl rfl)) (Eq.trans (gI_a2 (nq hN rfl rfl)) (Eq.trans (gI_a2 (nq hN rfl rfl)) (Eq.trans (gI_w2 (nq hN rfl rfl)) hg0))))))))))))))))), (Eq.trans (gI_a rfl) (Eq.trans (gI_a rfl) (Eq.trans (gI_a rfl) (Eq.trans (gI_a rfl) (Eq.trans (gI_a rfl) (Eq.trans (gI_a2 (nq hN rfl rfl)) (Eq.trans (gI_a2 (nq hN rfl rfl)) (Eq.trans (gI_w2 (nq hN rfl rfl)) (Eq.trans (gI_a2 (nq hN rfl rfl)) (Eq.trans (gI_a2 (nq hN rfl rfl)) (Eq.trans (gI_w2 (nq hN rfl rfl)) (Eq.trans (gI_a2 (nq hN rfl rfl)) (Eq.trans (gI_a2 (nq hN rfl rfl)) (Eq.trans (gI_w2 (nq hN rfl rfl)) (Eq.trans (gI_a2 (nq hN rfl rfl)) (Eq.trans (gI_a2 (nq hN rfl rfl)) (Eq.trans (gI_w2 (nq hN rfl rfl)) hg1))))))))))))))))), (Eq.trans (gI_a rfl) (Eq.trans (gI_a rfl) (Eq.trans (gI_a rfl) (Eq.trans (gI_a rfl) (Eq.trans (gI_a rfl) (Eq.trans (gI_a2 (nq hN rfl rfl)) (Eq.trans (gI_a2 (nq hN rfl rfl)) (Eq.trans (gI_w2 (nq hN rfl rfl)) (Eq.trans (gI_a2 (nq hN rfl rfl)) (Eq.trans (gI_a2 (nq hN rfl rfl)) (Eq.trans (gI_w2 (nq hN rfl rfl)) (Eq.trans (gI_a2 (nq hN rfl rfl)) (Eq.trans (gI_a2 (nq hN rfl rfl)) (Eq.trans (gI_w2 (nq hN rfl rfl)) (Eq.trans (gI_a2 (nq hN rfl rfl)) (Eq.trans (gI_a2 (nq hN rfl rfl)) (Eq.trans (gI_w2 (nq hN rfl rfl)) hg2))))))))))))))))), (Eq.trans (gI_a rfl) (Eq.trans (gI_a rfl) (Eq.trans (gI_a rfl) (Eq.trans (gI_a rfl) (Eq.trans (gI_a rfl) (Eq.trans (gI_a2 (nq hN rfl rfl)) (Eq.trans (gI_a2 (nq hN rfl rfl)) (Eq.trans (gI_w2 (nq hN rfl rfl)) (Eq.trans (gI_a2 (nq hN rfl rfl)) (Eq.trans (gI_a2 (nq hN rfl rfl)) (Eq.trans (gI_w2 (nq hN rfl rfl)) (Eq.trans (gI_a2 (nq hN rfl rfl)) (Eq.trans (gI_a2 (nq hN rfl rfl)) (Eq.trans (gI_w2 (nq hN rfl rfl)) (Eq.trans (gI_a2 (nq hN rfl rfl)) (Eq.trans (gI_a2 (nq hN rfl rfl)) (Eq.trans (gI_w2 (nq hN rfl rfl)) hg3))))))))))))))))), (Eq.trans (gI_a rfl) (Eq.trans (gI_a rfl) (Eq.trans (gI_a rfl) (Eq.trans (gI_a rfl) (Eq.trans (gI_a rfl) (Eq.trans (gI_a2 (nq hN rfl rfl)) (Eq.trans (gI_a2 (nq hN rfl rfl)) (Eq.trans (gI_w2 (nq hN rfl rfl)) (Eq.trans (gI_a2 (nq hN rfl rfl)) (Eq.trans (gI_a2 (nq hN rfl rfl)) (Eq.trans (gI_w2 (nq hN rfl rfl)) (Eq.trans (gI_a2 (nq hN rfl rfl)) (Eq.trans (gI_a2 (nq hN rfl rfl)) (Eq.trans (gI_w2 (nq hN rfl rfl)) (Eq.trans (gI_a2 (nq hN rfl rfl)) (Eq.trans (gI_a2 (nq hN rfl rfl)) (Eq.trans (gI_w2 (nq hN rfl rfl)) hg4))))))))))))))))), (Eq.trans (gI_a rfl) (Eq.trans (gI_a rfl) (Eq.trans (gI_a rfl) (Eq.trans (gI_a rfl) (Eq.trans (gI_a rfl) (Eq.trans (gI_a2 (nq hN rfl rfl)) (Eq.trans (gI_a2 (nq hN rfl rfl)) (Eq.trans (gI_w2 (nq hN rfl rfl)) (Eq.trans (gI_a2 (nq hN rfl rfl)) (Eq.trans (gI_a2 (nq hN rfl rfl)) (Eq.trans (gI_w2 (nq hN rfl rfl)) (Eq.trans (gI_a2 (nq hN rfl rfl)) (Eq.trans (gI_a2 (nq hN rfl rfl)) (Eq.trans (gI_w2 (nq hN rfl rfl)) (Eq.trans (gI_a2 (nq hN rfl rfl)) (Eq.trans (gI_a2 (nq hN rfl rfl)) (Eq.trans (gI_w2 (nq hN rfl rfl)) hg5)))))))))))))))))⟩
end TICKR
