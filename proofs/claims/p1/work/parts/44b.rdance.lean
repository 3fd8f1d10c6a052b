section TICKD
set_option maxRecDepth 100000 in
set_option maxHeartbeats 4000000 in
theorem r_dance {N : Nat} {t u g : Int32} {w : Int64} {I : List (List Int32)} {L : List (List Int64)} {R : List (List Nat)} {D : List (List UInt64)} {K Z : List Nat} {σ : Type} {Q9 : Rs σ → Prop} {f : Unit → mS → Option (Rs σ)} (hc : RI t u g w (I, L, R, D, K, Z, N)) (hrc : ∀ (g9 : Int32) (I9 : List (List Int32)), RI t u g9 w (I9, L, R, D, K, Z, N) → WP Q9 (f () (I9, L, R, D, K, Z, N))) : WP (BK f Q9) (f_X13_dances (I, L, R, D, K, Z, N) 149) := by
  obtain ⟨hI, hL, hR, hK, hZ, hw, ht, hu, hg0, hg1, hg2, hg3, hg4, hg5⟩ := hc
  dsimp only at hI hL hR hK hZ
  refine wp_of (f_X13_dances.eq_1 ..) ?_
  refine wp_gd (agK hK rfl ql_K_149) ?_
  refine wp_lt (agR hR rfl ql_R_149_2) ?_
  refine wp_gd (agK hK rfl ql_K_151) ?_
  refine wp_lt (gZo (agZ hZ rfl ql_Z_151) qf_92) ?_
  refine wp_of (f_X13_dances_13.eq_2 ..) ?_
  refine wp_ifn qf_298 ?_
  refine wp_gd (agK hK rfl ql_K_151) ?_
  refine wp_gd (gZi (agZ hZ rfl ql_Z_151) qf_97) ?_
  refine wp_lt (gRk qf_32 (agR hR rfl ql_R_151_0)) ?_
  refine wp_gd (agK hK rfl ql_K_149) ?_
  refine wp_bd ?_
  refine wp_of (f_X13_isHeard.eq_1 ..) ?_
  refine wp_gd (agK hK rfl ql_K_149) ?_
  refine wp_bd ?_
  refine wp_of (f_X13_levelOf.eq_1 ..) ?_
  refine wp_gd (agK hK rfl ql_K_152) ?_
  refine wp_lt (agI hI rfl ql_I_152_15) ?_
  refine wp_ifn qf_179 ?_
  refine wp_lt (agI hI rfl ql_I_152_15) ?_
  refine wp_ifn qf_163 ?_
  refine wp_of (f_X13_levelOf_49.eq_1 ..) ?_
  refine wp_gd (agK hK rfl ql_K_152) ?_
  refine wp_lt (agI hI rfl ql_I_152_13) ?_
  refine wp_ifp qf_15 ?_
  refine wp_of (f_X13_levelOf_70.eq_1 ..) ?_
  refine wp_ret_bd ?_
  refine wp_ifp qf_303 ?_
  refine wp_of (f_X13_isHeard_15.eq_1 ..) ?_
  refine wp_gd qf_14 ?_
  refine wp_ret_bd ?_
  refine wp_ifp qf_15 ?_
  refine wp_of (f_X13_dances_50.eq_1 ..) ?_
  refine wp_of (f_X13_dances_51.eq_1 ..) ?_
  refine wp_lt qf_410 ?_
  refine wp_lt qf_153 ?_
  refine wp_of (f_X13_dances_13.eq_2 ..) ?_
  refine wp_ifn qf_299 ?_
  refine wp_gd (agK hK rfl ql_K_151) ?_
  refine wp_gd (gZi (agZ hZ rfl ql_Z_151) qf_99) ?_
  refine wp_lt (gRk qf_36 (agR hR rfl ql_R_151_1)) ?_
  refine wp_gd (agK hK rfl ql_K_149) ?_
  refine wp_bd ?_
  refine wp_of (f_X13_isHeard.eq_1 ..) ?_
  refine wp_gd (agK hK rfl ql_K_149) ?_
  refine wp_bd ?_
  refine wp_of (f_X13_levelOf.eq_1 ..) ?_
  refine wp_gd (agK hK rfl ql_K_156) ?_
  refine wp_lt (agI hI rfl ql_I_156_15) ?_
  refine wp_ifn qf_179 ?_
  refine wp_lt (agI hI rfl ql_I_156_15) ?_
  refine wp_ifn qf_163 ?_
  refine wp_of (f_X13_levelOf_49.eq_1 ..) ?_
  refine wp_gd (agK hK rfl ql_K_156) ?_
  refine wp_lt (agI hI rfl ql_I_156_13) ?_
  refine wp_ifp qf_15 ?_
  refine wp_of (f_X13_levelOf_70.eq_1 ..) ?_
  refine wp_ret_bd ?_
  refine wp_ifp qf_303 ?_
  refine wp_of (f_X13_isHeard_15.eq_1 ..) ?_
  refine wp_gd qf_14 ?_
  refine wp_ret_bd ?_
  refine wp_ifp qf_15 ?_
  refine wp_of (f_X13_dances_50.eq_1 ..) ?_
  refine wp_of (f_X13_dances_51.eq_1 ..) ?_
  refine wp_lt qf_410 ?_
  refine wp_lt qf_164 ?_
  refine wp_of (f_X13_dances_13.eq_2 ..) ?_
  refine wp_ifn qf_300 ?_
  refine wp_gd (agK hK rfl ql_K_151) ?_
  refine wp_gd (gZi (agZ hZ rfl ql_Z_151) qf_102) ?_
  refine wp_lt (gRk qf_41 (agR hR rfl ql_R_151_2)) ?_
  refine wp_gd (agK hK rfl ql_K_149) ?_
  refine wp_bd ?_
  refine wp_of (f_X13_isHeard.eq_1 ..) ?_
  refine wp_gd (agK hK rfl ql_K_149) ?_
  refine wp_bd ?_
  refine wp_of (f_X13_levelOf.eq_1 ..) ?_
  refine wp_gd (agK hK rfl ql_K_160) ?_
  refine wp_lt (agI hI rfl ql_I_160_15) ?_
  refine wp_ifn qf_179 ?_
  refine wp_lt (agI hI rfl ql_I_160_15) ?_
  refine wp_ifn qf_163 ?_
  refine wp_of (f_X13_levelOf_49.eq_1 ..) ?_
  refine wp_gd (agK hK rfl ql_K_160) ?_
  refine wp_lt (agI hI rfl ql_I_160_13) ?_
  refine wp_ifp qf_15 ?_
  refine wp_of (f_X13_levelOf_70.eq_1 ..) ?_
  refine wp_ret_bd ?_
  refine wp_ifp qf_303 ?_
  refine wp_of (f_X13_isHeard_15.eq_1 ..) ?_
  refine wp_gd qf_14 ?_
  refine wp_ret_bd ?_
  refine wp_ifp qf_15 ?_
  refine wp_of (f_X13_dances_50.eq_1 ..) ?_
  refine wp_of (f_X13_dances_51.eq_1 ..) ?_
  refine wp_lt qf_410 ?_
  refine wp_lt qf_177 ?_
  refine wp_of (f_X13_dances_13.eq_2 ..) ?_
  refine wp_ifn qf_301 ?_
  refine wp_gd (agK hK rfl ql_K_151) ?_
  refine wp_gd (gZi (agZ hZ rfl ql_Z_151) qf_105) ?_
  refine wp_lt (gRk qf_46 (agR hR rfl ql_R_151_3)) ?_
  refine wp_gd (agK hK rfl ql_K_149) ?_
  refine wp_bd ?_
  refine wp_of (f_X13_isHeard.eq_1 ..) ?_
  refine wp_gd (agK hK rfl ql_K_149) ?_
  refine wp_bd ?_
  refine wp_of (f_X13_levelOf.eq_1 ..) ?_
  refine wp_gd (agK hK rfl ql_K_164) ?_
  refine wp_lt (agI hI rfl ql_I_164_15) ?_
  refine wp_ifn qf_179 ?_
  refine wp_lt (agI hI rfl ql_I_164_15) ?_
  refine wp_ifn qf_163 ?_
  refine wp_of (f_X13_levelOf_49.eq_1 ..) ?_
  refine wp_gd (agK hK rfl ql_K_164) ?_
  refine wp_lt (agI hI rfl ql_I_164_13) ?_
  refine wp_ifp qf_15 ?_
  refine wp_of (f_X13_levelOf_70.eq_1 ..) ?_
  refine wp_ret_bd ?_
  refine wp_ifp qf_303 ?_
  refine wp_of (f_X13_isHeard_15.eq_1 ..) ?_
  refine wp_gd qf_14 ?_
  refine wp_ret_bd ?_
  refine wp_ifp qf_15 ?_
  refine wp_of (f_X13_dances_50.eq_1 ..) ?_
  refine wp_of (f_X13_dances_51.eq_1 ..) ?_
  refine wp_lt qf_410 ?_
  refine wp_lt qf_227 ?_
  refine wp_of (f_X13_dances_13.eq_2 ..) ?_
  refine wp_ifp qf_302 ?_
  refine wp_of (f_X13_dances_61.eq_2 ..) ?_
  refine wp_ifn qf_215 ?_
  refine wp_gd (agK hK rfl ql_K_149) ?_
  refine wp_lt (agR hR rfl ql_R_149_2) ?_
  refine wp_gd (agK hK rfl ql_K_151) ?_
  refine wp_lt (gZo (agZ hZ rfl ql_Z_151) qf_92) ?_
  refine wp_of (f_X13_dances_83.eq_2 ..) ?_
  refine wp_ifn qf_298 ?_
  refine wp_gd (agK hK rfl ql_K_151) ?_
  refine wp_gd (gZi (agZ hZ rfl ql_Z_151) qf_97) ?_
  refine wp_lt (gRk qf_32 (agR hR rfl ql_R_151_0)) ?_
  refine wp_gd (agK hK rfl ql_K_149) ?_
  refine wp_bd ?_
  refine wp_of (f_X13_isHeard.eq_1 ..) ?_
  refine wp_gd (agK hK rfl ql_K_149) ?_
  refine wp_bd ?_
  refine wp_of (f_X13_levelOf.eq_1 ..) ?_
  refine wp_gd (agK hK rfl ql_K_152) ?_
  refine wp_lt (agI hI rfl ql_I_152_15) ?_
  refine wp_ifn qf_179 ?_
  refine wp_lt (agI hI rfl ql_I_152_15) ?_
  refine wp_ifn qf_163 ?_
  refine wp_of (f_X13_levelOf_49.eq_1 ..) ?_
  refine wp_gd (agK hK rfl ql_K_152) ?_
  refine wp_lt (agI hI rfl ql_I_152_13) ?_
  refine wp_ifp qf_15 ?_
  refine wp_of (f_X13_levelOf_70.eq_1 ..) ?_
  refine wp_ret_bd ?_
  refine wp_ifp qf_303 ?_
  refine wp_of (f_X13_isHeard_15.eq_1 ..) ?_
  refine wp_gd qf_14 ?_
  refine wp_ret_bd ?_
  refine wp_ifp qf_15 ?_
  refine wp_of (f_X13_dances_158.eq_1 ..) ?_
  refine wp_lt qf_153 ?_
  refine wp_of (f_X13_dances_83.eq_2 ..) ?_
  refine wp_ifn qf_299 ?_
  refine wp_gd (agK hK rfl ql_K_151) ?_
  refine wp_gd (gZi (agZ hZ rfl ql_Z_151) qf_99) ?_
  refine wp_lt (gRk qf_36 (agR hR rfl ql_R_151_1)) ?_
  refine wp_gd (agK hK rfl ql_K_149) ?_
  refine wp_bd ?_
  refine wp_of (f_X13_isHeard.eq_1 ..) ?_
  refine wp_gd (agK hK rfl ql_K_149) ?_
  refine wp_bd ?_
  refine wp_of (f_X13_levelOf.eq_1 ..) ?_
  refine wp_gd (agK hK rfl ql_K_156) ?_
  refine wp_lt (agI hI rfl ql_I_156_15) ?_
  refine wp_ifn qf_179 ?_
  refine wp_lt (agI hI rfl ql_I_156_15) ?_
  refine wp_ifn qf_163 ?_
  refine wp_of (f_X13_levelOf_49.eq_1 ..) ?_
  refine wp_gd (agK hK rfl ql_K_156) ?_
  refine wp_lt (agI hI rfl ql_I_156_13) ?_
  refine wp_ifp qf_15 ?_
  refine wp_of (f_X13_levelOf_70.eq_1 ..) ?_
  refine wp_ret_bd ?_
  refine wp_ifp qf_303 ?_
  refine wp_of (f_X13_isHeard_15.eq_1 ..) ?_
  refine wp_gd qf_14 ?_
  refine wp_ret_bd ?_
  refine wp_ifp qf_15 ?_
  refine wp_of (f_X13_dances_158.eq_1 ..) ?_
  refine wp_lt qf_164 ?_
  refine wp_of (f_X13_dances_83.eq_2 ..) ?_
  refine wp_ifn qf_300 ?_
  refine wp_gd (agK hK rfl ql_K_151) ?_
  refine wp_gd (gZi (agZ hZ rfl ql_Z_151) qf_102) ?_
  refine wp_lt (gRk qf_41 (agR hR rfl ql_R_151_2)) ?_
  refine wp_gd (agK hK rfl ql_K_149) ?_
  refine wp_bd ?_
  refine wp_of (f_X13_isHeard.eq_1 ..) ?_
  refine wp_gd (agK hK rfl ql_K_149) ?_
  refine wp_bd ?_
  refine wp_of (f_X13_levelOf.eq_1 ..) ?_
  refine wp_gd (agK hK rfl ql_K_160) ?_
  refine wp_lt (agI hI rfl ql_I_160_15) ?_
  refine wp_ifn qf_179 ?_
  refine wp_lt (agI hI rfl ql_I_160_15) ?_
  refine wp_ifn qf_163 ?_
  refine wp_of (f_X13_levelOf_49.eq_1 ..) ?_
  refine wp_gd (agK hK rfl ql_K_160) ?_
  refine wp_lt (agI hI rfl ql_I_160_13) ?_
  refine wp_ifp qf_15 ?_
  refine wp_of (f_X13_levelOf_70.eq_1 ..) ?_
  refine wp_ret_bd ?_
  refine wp_ifp qf_303 ?_
  refine wp_of (f_X13_isHeard_15.eq_1 ..) ?_
  refine wp_gd qf_14 ?_
  refine wp_ret_bd ?_
  refine wp_ifp qf_15 ?_
  refine wp_of (f_X13_dances_158.eq_1 ..) ?_
  refine wp_lt qf_177 ?_
  refine wp_of (f_X13_dances_83.eq_2 ..) ?_
  refine wp_ifn qf_301 ?_
  refine wp_gd (agK hK rfl ql_K_151) ?_
  refine wp_gd (gZi (agZ hZ rfl ql_Z_151) qf_105) ?_
  refine wp_lt (gRk qf_46 (agR hR rfl ql_R_151_3)) ?_
  refine wp_gd (agK hK rfl ql_K_149) ?_
  refine wp_bd ?_
  refine wp_of (f_X13_isHeard.eq_1 ..) ?_
  refine wp_gd (agK hK rfl ql_K_149) ?_
  refine wp_bd ?_
  refine wp_of (f_X13_levelOf.eq_1 ..) ?_
  refine wp_gd (agK hK rfl ql_K_164) ?_
  refine wp_lt (agI hI rfl ql_I_164_15) ?_
  refine wp_ifn qf_179 ?_
  refine wp_lt (agI hI rfl ql_I_164_15) ?_
  refine wp_ifn qf_163 ?_
  refine wp_of (f_X13_levelOf_49.eq_1 ..) ?_
  refine wp_gd (agK hK rfl ql_K_164) ?_
  refine wp_lt (agI hI rfl ql_I_164_13) ?_
  refine wp_ifp qf_15 ?_
  refine wp_of (f_X13_levelOf_70.eq_1 ..) ?_
  refine wp_ret_bd ?_
  refine wp_ifp qf_303 ?_
  refine wp_of (f_X13_isHeard_15.eq_1 ..) ?_
  refine wp_gd qf_14 ?_
  refine wp_ret_bd ?_
  refine wp_ifp qf_15 ?_
  refine wp_of (f_X13_dances_158.eq_1 ..) ?_
  refine wp_lt qf_227 ?_
  refine wp_of (f_X13_dances_83.eq_2 ..) ?_
  refine wp_ifp qf_302 ?_
  refine wp_ifp qf_118 ?_
  refine wp_of (f_X13_dances_175.eq_1 ..) ?_
  refine wp_gd (agK hK rfl ql_K_149) ?_
  refine wp_lt (agR hR rfl ql_R_149_3) ?_
  refine wp_lt (agR hR rfl ql_R_149_3) ?_
  refine wp_gd (agK hK rfl ql_K_168) ?_
  refine wp_gd (gZi (agZ hZ rfl ql_Z_168) qf_216) ?_
  refine wp_lt (gIk qf_32 hg0) ?_
  refine wp_ltr ?_
  refine wp_ltite (fun c1 => ?_) (fun c1 => ?_)
  · skip
    refine wp_gd (agK hK rfl ql_K_168) ?_
    refine wp_gd (gZi (agZ hZ rfl ql_Z_168) qf_216) ?_
    refine wp_zIk qf_32 ?_
    refine wp_of (f_X13_dances_193.eq_1 ..) ?_
    refine wp_bd ?_
    refine wp_of (f_X13_isBetween.eq_1 ..) ?_
    refine wp_ifp qf_208 ?_
    refine wp_of (f_X13_isBetween_14.eq_1 ..) ?_
    refine wp_of (f_X13_isBetween_15.eq_1 ..) ?_
    refine wp_gd qf_14 ?_
    refine wp_ret_bd ?_
    refine wp_ifp qf_15 ?_
    refine wp_of (f_X13_dances_225.eq_1 ..) ?_
    refine wp_gd (agK hK rfl ql_K_149) ?_
    refine wp_lt (agR hR rfl ql_R_149_4) ?_
    refine wp_ifp qf_118 ?_
    refine wp_lt (agR hR rfl ql_R_149_4) ?_
    refine wp_gd (agK hK rfl ql_K_169) ?_
    refine wp_gd (gZi (agZ hZ rfl ql_Z_169) qf_216) ?_
    refine wp_lt (gIk qf_32 (Eq.trans (gI_a rfl) (agI hI rfl ql_I_169_0))) ?_
    refine wp_of (f_X13_dances_289.eq_1 ..) ?_
    refine wp_gd (agK hK rfl ql_K_169) ?_
    refine wp_gd (gZi (agZ hZ rfl ql_Z_169) qf_216) ?_
    refine wp_zIk qf_32 ?_
    refine wp_gd (agK hK rfl ql_K_149) ?_
    refine wp_lt (agR hR rfl ql_R_149_4) ?_
    refine wp_gd (agK hK rfl ql_K_169) ?_
    refine wp_gd (gZi (agZ hZ rfl ql_Z_169) qf_216) ?_
    refine wp_lt (gIk qf_32 gI_s) ?_
    refine wp_ifn qf_411 ?_
    refine wp_of (f_X13_dances_333.eq_1 ..) ?_
    refine wp_lt qf_153 ?_
    refine wp_of (f_X13_dances_61.eq_2 ..) ?_
    refine wp_ifn qf_218 ?_
    refine wp_gd (agK hK rfl ql_K_149) ?_
    refine wp_lt (agR hR rfl ql_R_149_2) ?_
    refine wp_gd (agK hK rfl ql_K_151) ?_
    refine wp_lt (gZo (agZ hZ rfl ql_Z_151) qf_92) ?_
    refine wp_of (f_X13_dances_83.eq_2 ..) ?_
    refine wp_ifn qf_298 ?_
    refine wp_gd (agK hK rfl ql_K_151) ?_
    refine wp_gd (gZi (agZ hZ rfl ql_Z_151) qf_97) ?_
    refine wp_lt (gRk qf_32 (agR hR rfl ql_R_151_0)) ?_
    refine wp_gd (agK hK rfl ql_K_149) ?_
    refine wp_bd ?_
    refine wp_of (f_X13_isHeard.eq_1 ..) ?_
    refine wp_gd (agK hK rfl ql_K_149) ?_
    refine wp_bd ?_
    refine wp_of (f_X13_levelOf.eq_1 ..) ?_
    refine wp_gd (agK hK rfl ql_K_152) ?_
    refine wp_lt (Eq.trans (gI_a rfl) (Eq.trans (gI_a rfl) (agI hI rfl ql_I_152_15))) ?_
    refine wp_ifn qf_179 ?_
    refine wp_lt (Eq.trans (gI_a rfl) (Eq.trans (gI_a rfl) (agI hI rfl ql_I_152_15))) ?_
    refine wp_ifn qf_163 ?_
    refine wp_of (f_X13_levelOf_49.eq_1 ..) ?_
    refine wp_gd (agK hK rfl ql_K_152) ?_
    refine wp_lt (Eq.trans (gI_a rfl) (Eq.trans (gI_a rfl) (agI hI rfl ql_I_152_13))) ?_
    refine wp_ifp qf_15 ?_
    refine wp_of (f_X13_levelOf_70.eq_1 ..) ?_
    refine wp_ret_bd ?_
    refine wp_ifp qf_303 ?_
    refine wp_of (f_X13_isHeard_15.eq_1 ..) ?_
    refine wp_gd qf_14 ?_
    refine wp_ret_bd ?_
    refine wp_ifp qf_15 ?_
    refine wp_of (f_X13_dances_158.eq_1 ..) ?_
    refine wp_lt qf_153 ?_
    refine wp_of (f_X13_dances_83.eq_2 ..) ?_
    refine wp_ifn qf_299 ?_
    refine wp_gd (agK hK rfl ql_K_151) ?_
    refine wp_gd (gZi (agZ hZ rfl ql_Z_151) qf_99) ?_
    refine wp_lt (gRk qf_36 (agR hR rfl ql_R_151_1)) ?_
    refine wp_gd (agK hK rfl ql_K_149) ?_
    refine wp_bd ?_
    refine wp_of (f_X13_isHeard.eq_1 ..) ?_
    refine wp_gd (agK hK rfl ql_K_149) ?_
    refine wp_bd ?_
    refine wp_of (f_X13_levelOf.eq_1 ..) ?_
    refine wp_gd (agK hK rfl ql_K_156) ?_
    refine wp_lt (Eq.trans (gI_a rfl) (Eq.trans (gI_a rfl) (agI hI rfl ql_I_156_15))) ?_
    refine wp_ifn qf_179 ?_
    refine wp_lt (Eq.trans (gI_a rfl) (Eq.trans (gI_a rfl) (agI hI rfl ql_I_156_15))) ?_
    refine wp_ifn qf_163 ?_
    refine wp_of (f_X13_levelOf_49.eq_1 ..) ?_
    refine wp_gd (agK hK rfl ql_K_156) ?_
    refine wp_lt (Eq.trans (gI_a rfl) (Eq.trans (gI_a rfl) (agI hI rfl ql_I_156_13))) ?_
    refine wp_ifp qf_15 ?_
    refine wp_of (f_X13_levelOf_70.eq_1 ..) ?_
    refine wp_ret_bd ?_
    refine wp_ifp qf_303 ?_
    refine wp_of (f_X13_isHeard_15.eq_1 ..) ?_
    refine wp_gd qf_14 ?_
    refine wp_ret_bd ?_
    refine wp_ifp qf_15 ?_
    refine wp_of (f_X13_dances_158.eq_1 ..) ?_
    refine wp_lt qf_164 ?_
    refine wp_of (f_X13_dances_83.eq_2 ..) ?_
    refine wp_ifn qf_300 ?_
    refine wp_gd (agK hK rfl ql_K_151) ?_
    refine wp_gd (gZi (agZ hZ rfl ql_Z_151) qf_102) ?_
    refine wp_lt (gRk qf_41 (agR hR rfl ql_R_151_2)) ?_
    refine wp_gd (agK hK rfl ql_K_149) ?_
    refine wp_bd ?_
    refine wp_of (f_X13_isHeard.eq_1 ..) ?_
    refine wp_gd (agK hK rfl ql_K_149) ?_
    refine wp_bd ?_
    refine wp_of (f_X13_levelOf.eq_1 ..) ?_
    refine wp_gd (agK hK rfl ql_K_160) ?_
    refine wp_lt (Eq.trans (gI_a rfl) (Eq.trans (gI_a rfl) (agI hI rfl ql_I_160_15))) ?_
    refine wp_ifn qf_179 ?_
    refine wp_lt (Eq.trans (gI_a rfl) (Eq.trans (gI_a rfl) (agI hI rfl ql_I_160_15))) ?_
    refine wp_ifn qf_163 ?_
    refine wp_of (f_X13_levelOf_49.eq_1 ..) ?_
    refine wp_gd (agK hK rfl ql_K_160) ?_
    refine wp_lt (Eq.trans (gI_a rfl) (Eq.trans (gI_a rfl) (agI hI rfl ql_I_160_13))) ?_
    refine wp_ifp qf_15 ?_
    refine wp_of (f_X13_levelOf_70.eq_1 ..) ?_
    refine wp_ret_bd ?_
    refine wp_ifp qf_303 ?_
    refine wp_of (f_X13_isHeard_15.eq_1 ..) ?_
    refine wp_gd qf_14 ?_
    refine wp_ret_bd ?_
    refine wp_ifp qf_15 ?_
    refine wp_of (f_X13_dances_158.eq_1 ..) ?_
    refine wp_lt qf_177 ?_
    refine wp_of (f_X13_dances_83.eq_2 ..) ?_
    refine wp_ifn qf_301 ?_
    refine wp_gd (agK hK rfl ql_K_151) ?_
    refine wp_gd (gZi (agZ hZ rfl ql_Z_151) qf_105) ?_
    refine wp_lt (gRk qf_46 (agR hR rfl ql_R_151_3)) ?_
    refine wp_gd (agK hK rfl ql_K_149) ?_
    refine wp_bd ?_
    refine wp_of (f_X13_isHeard.eq_1 ..) ?_
    refine wp_gd (agK hK rfl ql_K_149) ?_
    refine wp_bd ?_
    refine wp_of (f_X13_levelOf.eq_1 ..) ?_
    refine wp_gd (agK hK rfl ql_K_164) ?_
    refine wp_lt (Eq.trans (gI_a rfl) (Eq.trans (gI_a rfl) (agI hI rfl ql_I_164_15))) ?_
    refine wp_ifn qf_179 ?_
    refine wp_lt (Eq.trans (gI_a rfl) (Eq.trans (gI_a rfl) (agI hI rfl ql_I_164_15))) ?_
    refine wp_ifn qf_163 ?_
    refine wp_of (f_X13_levelOf_49.eq_1 ..) ?_
    refine wp_gd (agK hK rfl ql_K_164) ?_
    refine wp_lt (Eq.trans (gI_a rfl) (Eq.trans (gI_a rfl) (agI hI rfl ql_I_164_13))) ?_
    refine wp_ifp qf_15 ?_
    refine wp_of (f_X13_levelOf_70.eq_1 ..) ?_
    refine wp_ret_bd ?_
    refine wp_ifp qf_303 ?_
    refine wp_of (f_X13_isHeard_15.eq_1 ..) ?_
    refine wp_gd qf_14 ?_
    refine wp_ret_bd ?_
    refine wp_ifp qf_15 ?_
    refine wp_of (f_X13_dances_158.eq_1 ..) ?_
    refine wp_lt qf_227 ?_
    refine wp_of (f_X13_dances_83.eq_2 ..) ?_
    refine wp_ifp qf_302 ?_
    refine wp_ifp qf_118 ?_
    refine wp_of (f_X13_dances_175.eq_1 ..) ?_
    refine wp_gd (agK hK rfl ql_K_149) ?_
    refine wp_lt (agR hR rfl ql_R_149_3) ?_
    refine wp_lt (agR hR rfl ql_R_149_3) ?_
    refine wp_gd (agK hK rfl ql_K_168) ?_
    refine wp_gd (gZi (agZ hZ rfl ql_Z_168) qf_219) ?_
    refine wp_lt (gIk qf_36 (Eq.trans (gI_a rfl) (Eq.trans (gI_b rfl) hg1))) ?_
    refine wp_ltr ?_
    refine wp_lt (if_pos c1) ?_
    refine wp_gd (agK hK rfl ql_K_168) ?_
    refine wp_gd (gZi (agZ hZ rfl ql_Z_168) qf_219) ?_
    refine wp_zIk qf_36 ?_
    refine wp_of (f_X13_dances_193.eq_1 ..) ?_
    refine wp_bd ?_
    refine wp_of (f_X13_isBetween.eq_1 ..) ?_
    refine wp_ifp qf_208 ?_
    refine wp_of (f_X13_isBetween_14.eq_1 ..) ?_
    refine wp_of (f_X13_isBetween_15.eq_1 ..) ?_
    refine wp_gd qf_14 ?_
    refine wp_ret_bd ?_
    refine wp_ifp qf_15 ?_
    refine wp_of (f_X13_dances_225.eq_1 ..) ?_
    refine wp_gd (agK hK rfl ql_K_149) ?_
    refine wp_lt (agR hR rfl ql_R_149_4) ?_
    refine wp_ifp qf_118 ?_
    refine wp_lt (agR hR rfl ql_R_149_4) ?_
    refine wp_gd (agK hK rfl ql_K_169) ?_
    refine wp_gd (gZi (agZ hZ rfl ql_Z_169) qf_219) ?_
    refine wp_lt (gIk qf_36 (Eq.trans (gI_a rfl) (Eq.trans (gI_b rfl) (Eq.trans (gI_a rfl) (agI hI rfl ql_I_169_1))))) ?_
    refine wp_of (f_X13_dances_289.eq_1 ..) ?_
    refine wp_gd (agK hK rfl ql_K_169) ?_
    refine wp_gd (gZi (agZ hZ rfl ql_Z_169) qf_219) ?_
    refine wp_zIk qf_36 ?_
    refine wp_gd (agK hK rfl ql_K_149) ?_
    refine wp_lt (agR hR rfl ql_R_149_4) ?_
    refine wp_gd (agK hK rfl ql_K_169) ?_
    refine wp_gd (gZi (agZ hZ rfl ql_Z_169) qf_219) ?_
    refine wp_lt (gIk qf_36 gI_s) ?_
    refine wp_ifn qf_411 ?_
    refine wp_of (f_X13_dances_333.eq_1 ..) ?_
    refine wp_lt qf_164 ?_
    refine wp_of (f_X13_dances_61.eq_2 ..) ?_
    refine wp_ifn qf_221 ?_
    refine wp_gd (agK hK rfl ql_K_149) ?_
    refine wp_lt (agR hR rfl ql_R_149_2) ?_
    refine wp_gd (agK hK rfl ql_K_151) ?_
    refine wp_lt (gZo (agZ hZ rfl ql_Z_151) qf_92) ?_
    refine wp_of (f_X13_dances_83.eq_2 ..) ?_
    refine wp_ifn qf_298 ?_
    refine wp_gd (agK hK rfl ql_K_151) ?_
    refine wp_gd (gZi (agZ hZ rfl ql_Z_151) qf_97) ?_
    refine wp_lt (gRk qf_32 (agR hR rfl ql_R_151_0)) ?_
    refine wp_gd (agK hK rfl ql_K_149) ?_
    refine wp_bd ?_
    refine wp_of (f_X13_isHeard.eq_1 ..) ?_
    refine wp_gd (agK hK rfl ql_K_149) ?_
    refine wp_bd ?_
    refine wp_of (f_X13_levelOf.eq_1 ..) ?_
    refine wp_gd (agK hK rfl ql_K_152) ?_
    refine wp_lt (Eq.trans (gI_a rfl) (Eq.trans (gI_a rfl) (Eq.trans (gI_a rfl) (Eq.trans (gI_a rfl) (agI hI rfl ql_I_152_15))))) ?_
    refine wp_ifn qf_179 ?_
    refine wp_lt (Eq.trans (gI_a rfl) (Eq.trans (gI_a rfl) (Eq.trans (gI_a rfl) (Eq.trans (gI_a rfl) (agI hI rfl ql_I_152_15))))) ?_
    refine wp_ifn qf_163 ?_
    refine wp_of (f_X13_levelOf_49.eq_1 ..) ?_
    refine wp_gd (agK hK rfl ql_K_152) ?_
    refine wp_lt (Eq.trans (gI_a rfl) (Eq.trans (gI_a rfl) (Eq.trans (gI_a rfl) (Eq.trans (gI_a rfl) (agI hI rfl ql_I_152_13))))) ?_
    refine wp_ifp qf_15 ?_
    refine wp_of (f_X13_levelOf_70.eq_1 ..) ?_
    refine wp_ret_bd ?_
    refine wp_ifp qf_303 ?_
    refine wp_of (f_X13_isHeard_15.eq_1 ..) ?_
    refine wp_gd qf_14 ?_
    refine wp_ret_bd ?_
    refine wp_ifp qf_15 ?_
    refine wp_of (f_X13_dances_158.eq_1 ..) ?_
    refine wp_lt qf_153 ?_
    refine wp_of (f_X13_dances_83.eq_2 ..) ?_
    refine wp_ifn qf_299 ?_
    refine wp_gd (agK hK rfl ql_K_151) ?_
    refine wp_gd (gZi (agZ hZ rfl ql_Z_151) qf_99) ?_
    refine wp_lt (gRk qf_36 (agR hR rfl ql_R_151_1)) ?_
    refine wp_gd (agK hK rfl ql_K_149) ?_
    refine wp_bd ?_
    refine wp_of (f_X13_isHeard.eq_1 ..) ?_
    refine wp_gd (agK hK rfl ql_K_149) ?_
    refine wp_bd ?_
    refine wp_of (f_X13_levelOf.eq_1 ..) ?_
    refine wp_gd (agK hK rfl ql_K_156) ?_
    refine wp_lt (Eq.trans (gI_a rfl) (Eq.trans (gI_a rfl) (Eq.trans (gI_a rfl) (Eq.trans (gI_a rfl) (agI hI rfl ql_I_156_15))))) ?_
    refine wp_ifn qf_179 ?_
    refine wp_lt (Eq.trans (gI_a rfl) (Eq.trans (gI_a rfl) (Eq.trans (gI_a rfl) (Eq.trans (gI_a rfl) (agI hI rfl ql_I_156_15))))) ?_
    refine wp_ifn qf_163 ?_
    refine wp_of (f_X13_levelOf_49.eq_1 ..) ?_
    refine wp_gd (agK hK rfl ql_K_156) ?_
    refine wp_lt (Eq.trans (gI_a rfl) (Eq.trans (gI_a rfl) (Eq.trans (gI_a rfl) (Eq.trans (gI_a rfl) (agI hI rfl ql_I_156_13))))) ?_
    refine wp_ifp qf_15 ?_
    refine wp_of (f_X13_levelOf_70.eq_1 ..) ?_
    refine wp_ret_bd ?_
    refine wp_ifp qf_303 ?_
    refine wp_of (f_X13_isHeard_15.eq_1 ..) ?_
    refine wp_gd qf_14 ?_
    refine wp_ret_bd ?_
    refine wp_ifp qf_15 ?_
    refine wp_of (f_X13_dances_158.eq_1 ..) ?_
    refine wp_lt qf_164 ?_
    refine wp_of (f_X13_dances_83.eq_2 ..) ?_
    refine wp_ifn qf_300 ?_
    refine wp_gd (agK hK rfl ql_K_151) ?_
    refine wp_gd (gZi (agZ hZ rfl ql_Z_151) qf_102) ?_
    refine wp_lt (gRk qf_41 (agR hR rfl ql_R_151_2)) ?_
    refine wp_gd (agK hK rfl ql_K_149) ?_
    refine wp_bd ?_
    refine wp_of (f_X13_isHeard.eq_1 ..) ?_
    refine wp_gd (agK hK rfl ql_K_149) ?_
    refine wp_bd ?_
    refine wp_of (f_X13_levelOf.eq_1 ..) ?_
    refine wp_gd (agK hK rfl ql_K_160) ?_
    refine wp_lt (Eq.trans (gI_a rfl) (Eq.trans (gI_a rfl) (Eq.trans (gI_a rfl) (Eq.trans (gI_a rfl) (agI hI rfl ql_I_160_15))))) ?_
    refine wp_ifn qf_179 ?_
    refine wp_lt (Eq.trans (gI_a rfl) (Eq.trans (gI_a rfl) (Eq.trans (gI_a rfl) (Eq.trans (gI_a rfl) (agI hI rfl ql_I_160_15))))) ?_
    refine wp_ifn qf_163 ?_
    refine wp_of (f_X13_levelOf_49.eq_1 ..) ?_
    refine wp_gd (agK hK rfl ql_K_160) ?_
    refine wp_lt (Eq.trans (gI_a rfl) (Eq.trans (gI_a rfl) (Eq.trans (gI_a rfl) (Eq.trans (gI_a rfl) (agI hI rfl ql_I_160_13))))) ?_
    refine wp_ifp qf_15 ?_
    refine wp_of (f_X13_levelOf_70.eq_1 ..) ?_
    refine wp_ret_bd ?_
    refine wp_ifp qf_303 ?_
    refine wp_of (f_X13_isHeard_15.eq_1 ..) ?_
    refine wp_gd qf_14 ?_
    refine wp_ret_bd ?_
    refine wp_ifp qf_15 ?_
    refine wp_of (f_X13_dances_158.eq_1 ..) ?_
    refine wp_lt qf_177 ?_
    refine wp_of (f_X13_dances_83.eq_2 ..) ?_
    refine wp_ifn qf_301 ?_
    refine wp_gd (agK hK rfl ql_K_151) ?_
    refine wp_gd (gZi (agZ hZ rfl ql_Z_151) qf_105) ?_
    refine wp_lt (gRk qf_46 (agR hR rfl ql_R_151_3)) ?_
    refine wp_gd (agK hK rfl ql_K_149) ?_
    refine wp_bd ?_
    refine wp_of (f_X13_isHeard.eq_1 ..) ?_
    refine wp_gd (agK hK rfl ql_K_149) ?_
    refine wp_bd ?_
    refine wp_of (f_X13_levelOf.eq_1 ..) ?_
    refine wp_gd (agK hK rfl ql_K_164) ?_
    refine wp_lt (Eq.trans (gI_a rfl) (Eq.trans (gI_a rfl) (Eq.trans (gI_a rfl) (Eq.trans (gI_a rfl) (agI hI rfl ql_I_164_15))))) ?_
    refine wp_ifn qf_179 ?_
    refine wp_lt (Eq.trans (gI_a rfl) (Eq.trans (gI_a rfl) (Eq.trans (gI_a rfl) (Eq.trans (gI_a rfl) (agI hI rfl ql_I_164_15))))) ?_
    refine wp_ifn qf_163 ?_
    refine wp_of (f_X13_levelOf_49.eq_1 ..) ?_
    refine wp_gd (agK hK rfl ql_K_164) ?_
    refine wp_lt (Eq.trans (gI_a rfl) (Eq.trans (gI_a rfl) (Eq.trans (gI_a rfl) (Eq.trans (gI_a rfl) (agI hI rfl ql_I_164_13))))) ?_
    refine wp_ifp qf_15 ?_
    refine wp_of (f_X13_levelOf_70.eq_1 ..) ?_
    refine wp_ret_bd ?_
    refine wp_ifp qf_303 ?_
    refine wp_of (f_X13_isHeard_15.eq_1 ..) ?_
    refine wp_gd qf_14 ?_
    refine wp_ret_bd ?_
    refine wp_ifp qf_15 ?_
    refine wp_of (f_X13_dances_158.eq_1 ..) ?_
    refine wp_lt qf_227 ?_
    refine wp_of (f_X13_dances_83.eq_2 ..) ?_
    refine wp_ifp qf_302 ?_
    refine wp_ifp qf_118 ?_
    refine wp_of (f_X13_dances_175.eq_1 ..) ?_
    refine wp_gd (agK hK rfl ql_K_149) ?_
    refine wp_lt (agR hR rfl ql_R_149_3) ?_
    refine wp_lt (agR hR rfl ql_R_149_3) ?_
    refine wp_gd (agK hK rfl ql_K_168) ?_
    refine wp_gd (gZi (agZ hZ rfl ql_Z_168) qf_222) ?_
    refine wp_lt (gIk qf_41 (Eq.trans (gI_a rfl) (Eq.trans (gI_b rfl) (Eq.trans (gI_a rfl) (Eq.trans (gI_b rfl) hg2))))) ?_
    refine wp_ltr ?_
    refine wp_lt (if_pos c1) ?_
    refine wp_gd (agK hK rfl ql_K_168) ?_
    refine wp_gd (gZi (agZ hZ rfl ql_Z_168) qf_222) ?_
    refine wp_zIk qf_41 ?_
    refine wp_of (f_X13_dances_193.eq_1 ..) ?_
    refine wp_bd ?_
    refine wp_of (f_X13_isBetween.eq_1 ..) ?_
    refine wp_ifp qf_208 ?_
    refine wp_of (f_X13_isBetween_14.eq_1 ..) ?_
    refine wp_of (f_X13_isBetween_15.eq_1 ..) ?_
    refine wp_gd qf_14 ?_
    refine wp_ret_bd ?_
    refine wp_ifp qf_15 ?_
    refine wp_of (f_X13_dances_225.eq_1 ..) ?_
    refine wp_gd (agK hK rfl ql_K_149) ?_
    refine wp_lt (agR hR rfl ql_R_149_4) ?_
    refine wp_ifp qf_118 ?_
    refine wp_lt (agR hR rfl ql_R_149_4) ?_
    refine wp_gd (agK hK rfl ql_K_169) ?_
    refine wp_gd (gZi (agZ hZ rfl ql_Z_169) qf_222) ?_
    refine wp_lt (gIk qf_41 (Eq.trans (gI_a rfl) (Eq.trans (gI_b rfl) (Eq.trans (gI_a rfl) (Eq.trans (gI_b rfl) (Eq.trans (gI_a rfl) (agI hI rfl ql_I_169_2))))))) ?_
    refine wp_of (f_X13_dances_289.eq_1 ..) ?_
    refine wp_gd (agK hK rfl ql_K_169) ?_
    refine wp_gd (gZi (agZ hZ rfl ql_Z_169) qf_222) ?_
    refine wp_zIk qf_41 ?_
    refine wp_gd (agK hK rfl ql_K_149) ?_
    refine wp_lt (agR hR rfl ql_R_149_4) ?_
    refine wp_gd (agK hK rfl ql_K_169) ?_
    refine wp_gd (gZi (agZ hZ rfl ql_Z_169) qf_222) ?_
    refine wp_lt (gIk qf_41 gI_s) ?_
    refine wp_ifn qf_411 ?_
    refine wp_of (f_X13_dances_333.eq_1 ..) ?_
    refine wp_lt qf_177 ?_
    refine wp_of (f_X13_dances_61.eq_2 ..) ?_
    refine wp_ifn qf_224 ?_
    refine wp_gd (agK hK rfl ql_K_149) ?_
    refine wp_lt (agR hR rfl ql_R_149_2) ?_
    refine wp_gd (agK hK rfl ql_K_151) ?_
    refine wp_lt (gZo (agZ hZ rfl ql_Z_151) qf_92) ?_
    refine wp_of (f_X13_dances_83.eq_2 ..) ?_
    refine wp_ifn qf_298 ?_
    refine wp_gd (agK hK rfl ql_K_151) ?_
    refine wp_gd (gZi (agZ hZ rfl ql_Z_151) qf_97) ?_
    refine wp_lt (gRk qf_32 (agR hR rfl ql_R_151_0)) ?_
    refine wp_gd (agK hK rfl ql_K_149) ?_
    refine wp_bd ?_
    refine wp_of (f_X13_isHeard.eq_1 ..) ?_
    refine wp_gd (agK hK rfl ql_K_149) ?_
    refine wp_bd ?_
    refine wp_of (f_X13_levelOf.eq_1 ..) ?_
    refine wp_gd (agK hK rfl ql_K_152) ?_
    refine wp_lt (Eq.trans (gI_a rfl) (Eq.trans (gI_a rfl) (Eq.trans (gI_a rfl) (Eq.trans (gI_a rfl) (Eq.trans (gI_a rfl) (Eq.trans (gI_a rfl) (agI hI rfl ql_I_152_15))))))) ?_
    refine wp_ifn qf_179 ?_
    refine wp_lt (Eq.trans (gI_a rfl) (Eq.trans (gI_a rfl) (Eq.trans (gI_a rfl) (Eq.trans (gI_a rfl) (Eq.trans (gI_a rfl) (Eq.trans (gI_a rfl) (agI hI rfl ql_I_152_15))))))) ?_
    refine wp_ifn qf_163 ?_
    refine wp_of (f_X13_levelOf_49.eq_1 ..) ?_
    refine wp_gd (agK hK rfl ql_K_152) ?_
    refine wp_lt (Eq.trans (gI_a rfl) (Eq.trans (gI_a rfl) (Eq.trans (gI_a rfl) (Eq.trans (gI_a rfl) (Eq.trans (gI_a rfl) (Eq.trans (gI_a rfl) (agI hI rfl ql_I_152_13))))))) ?_
    refine wp_ifp qf_15 ?_
    refine wp_of (f_X13_levelOf_70.eq_1 ..) ?_
    refine wp_ret_bd ?_
    refine wp_ifp qf_303 ?_
    refine wp_of (f_X13_isHeard_15.eq_1 ..) ?_
    refine wp_gd qf_14 ?_
    refine wp_ret_bd ?_
    refine wp_ifp qf_15 ?_
    refine wp_of (f_X13_dances_158.eq_1 ..) ?_
    refine wp_lt qf_153 ?_
    refine wp_of (f_X13_dances_83.eq_2 ..) ?_
    refine wp_ifn qf_299 ?_
    refine wp_gd (agK hK rfl ql_K_151) ?_
    refine wp_gd (gZi (agZ hZ rfl ql_Z_151) qf_99) ?_
    refine wp_lt (gRk qf_36 (agR hR rfl ql_R_151_1)) ?_
    refine wp_gd (agK hK rfl ql_K_149) ?_
    refine wp_bd ?_
    refine wp_of (f_X13_isHeard.eq_1 ..) ?_
    refine wp_gd (agK hK rfl ql_K_149) ?_
    refine wp_bd ?_
    refine wp_of (f_X13_levelOf.eq_1 ..) ?_
    refine wp_gd (agK hK rfl ql_K_156) ?_
    refine wp_lt (Eq.trans (gI_a rfl) (Eq.trans (gI_a rfl) (Eq.trans (gI_a rfl) (Eq.trans (gI_a rfl) (Eq.trans (gI_a rfl) (Eq.trans (gI_a rfl) (agI hI rfl ql_I_156_15))))))) ?_
    refine wp_ifn qf_179 ?_
    refine wp_lt (Eq.trans (gI_a rfl) (Eq.trans (gI_a rfl) (Eq.trans (gI_a rfl) (Eq.trans (gI_a rfl) (Eq.trans (gI_a rfl) (Eq.trans (gI_a rfl) (agI hI rfl ql_I_156_15))))))) ?_
    refine wp_ifn qf_163 ?_
    refine wp_of (f_X13_levelOf_49.eq_1 ..) ?_
    refine wp_gd (agK hK rfl ql_K_156) ?_
    refine wp_lt (Eq.trans (gI_a rfl) (Eq.trans (gI_a rfl) (Eq.trans (gI_a rfl) (Eq.trans (gI_a rfl) (Eq.trans (gI_a rfl) (Eq.trans (gI_a rfl) (agI hI rfl ql_I_156_13))))))) ?_
    refine wp_ifp qf_15 ?_
    refine wp_of (f_X13_levelOf_70.eq_1 ..) ?_
    refine wp_ret_bd ?_
    refine wp_ifp qf_303 ?_
    refine wp_of (f_X13_isHeard_15.eq_1 ..) ?_
    refine wp_gd qf_14 ?_
    refine wp_ret_bd ?_
    refine wp_ifp qf_15 ?_
    refine wp_of (f_X13_dances_158.eq_1 ..) ?_
    refine wp_lt qf_164 ?_
    refine wp_of (f_X13_dances_83.eq_2 ..) ?_
    refine wp_ifn qf_300 ?_
    refine wp_gd (agK hK rfl ql_K_151) ?_
    refine wp_gd (gZi (agZ hZ rfl ql_Z_151) qf_102) ?_
    refine wp_lt (gRk qf_41 (agR hR rfl ql_R_151_2)) ?_
    refine wp_gd (agK hK rfl ql_K_149) ?_
    refine wp_bd ?_
    refine wp_of (f_X13_isHeard.eq_1 ..) ?_
    refine wp_gd (agK hK rfl ql_K_149) ?_
    refine wp_bd ?_
    refine wp_of (f_X13_levelOf.eq_1 ..) ?_
    refine wp_gd (agK hK rfl ql_K_160) ?_
    refine wp_lt (Eq.trans (gI_a rfl) (Eq.trans (gI_a rfl) (Eq.trans (gI_a rfl) (Eq.trans (gI_a rfl) (Eq.trans (gI_a rfl) (Eq.trans (gI_a rfl) (agI hI rfl ql_I_160_15))))))) ?_
    refine wp_ifn qf_179 ?_
    refine wp_lt (Eq.trans (gI_a rfl) (Eq.trans (gI_a rfl) (Eq.trans (gI_a rfl) (Eq.trans (gI_a rfl) (Eq.trans (gI_a rfl) (Eq.trans (gI_a rfl) (agI hI rfl ql_I_160_15))))))) ?_
    refine wp_ifn qf_163 ?_
    refine wp_of (f_X13_levelOf_49.eq_1 ..) ?_
    refine wp_gd (agK hK rfl ql_K_160) ?_
    refine wp_lt (Eq.trans (gI_a rfl) (Eq.trans (gI_a rfl) (Eq.trans (gI_a rfl) (Eq.trans (gI_a rfl) (Eq.trans (gI_a rfl) (Eq.trans (gI_a rfl) (agI hI rfl ql_I_160_13))))))) ?_
    refine wp_ifp qf_15 ?_
    refine wp_of (f_X13_levelOf_70.eq_1 ..) ?_
    refine wp_ret_bd ?_
    refine wp_ifp qf_303 ?_
    refine wp_of (f_X13_isHeard_15.eq_1 ..) ?_
    refine wp_gd qf_14 ?_
    refine wp_ret_bd ?_
    refine wp_ifp qf_15 ?_
    refine wp_of (f_X13_dances_158.eq_1 ..) ?_
    refine wp_lt qf_177 ?_
    refine wp_of (f_X13_dances_83.eq_2 ..) ?_
    refine wp_ifn qf_301 ?_
    refine wp_gd (agK hK rfl ql_K_151) ?_
    refine wp_gd (gZi (agZ hZ rfl ql_Z_151) qf_105) ?_
    refine wp_lt (gRk qf_46 (agR hR rfl ql_R_151_3)) ?_
    refine wp_gd (agK hK rfl ql_K_149) ?_
    refine wp_bd ?_
    refine wp_of (f_X13_isHeard.eq_1 ..) ?_
    refine wp_gd (agK hK rfl ql_K_149) ?_
    refine wp_bd ?_
    refine wp_of (f_X13_levelOf.eq_1 ..) ?_
    refine wp_gd (agK hK rfl ql_K_164) ?_
    refine wp_lt (Eq.trans (gI_a rfl) (Eq.trans (gI_a rfl) (Eq.trans (gI_a rfl) (Eq.trans (gI_a rfl) (Eq.trans (gI_a rfl) (Eq.trans (gI_a rfl) (agI hI rfl ql_I_164_15))))))) ?_
    refine wp_ifn qf_179 ?_
    refine wp_lt (Eq.trans (gI_a rfl) (Eq.trans (gI_a rfl) (Eq.trans (gI_a rfl) (Eq.trans (gI_a rfl) (Eq.trans (gI_a rfl) (Eq.trans (gI_a rfl) (agI hI rfl ql_I_164_15))))))) ?_
    refine wp_ifn qf_163 ?_
    refine wp_of (f_X13_levelOf_49.eq_1 ..) ?_
    refine wp_gd (agK hK rfl ql_K_164) ?_
    refine wp_lt (Eq.trans (gI_a rfl) (Eq.trans (gI_a rfl) (Eq.trans (gI_a rfl) (Eq.trans (gI_a rfl) (Eq.trans (gI_a rfl) (Eq.trans (gI_a rfl) (agI hI rfl ql_I_164_13))))))) ?_
    refine wp_ifp qf_15 ?_
    refine wp_of (f_X13_levelOf_70.eq_1 ..) ?_
    refine wp_ret_bd ?_
    refine wp_ifp qf_303 ?_
    refine wp_of (f_X13_isHeard_15.eq_1 ..) ?_
    refine wp_gd qf_14 ?_
    refine wp_ret_bd ?_
    refine wp_ifp qf_15 ?_
    refine wp_of (f_X13_dances_158.eq_1 ..) ?_
    refine wp_lt qf_227 ?_
    refine wp_of (f_X13_dances_83.eq_2 ..) ?_
    refine wp_ifp qf_302 ?_
    refine wp_ifp qf_118 ?_
    refine wp_of (f_X13_dances_175.eq_1 ..) ?_
    refine wp_gd (agK hK rfl ql_K_149) ?_
    refine wp_lt (agR hR rfl ql_R_149_3) ?_
    refine wp_lt (agR hR rfl ql_R_149_3) ?_
    refine wp_gd (agK hK rfl ql_K_168) ?_
    refine wp_gd (gZi (agZ hZ rfl ql_Z_168) qf_225) ?_
    refine wp_lt (gIk qf_46 (Eq.trans (gI_a rfl) (Eq.trans (gI_b rfl) (Eq.trans (gI_a rfl) (Eq.trans (gI_b rfl) (Eq.trans (gI_a rfl) (Eq.trans (gI_b rfl) hg3))))))) ?_
    refine wp_ltr ?_
    refine wp_lt (if_pos c1) ?_
    refine wp_gd (agK hK rfl ql_K_168) ?_
    refine wp_gd (gZi (agZ hZ rfl ql_Z_168) qf_225) ?_
    refine wp_zIk qf_46 ?_
    refine wp_of (f_X13_dances_193.eq_1 ..) ?_
    refine wp_bd ?_
    refine wp_of (f_X13_isBetween.eq_1 ..) ?_
    refine wp_ifp qf_208 ?_
    refine wp_of (f_X13_isBetween_14.eq_1 ..) ?_
    refine wp_of (f_X13_isBetween_15.eq_1 ..) ?_
    refine wp_gd qf_14 ?_
    refine wp_ret_bd ?_
    refine wp_ifp qf_15 ?_
    refine wp_of (f_X13_dances_225.eq_1 ..) ?_
    refine wp_gd (agK hK rfl ql_K_149) ?_
    refine wp_lt (agR hR rfl ql_R_149_4) ?_
    refine wp_ifp qf_118 ?_
    refine wp_lt (agR hR rfl ql_R_149_4) ?_
    refine wp_gd (agK hK rfl ql_K_169) ?_
    refine wp_gd (gZi (agZ hZ rfl ql_Z_169) qf_225) ?_
    refine wp_lt (gIk qf_46 (Eq.trans (gI_a rfl) (Eq.trans (gI_b rfl) (Eq.trans (gI_a rfl) (Eq.trans (gI_b rfl) (Eq.trans (gI_a rfl) (Eq.trans (gI_b rfl) (Eq.trans (gI_a rfl) (agI hI rfl ql_I_169_3))))))))) ?_
    refine wp_of (f_X13_dances_289.eq_1 ..) ?_
    refine wp_gd (agK hK rfl ql_K_169) ?_
    refine wp_gd (gZi (agZ hZ rfl ql_Z_169) qf_225) ?_
    refine wp_zIk qf_46 ?_
    refine wp_gd (agK hK rfl ql_K_149) ?_
    refine wp_lt (agR hR rfl ql_R_149_4) ?_
    refine wp_gd (agK hK rfl ql_K_169) ?_
    refine wp_gd (gZi (agZ hZ rfl ql_Z_169) qf_225) ?_
    refine wp_lt (gIk qf_46 gI_s) ?_
    refine wp_ifn qf_411 ?_
    refine wp_of (f_X13_dances_333.eq_1 ..) ?_
    refine wp_lt qf_227 ?_
    refine wp_of (f_X13_dances_61.eq_2 ..) ?_
    refine wp_ifn qf_228 ?_
    refine wp_gd (agK hK rfl ql_K_149) ?_
    refine wp_lt (agR hR rfl ql_R_149_2) ?_
    refine wp_gd (agK hK rfl ql_K_151) ?_
    refine wp_lt (gZo (agZ hZ rfl ql_Z_151) qf_92) ?_
    refine wp_of (f_X13_dances_83.eq_2 ..) ?_
    refine wp_ifn qf_298 ?_
    refine wp_gd (agK hK rfl ql_K_151) ?_
    refine wp_gd (gZi (agZ hZ rfl ql_Z_151) qf_97) ?_
    refine wp_lt (gRk qf_32 (agR hR rfl ql_R_151_0)) ?_
    refine wp_gd (agK hK rfl ql_K_149) ?_
    refine wp_bd ?_
    refine wp_of (f_X13_isHeard.eq_1 ..) ?_
    refine wp_gd (agK hK rfl ql_K_149) ?_
    refine wp_bd ?_
    refine wp_of (f_X13_levelOf.eq_1 ..) ?_
    refine wp_gd (agK hK rfl ql_K_152) ?_
    refine wp_lt (Eq.trans (gI_a rfl) (Eq.trans (gI_a rfl) (Eq.trans (gI_a rfl) (Eq.trans (gI_a rfl) (Eq.trans (gI_a rfl) (Eq.trans (gI_a rfl) (Eq.trans (gI_a rfl) (Eq.trans (gI_a rfl) (agI hI rfl ql_I_152_15))))))))) ?_
    refine wp_ifn qf_179 ?_
    refine wp_lt (Eq.trans (gI_a rfl) (Eq.trans (gI_a rfl) (Eq.trans (gI_a rfl) (Eq.trans (gI_a rfl) (Eq.trans (gI_a rfl) (Eq.trans (gI_a rfl) (Eq.trans (gI_a rfl) (Eq.trans (gI_a rfl) (agI hI rfl ql_I_152_15))))))))) ?_
    refine wp_ifn qf_163 ?_
    refine wp_of (f_X13_levelOf_49.eq_1 ..) ?_
    refine wp_gd (agK hK rfl ql_K_152) ?_
    refine wp_lt (Eq.trans (gI_a rfl) (Eq.trans (gI_a rfl) (Eq.trans (gI_a rfl) (Eq.trans (gI_a rfl) (Eq.trans (gI_a rfl) (Eq.trans (gI_a rfl) (Eq.trans (gI_a rfl) (Eq.trans (gI_a rfl) (agI hI rfl ql_I_152_13))))))))) ?_
    refine wp_ifp qf_15 ?_
    refine wp_of (f_X13_levelOf_70.eq_1 ..) ?_
    refine wp_ret_bd ?_
    refine wp_ifp qf_303 ?_
    refine wp_of (f_X13_isHeard_15.eq_1 ..) ?_
    refine wp_gd qf_14 ?_
    refine wp_ret_bd ?_
    refine wp_ifp qf_15 ?_
    refine wp_of (f_X13_dances_158.eq_1 ..) ?_
    refine wp_lt qf_153 ?_
    refine wp_of (f_X13_dances_83.eq_2 ..) ?_
    refine wp_ifn qf_299 ?_
    refine wp_gd (agK hK rfl ql_K_151) ?_
    refine wp_gd (gZi (agZ hZ rfl ql_Z_151) qf_99) ?_
    refine wp_lt (gRk qf_36 (agR hR rfl ql_R_151_1)) ?_
    refine wp_gd (agK hK rfl ql_K_149) ?_
    refine wp_bd ?_
    refine wp_of (f_X13_isHeard.eq_1 ..) ?_
    refine wp_gd (agK hK rfl ql_K_149) ?_
    refine wp_bd ?_
    refine wp_of (f_X13_levelOf.eq_1 ..) ?_
    refine wp_gd (agK hK rfl ql_K_156) ?_
    refine wp_lt (Eq.trans (gI_a rfl) (Eq.trans (gI_a rfl) (Eq.trans (gI_a rfl) (Eq.trans (gI_a rfl) (Eq.trans (gI_a rfl) (Eq.trans (gI_a rfl) (Eq.trans (gI_a rfl) (Eq.trans (gI_a rfl) (agI hI rfl ql_I_156_15))))))))) ?_
    refine wp_ifn qf_179 ?_
    refine wp_lt (Eq.trans (gI_a rfl) (Eq.trans (gI_a rfl) (Eq.trans (gI_a rfl) (Eq.trans (gI_a rfl) (Eq.trans (gI_a rfl) (Eq.trans (gI_a rfl) (Eq.trans (gI_a rfl) (Eq.trans (gI_a rfl) (agI hI rfl ql_I_156_15))))))))) ?_
    refine wp_ifn qf_163 ?_
    refine wp_of (f_X13_levelOf_49.eq_1 ..) ?_
    refine wp_gd (agK hK rfl ql_K_156) ?_
    refine wp_lt (Eq.trans (gI_a rfl) (Eq.trans (gI_a rfl) (Eq.trans (gI_a rfl) (Eq.trans (gI_a rfl) (Eq.trans (gI_a rfl) (Eq.trans (gI_a rfl) (Eq.trans (gI_a rfl) (Eq.trans (gI_a rfl) (agI hI rfl ql_I_156_13))))))))) ?_
    refine wp_ifp qf_15 ?_
    refine wp_of (f_X13_levelOf_70.eq_1 ..) ?_
    refine wp_ret_bd ?_
    refine wp_ifp qf_303 ?_
    refine wp_of (f_X13_isHeard_15.eq_1 ..) ?_
    refine wp_gd qf_14 ?_
    refine wp_ret_bd ?_
    refine wp_ifp qf_15 ?_
    refine wp_of (f_X13_dances_158.eq_1 ..) ?_
    refine wp_lt qf_164 ?_
    refine wp_of (f_X13_dances_83.eq_2 ..) ?_
    refine wp_ifn qf_300 ?_
    refine wp_gd (agK hK rfl ql_K_151) ?_
    refine wp_gd (gZi (agZ hZ rfl ql_Z_151) qf_102) ?_
    refine wp_lt (gRk qf_41 (agR hR rfl ql_R_151_2)) ?_
    refine wp_gd (agK hK rfl ql_K_149) ?_
    refine wp_bd ?_
    refine wp_of (f_X13_isHeard.eq_1 ..) ?_
    refine wp_gd (agK hK rfl ql_K_149) ?_
    refine wp_bd ?_
    refine wp_of (f_X13_levelOf.eq_1 ..) ?_
    refine wp_gd (agK hK rfl ql_K_160) ?_
    refine wp_lt (Eq.trans (gI_a rfl) (Eq.trans (gI_a rfl) (Eq.trans (gI_a rfl) (Eq.trans (gI_a rfl) (Eq.trans (gI_a rfl) (Eq.trans (gI_a rfl) (Eq.trans (gI_a rfl) (Eq.trans (gI_a rfl) (agI hI rfl ql_I_160_15))))))))) ?_
    refine wp_ifn qf_179 ?_
    refine wp_lt (Eq.trans (gI_a rfl) (Eq.trans (gI_a rfl) (Eq.trans (gI_a rfl) (Eq.trans (gI_a rfl) (Eq.trans (gI_a rfl) (Eq.trans (gI_a rfl) (Eq.trans (gI_a rfl) (Eq.trans (gI_a rfl) (agI hI rfl ql_I_160_15))))))))) ?_
    refine wp_ifn qf_163 ?_
    refine wp_of (f_X13_levelOf_49.eq_1 ..) ?_
    refine wp_gd (agK hK rfl ql_K_160) ?_
    refine wp_lt (Eq.trans (gI_a rfl) (Eq.trans (gI_a rfl) (Eq.trans (gI_a rfl) (Eq.trans (gI_a rfl) (Eq.trans (gI_a rfl) (Eq.trans (gI_a rfl) (Eq.trans (gI_a rfl) (Eq.trans (gI_a rfl) (agI hI rfl ql_I_160_13))))))))) ?_
    refine wp_ifp qf_15 ?_
    refine wp_of (f_X13_levelOf_70.eq_1 ..) ?_
    refine wp_ret_bd ?_
    refine wp_ifp qf_303 ?_
    refine wp_of (f_X13_isHeard_15.eq_1 ..) ?_
    refine wp_gd qf_14 ?_
    refine wp_ret_bd ?_
    refine wp_ifp qf_15 ?_
    refine wp_of (f_X13_dances_158.eq_1 ..) ?_
    refine wp_lt qf_177 ?_
    refine wp_of (f_X13_dances_83.eq_2 ..) ?_
    refine wp_ifn qf_301 ?_
    refine wp_gd (agK hK rfl ql_K_151) ?_
    refine wp_gd (gZi (agZ hZ rfl ql_Z_151) qf_105) ?_
    refine wp_lt (gRk qf_46 (agR hR rfl ql_R_151_3)) ?_
    refine wp_gd (agK hK rfl ql_K_149) ?_
    refine wp_bd ?_
    refine wp_of (f_X13_isHeard.eq_1 ..) ?_
    refine wp_gd (agK hK rfl ql_K_149) ?_
    refine wp_bd ?_
    refine wp_of (f_X13_levelOf.eq_1 ..) ?_
    refine wp_gd (agK hK rfl ql_K_164) ?_
    refine wp_lt (Eq.trans (gI_a rfl) (Eq.trans (gI_a rfl) (Eq.trans (gI_a rfl) (Eq.trans (gI_a rfl) (Eq.trans (gI_a rfl) (Eq.trans (gI_a rfl) (Eq.trans (gI_a rfl) (Eq.trans (gI_a rfl) (agI hI rfl ql_I_164_15))))))))) ?_
    refine wp_ifn qf_179 ?_
    refine wp_lt (Eq.trans (gI_a rfl) (Eq.trans (gI_a rfl) (Eq.trans (gI_a rfl) (Eq.trans (gI_a rfl) (Eq.trans (gI_a rfl) (Eq.trans (gI_a rfl) (Eq.trans (gI_a rfl) (Eq.trans (gI_a rfl) (agI hI rfl ql_I_164_15))))))))) ?_
    refine wp_ifn qf_163 ?_
    refine wp_of (f_X13_levelOf_49.eq_1 ..) ?_
    refine wp_gd (agK hK rfl ql_K_164) ?_
    refine wp_lt (Eq.trans (gI_a rfl) (Eq.trans (gI_a rfl) (Eq.trans (gI_a rfl) (Eq.trans (gI_a rfl) (Eq.trans (gI_a rfl) (Eq.trans (gI_a rfl) (Eq.trans (gI_a rfl) (Eq.trans (gI_a rfl) (agI hI rfl ql_I_164_13))))))))) ?_
    refine wp_ifp qf_15 ?_
    refine wp_of (f_X13_levelOf_70.eq_1 ..) ?_
    refine wp_ret_bd ?_
    refine wp_ifp qf_303 ?_
    refine wp_of (f_X13_isHeard_15.eq_1 ..) ?_
    refine wp_gd qf_14 ?_
    refine wp_ret_bd ?_
    refine wp_ifp qf_15 ?_
    refine wp_of (f_X13_dances_158.eq_1 ..) ?_
    refine wp_lt qf_227 ?_
    refine wp_of (f_X13_dances_83.eq_2 ..) ?_
    refine wp_ifp qf_302 ?_
    refine wp_ifp qf_118 ?_
    refine wp_of (f_X13_dances_175.eq_1 ..) ?_
    refine wp_gd (agK hK rfl ql_K_149) ?_
    refine wp_lt (agR hR rfl ql_R_149_3) ?_
    refine wp_lt (agR hR rfl ql_R_149_3) ?_
    refine wp_gd (agK hK rfl ql_K_168) ?_
    refine wp_gd (gZi (agZ hZ rfl ql_Z_168) qf_229) ?_
    refine wp_lt (gIk qf_51 (Eq.trans (gI_a rfl) (Eq.trans (gI_b rfl) (Eq.trans (gI_a rfl) (Eq.trans (gI_b rfl) (Eq.trans (gI_a rfl) (Eq.trans (gI_b rfl) (Eq.trans (gI_a rfl) (Eq.trans (gI_b rfl) hg4))))))))) ?_
    refine wp_ltr ?_
    refine wp_lt (if_pos c1) ?_
    refine wp_gd (agK hK rfl ql_K_168) ?_
    refine wp_gd (gZi (agZ hZ rfl ql_Z_168) qf_229) ?_
    refine wp_zIk qf_51 ?_
    refine wp_of (f_X13_dances_193.eq_1 ..) ?_
    refine wp_bd ?_
    refine wp_of (f_X13_isBetween.eq_1 ..) ?_
    refine wp_ifp qf_208 ?_
    refine wp_of (f_X13_isBetween_14.eq_1 ..) ?_
    refine wp_of (f_X13_isBetween_15.eq_1 ..) ?_
    refine wp_gd qf_14 ?_
    refine wp_ret_bd ?_
    refine wp_ifp qf_15 ?_
    refine wp_of (f_X13_dances_225.eq_1 ..) ?_
    refine wp_gd (agK hK rfl ql_K_149) ?_
    refine wp_lt (agR hR rfl ql_R_149_4) ?_
    refine wp_ifp qf_118 ?_
    refine wp_lt (agR hR rfl ql_R_149_4) ?_
    refine wp_gd (agK hK rfl ql_K_169) ?_
    refine wp_gd (gZi (agZ hZ rfl ql_Z_169) qf_229) ?_
    refine wp_lt (gIk qf_51 (Eq.trans (gI_a rfl) (Eq.trans (gI_b rfl) (Eq.trans (gI_a rfl) (Eq.trans (gI_b rfl) (Eq.trans (gI_a rfl) (Eq.trans (gI_b rfl) (Eq.trans (gI_a rfl) (Eq.trans (gI_b rfl) (Eq.trans (gI_a rfl) (agI hI rfl ql_I_169_4))))))))))) ?_
    refine wp_of (f_X13_dances_289.eq_1 ..) ?_
    refine wp_gd (agK hK rfl ql_K_169) ?_
    refine wp_gd (gZi (agZ hZ rfl ql_Z_169) qf_229) ?_
    refine wp_zIk qf_51 ?_
    refine wp_gd (agK hK rfl ql_K_149) ?_
    refine wp_lt (agR hR rfl ql_R_149_4) ?_
    refine wp_gd (agK hK rfl ql_K_169) ?_
    refine wp_gd (gZi (agZ hZ rfl ql_Z_169) qf_229) ?_
    refine wp_lt (gIk qf_51 gI_s) ?_
    refine wp_ifn qf_411 ?_
    refine wp_of (f_X13_dances_333.eq_1 ..) ?_
    refine wp_lt qf_231 ?_
    refine wp_of (f_X13_dances_61.eq_2 ..) ?_
    refine wp_ifn qf_232 ?_
    refine wp_gd (agK hK rfl ql_K_149) ?_
    refine wp_lt (agR hR rfl ql_R_149_2) ?_
    refine wp_gd (agK hK rfl ql_K_151) ?_
    refine wp_lt (gZo (agZ hZ rfl ql_Z_151) qf_92) ?_
    refine wp_of (f_X13_dances_83.eq_2 ..) ?_
    refine wp_ifn qf_298 ?_
    refine wp_gd (agK hK rfl ql_K_151) ?_
    refine wp_gd (gZi (agZ hZ rfl ql_Z_151) qf_97) ?_
    refine wp_lt (gRk qf_32 (agR hR rfl ql_R_151_0)) ?_
    refine wp_gd (agK hK rfl ql_K_149) ?_
    refine wp_bd ?_
    refine wp_of (f_X13_isHeard.eq_1 ..) ?_
    refine wp_gd (agK hK rfl ql_K_149) ?_
    refine wp_bd ?_
    refine wp_of (f_X13_levelOf.eq_1 ..) ?_
    refine wp_gd (agK hK rfl ql_K_152) ?_
    refine wp_lt (Eq.trans (gI_a rfl) (Eq.trans (gI_a rfl) (Eq.trans (gI_a rfl) (Eq.trans (gI_a rfl) (Eq.trans (gI_a rfl) (Eq.trans (gI_a rfl) (Eq.trans (gI_a rfl) (Eq.trans (gI_a rfl) (Eq.trans (gI_a rfl) (Eq.trans (gI_a rfl) (agI hI rfl ql_I_152_15))))))))))) ?_
    refine wp_ifn qf_179 ?_
    refine wp_lt (Eq.trans (gI_a rfl) (Eq.trans (gI_a rfl) (Eq.trans (gI_a rfl) (Eq.trans (gI_a rfl) (Eq.trans (gI_a rfl) (Eq.trans (gI_a rfl) (Eq.trans (gI_a rfl) (Eq.trans (gI_a rfl) (Eq.trans (gI_a rfl) (Eq.trans (gI_a rfl) (agI hI rfl ql_I_152_15))))))))))) ?_
    refine wp_ifn qf_163 ?_
    refine wp_of (f_X13_levelOf_49.eq_1 ..) ?_
    refine wp_gd (agK hK rfl ql_K_152) ?_
    refine wp_lt (Eq.trans (gI_a rfl) (Eq.trans (gI_a rfl) (Eq.trans (gI_a rfl) (Eq.trans (gI_a rfl) (Eq.trans (gI_a rfl) (Eq.trans (gI_a rfl) (Eq.trans (gI_a rfl) (Eq.trans (gI_a rfl) (Eq.trans (gI_a rfl) (Eq.trans (gI_a rfl) (agI hI rfl ql_I_152_13))))))))))) ?_
    refine wp_ifp qf_15 ?_
    refine wp_of (f_X13_levelOf_70.eq_1 ..) ?_
    refine wp_ret_bd ?_
    refine wp_ifp qf_303 ?_
    refine wp_of (f_X13_isHeard_15.eq_1 ..) ?_
    refine wp_gd qf_14 ?_
    refine wp_ret_bd ?_
    refine wp_ifp qf_15 ?_
    refine wp_of (f_X13_dances_158.eq_1 ..) ?_
    refine wp_lt qf_153 ?_
    refine wp_of (f_X13_dances_83.eq_2 ..) ?_
    refine wp_ifn qf_299 ?_
    refine wp_gd (agK hK rfl ql_K_151) ?_
    refine wp_gd (gZi (agZ hZ rfl ql_Z_151) qf_99) ?_
    refine wp_lt (gRk qf_36 (agR hR rfl ql_R_151_1)) ?_
    refine wp_gd (agK hK rfl ql_K_149) ?_
    refine wp_bd ?_
    refine wp_of (f_X13_isHeard.eq_1 ..) ?_
    refine wp_gd (agK hK rfl ql_K_149) ?_
    refine wp_bd ?_
    refine wp_of (f_X13_levelOf.eq_1 ..) ?_
    refine wp_gd (agK hK rfl ql_K_156) ?_
    refine wp_lt (Eq.trans (gI_a rfl) (Eq.trans (gI_a rfl) (Eq.trans (gI_a rfl) (Eq.trans (gI_a rfl) (Eq.trans (gI_a rfl) (Eq.trans (gI_a rfl) (Eq.trans (gI_a rfl) (Eq.trans (gI_a rfl) (Eq.trans (gI_a rfl) (Eq.trans (gI_a rfl) (agI hI rfl ql_I_156_15))))))))))) ?_
    refine wp_ifn qf_179 ?_
    refine wp_lt (Eq.trans (gI_a rfl) (Eq.trans (gI_a rfl) (Eq.trans (gI_a rfl) (Eq.trans (gI_a rfl) (Eq.trans (gI_a rfl) (Eq.trans (gI_a rfl) (Eq.trans (gI_a rfl) (Eq.trans (gI_a rfl) (Eq.trans (gI_a rfl) (Eq.trans (gI_a rfl) (agI hI rfl ql_I_156_15))))))))))) ?_
    refine wp_ifn qf_163 ?_
    refine wp_of (f_X13_levelOf_49.eq_1 ..) ?_
    refine wp_gd (agK hK rfl ql_K_156) ?_
    refine wp_lt (Eq.trans (gI_a rfl) (Eq.trans (gI_a rfl) (Eq.trans (gI_a rfl) (Eq.trans (gI_a rfl) (Eq.trans (gI_a rfl) (Eq.trans (gI_a rfl) (Eq.trans (gI_a rfl) (Eq.trans (gI_a rfl) (Eq.trans (gI_a rfl) (Eq.trans (gI_a rfl) (agI hI rfl ql_I_156_13))))))))))) ?_
    refine wp_ifp qf_15 ?_
    refine wp_of (f_X13_levelOf_70.eq_1 ..) ?_
    refine wp_ret_bd ?_
    refine wp_ifp qf_303 ?_
    refine wp_of (f_X13_isHeard_15.eq_1 ..) ?_
    refine wp_gd qf_14 ?_
    refine wp_ret_bd ?_
    refine wp_ifp qf_15 ?_
    refine wp_of (f_X13_dances_158.eq_1 ..) ?_
    refine wp_lt qf_164 ?_
    refine wp_of (f_X13_dances_83.eq_2 ..) ?_
    refine wp_ifn qf_300 ?_
    refine wp_gd (agK hK rfl ql_K_151) ?_
    refine wp_gd (gZi (agZ hZ rfl ql_Z_151) qf_102) ?_
    refine wp_lt (gRk qf_41 (agR hR rfl ql_R_151_2)) ?_
    refine wp_gd (agK hK rfl ql_K_149) ?_
    refine wp_bd ?_
    refine wp_of (f_X13_isHeard.eq_1 ..) ?_
    refine wp_gd (agK hK rfl ql_K_149) ?_
    refine wp_bd ?_
    refine wp_of (f_X13_levelOf.eq_1 ..) ?_
    refine wp_gd (agK hK rfl ql_K_160) ?_
    refine wp_lt (Eq.trans (gI_a rfl) (Eq.trans (gI_a rfl) (Eq.trans (gI_a rfl) (Eq.trans (gI_a rfl) (Eq.trans (gI_a rfl) (Eq.trans (gI_a rfl) (Eq.trans (gI_a rfl) (Eq.trans (gI_a rfl) (Eq.trans (gI_a rfl) (Eq.trans (gI_a rfl) (agI hI rfl ql_I_160_15))))))))))) ?_
    refine wp_ifn qf_179 ?_
    refine wp_lt (Eq.trans (gI_a rfl) (Eq.trans (gI_a rfl) (Eq.trans (gI_a rfl) (Eq.trans (gI_a rfl) (Eq.trans (gI_a rfl) (Eq.trans (gI_a rfl) (Eq.trans (gI_a rfl) (Eq.trans (gI_a rfl) (Eq.trans (gI_a rfl) (Eq.trans (gI_a rfl) (agI hI rfl ql_I_160_15))))))))))) ?_
    refine wp_ifn qf_163 ?_
    refine wp_of (f_X13_levelOf_49.eq_1 ..) ?_
    refine wp_gd (agK hK rfl ql_K_160) ?_
    refine wp_lt (Eq.trans (gI_a rfl) (Eq.trans (gI_a rfl) (Eq.trans (gI_a rfl) (Eq.trans (gI_a rfl) (Eq.trans (gI_a rfl) (Eq.trans (gI_a rfl) (Eq.trans (gI_a rfl) (Eq.trans (gI_a rfl) (Eq.trans (gI_a rfl) (Eq.trans (gI_a rfl) (agI hI rfl ql_I_160_13))))))))))) ?_
    refine wp_ifp qf_15 ?_
    refine wp_of (f_X13_levelOf_70.eq_1 ..) ?_
    refine wp_ret_bd ?_
    refine wp_ifp qf_303 ?_
    refine wp_of (f_X13_isHeard_15.eq_1 ..) ?_
    refine wp_gd qf_14 ?_
    refine wp_ret_bd ?_
    refine wp_ifp qf_15 ?_
    refine wp_of (f_X13_dances_158.eq_1 ..) ?_
    refine wp_lt qf_177 ?_
    refine wp_of (f_X13_dances_83.eq_2 ..) ?_
    refine wp_ifn qf_301 ?_
    refine wp_gd (agK hK rfl ql_K_151) ?_
    refine wp_gd (gZi (agZ hZ rfl ql_Z_151) qf_105) ?_
    refine wp_lt (gRk qf_46 (agR hR rfl ql_R_151_3)) ?_
    refine wp_gd (agK hK rfl ql_K_149) ?_
    refine wp_bd ?_
    refine wp_of (f_X13_isHeard.eq_1 ..) ?_
    refine wp_gd (agK hK rfl ql_K_149) ?_
    refine wp_bd ?_
    refine wp_of (f_X13_levelOf.eq_1 ..) ?_
    refine wp_gd (agK hK rfl ql_K_164) ?_
    refine wp_lt (Eq.trans (gI_a rfl) (Eq.trans (gI_a rfl) (Eq.trans (gI_a rfl) (Eq.trans (gI_a rfl) (Eq.trans (gI_a rfl) (Eq.trans (gI_a rfl) (Eq.trans (gI_a rfl) (Eq.trans (gI_a rfl) (Eq.trans (gI_a rfl) (Eq.trans (gI_a rfl) (agI hI rfl ql_I_164_15))))))))))) ?_
    refine wp_ifn qf_179 ?_
    refine wp_lt (Eq.trans (gI_a rfl) (Eq.trans (gI_a rfl) (Eq.trans (gI_a rfl) (Eq.trans (gI_a rfl) (Eq.trans (gI_a rfl) (Eq.trans (gI_a rfl) (Eq.trans (gI_a rfl) (Eq.trans (gI_a rfl) (Eq.trans (gI_a rfl) (Eq.trans (gI_a rfl) (agI hI rfl ql_I_164_15))))))))))) ?_
    refine wp_ifn qf_163 ?_
    refine wp_of (f_X13_levelOf_49.eq_1 ..) ?_
    refine wp_gd (agK hK rfl ql_K_164) ?_
    refine wp_lt (Eq.trans (gI_a rfl) (Eq.trans (gI_a rfl) (Eq.trans (gI_a rfl) (Eq.trans (gI_a rfl) (Eq.trans (gI_a rfl) (Eq.trans (gI_a rfl) (Eq.trans (gI_a rfl) (Eq.trans (gI_a rfl) (Eq.trans (gI_a rfl) (Eq.trans (gI_a rfl) (agI hI rfl ql_I_164_13))))))))))) ?_
    refine wp_ifp qf_15 ?_
    refine wp_of (f_X13_levelOf_70.eq_1 ..) ?_
    refine wp_ret_bd ?_
    refine wp_ifp qf_303 ?_
    refine wp_of (f_X13_isHeard_15.eq_1 ..) ?_
    refine wp_gd qf_14 ?_
    refine wp_ret_bd ?_
    refine wp_ifp qf_15 ?_
    refine wp_of (f_X13_dances_158.eq_1 ..) ?_
    refine wp_lt qf_227 ?_
    refine wp_of (f_X13_dances_83.eq_2 ..) ?_
    refine wp_ifp qf_302 ?_
    refine wp_ifp qf_118 ?_
    refine wp_of (f_X13_dances_175.eq_1 ..) ?_
    refine wp_gd (agK hK rfl ql_K_149) ?_
    refine wp_lt (agR hR rfl ql_R_149_3) ?_
    refine wp_lt (agR hR rfl ql_R_149_3) ?_
    refine wp_gd (agK hK rfl ql_K_168) ?_
    refine wp_gd (gZi (agZ hZ rfl ql_Z_168) qf_233) ?_
    refine wp_lt (gIk qf_56 (Eq.trans (gI_a rfl) (Eq.trans (gI_b rfl) (Eq.trans (gI_a rfl) (Eq.trans (gI_b rfl) (Eq.trans (gI_a rfl) (Eq.trans (gI_b rfl) (Eq.trans (gI_a rfl) (Eq.trans (gI_b rfl) (Eq.trans (gI_a rfl) (Eq.trans (gI_b rfl) hg5))))))))))) ?_
    refine wp_ltr ?_
    refine wp_lt (if_pos c1) ?_
    refine wp_gd (agK hK rfl ql_K_168) ?_
    refine wp_gd (gZi (agZ hZ rfl ql_Z_168) qf_233) ?_
    refine wp_zIk qf_56 ?_
    refine wp_of (f_X13_dances_193.eq_1 ..) ?_
    refine wp_bd ?_
    refine wp_of (f_X13_isBetween.eq_1 ..) ?_
    refine wp_ifp qf_208 ?_
    refine wp_of (f_X13_isBetween_14.eq_1 ..) ?_
    refine wp_of (f_X13_isBetween_15.eq_1 ..) ?_
    refine wp_gd qf_14 ?_
    refine wp_ret_bd ?_
    refine wp_ifp qf_15 ?_
    refine wp_of (f_X13_dances_225.eq_1 ..) ?_
    refine wp_gd (agK hK rfl ql_K_149) ?_
    refine wp_lt (agR hR rfl ql_R_149_4) ?_
    refine wp_ifp qf_118 ?_
    refine wp_lt (agR hR rfl ql_R_149_4) ?_
    refine wp_gd (agK hK rfl ql_K_169) ?_
    refine wp_gd (gZi (agZ hZ rfl ql_Z_169) qf_233) ?_
    refine wp_lt (gIk qf_56 (Eq.trans (gI_a rfl) (Eq.trans (gI_b rfl) (Eq.trans (gI_a rfl) (Eq.trans (gI_b rfl) (Eq.trans (gI_a rfl) (Eq.trans (gI_b rfl) (Eq.trans (gI_a rfl) (Eq.trans (gI_b rfl) (Eq.trans (gI_a rfl) (Eq.trans (gI_b rfl) (Eq.trans (gI_a rfl) (agI hI rfl ql_I_169_5))))))))))))) ?_
    refine wp_of (f_X13_dances_289.eq_1 ..) ?_
    refine wp_gd (agK hK rfl ql_K_169) ?_
    refine wp_gd (gZi (agZ hZ rfl ql_Z_169) qf_233) ?_
    refine wp_zIk qf_56 ?_
    refine wp_gd (agK hK rfl ql_K_149) ?_
    refine wp_lt (agR hR rfl ql_R_149_4) ?_
    refine wp_gd (agK hK rfl ql_K_169) ?_
    refine wp_gd (gZi (agZ hZ rfl ql_Z_169) qf_233) ?_
    refine wp_lt (gIk qf_56 gI_s) ?_
    refine wp_ifn qf_411 ?_
    refine wp_of (f_X13_dances_333.eq_1 ..) ?_
    refine wp_lt qf_235 ?_
    refine wp_of (f_X13_dances_61.eq_2 ..) ?_
    refine wp_ifp qf_236 ?_
    refine wp_ret_bd ?_
    exact hrc _ _ ⟨(ag_p2s (lkI ql_I_169_5) (ag_p2 rfl (ag_p2s (lkI ql_I_169_4) (ag_p2 rfl (ag_p2s (lkI ql_I_169_3) (ag_p2 rfl (ag_p2s (lkI ql_I_169_2) (ag_p2 rfl (ag_p2s (lkI ql_I_169_1) (ag_p2 rfl (ag_p2s (lkI ql_I_169_0) (ag_p2 rfl hI)))))))))))), hL, hR, hK, hZ, hw, (Eq.trans (gI_a rfl) (Eq.trans (gI_a rfl) (Eq.trans (gI_a rfl) (Eq.trans (gI_a rfl) (Eq.trans (gI_a rfl) (Eq.trans (gI_a rfl) (Eq.trans (gI_a rfl) (Eq.trans (gI_a rfl) (Eq.trans (gI_a rfl) (Eq.trans (gI_a rfl) (Eq.trans (gI_a rfl) (Eq.trans (gI_a rfl) ht)))))))))))), (Eq.trans (gI_a rfl) (Eq.trans (gI_a rfl) (Eq.trans (gI_a rfl) (Eq.trans (gI_a rfl) (Eq.trans (gI_a rfl) (Eq.trans (gI_a rfl) (Eq.trans (gI_a rfl) (Eq.trans (gI_a rfl) (Eq.trans (gI_a rfl) (Eq.trans (gI_a rfl) (Eq.trans (gI_a rfl) (Eq.trans (gI_a rfl) hu)))))))))))), (Eq.trans (gI_a rfl) (Eq.trans (gI_b rfl) (Eq.trans (gI_a rfl) (Eq.trans (gI_b rfl) (Eq.trans (gI_a rfl) (Eq.trans (gI_b rfl) (Eq.trans (gI_a rfl) (Eq.trans (gI_b rfl) (Eq.trans (gI_a rfl) (Eq.trans (gI_b rfl) (Eq.trans (gI_a rfl) gI_s))))))))))), (Eq.trans (gI_a rfl) (Eq.trans (gI_b rfl) (Eq.trans (gI_a rfl) (Eq.trans (gI_b rfl) (Eq.trans (gI_a rfl) (Eq.trans (gI_b rfl) (Eq.trans (gI_a rfl) (Eq.trans (gI_b rfl) (Eq.trans (gI_a rfl) gI_s))))))))), (Eq.trans (gI_a rfl) (Eq.trans (gI_b rfl) (Eq.trans (gI_a rfl) (Eq.trans (gI_b rfl) (Eq.trans (gI_a rfl) (Eq.trans (gI_b rfl) (Eq.trans (gI_a rfl) gI_s))))))), (Eq.trans (gI_a rfl) (Eq.trans (gI_b rfl) (Eq.trans (gI_a rfl) (Eq.trans (gI_b rfl) (Eq.trans (gI_a rfl) gI_s))))), (Eq.trans (gI_a rfl) (Eq.trans (gI_b rfl) (Eq.trans (gI_a rfl) gI_s))), (Eq.trans (gI_a rfl) gI_s)⟩
  · skip
    refine wp_gd (agK hK rfl ql_K_168) ?_
    refine wp_gd (gZi (agZ hZ rfl ql_Z_168) qf_216) ?_
    refine wp_zIk qf_32 ?_
    refine wp_of (f_X13_dances_193.eq_1 ..) ?_
    refine wp_bd ?_
    refine wp_of (f_X13_isBetween.eq_1 ..) ?_
    refine wp_ifp qf_208 ?_
    refine wp_of (f_X13_isBetween_14.eq_1 ..) ?_
    refine wp_of (f_X13_isBetween_15.eq_1 ..) ?_
    refine wp_gd qf_14 ?_
    refine wp_ret_bd ?_
    refine wp_ifp qf_15 ?_
    refine wp_of (f_X13_dances_225.eq_1 ..) ?_
    refine wp_gd (agK hK rfl ql_K_149) ?_
    refine wp_lt (agR hR rfl ql_R_149_4) ?_
    refine wp_ifp qf_118 ?_
    refine wp_lt (agR hR rfl ql_R_149_4) ?_
    refine wp_gd (agK hK rfl ql_K_169) ?_
    refine wp_gd (gZi (agZ hZ rfl ql_Z_169) qf_216) ?_
    refine wp_lt (gIk qf_32 (Eq.trans (gI_a rfl) (agI hI rfl ql_I_169_0))) ?_
    refine wp_of (f_X13_dances_289.eq_1 ..) ?_
    refine wp_gd (agK hK rfl ql_K_169) ?_
    refine wp_gd (gZi (agZ hZ rfl ql_Z_169) qf_216) ?_
    refine wp_zIk qf_32 ?_
    refine wp_gd (agK hK rfl ql_K_149) ?_
    refine wp_lt (agR hR rfl ql_R_149_4) ?_
    refine wp_gd (agK hK rfl ql_K_169) ?_
    refine wp_gd (gZi (agZ hZ rfl ql_Z_169) qf_216) ?_
    refine wp_lt (gIk qf_32 gI_s) ?_
    refine wp_ifn qf_411 ?_
    refine wp_of (f_X13_dances_333.eq_1 ..) ?_
    refine wp_lt qf_153 ?_
    refine wp_of (f_X13_dances_61.eq_2 ..) ?_
    refine wp_ifn qf_218 ?_
    refine wp_gd (agK hK rfl ql_K_149) ?_
    refine wp_lt (agR hR rfl ql_R_149_2) ?_
    refine wp_gd (agK hK rfl ql_K_151) ?_
    refine wp_lt (gZo (agZ hZ rfl ql_Z_151) qf_92) ?_
    refine wp_of (f_X13_dances_83.eq_2 ..) ?_
    refine wp_ifn qf_298 ?_
    refine wp_gd (agK hK rfl ql_K_151) ?_
    refine wp_gd (gZi (agZ hZ rfl ql_Z_151) qf_97) ?_
    refine wp_lt (gRk qf_32 (agR hR rfl ql_R_151_0)) ?_
    refine wp_gd (agK hK rfl ql_K_149) ?_
    refine wp_bd ?_
    refine wp_of (f_X13_isHeard.eq_1 ..) ?_
    refine wp_gd (agK hK rfl ql_K_149) ?_
    refine wp_bd ?_
    refine wp_of (f_X13_levelOf.eq_1 ..) ?_
    refine wp_gd (agK hK rfl ql_K_152) ?_
    refine wp_lt (Eq.trans (gI_a rfl) (Eq.trans (gI_a rfl) (agI hI rfl ql_I_152_15))) ?_
    refine wp_ifn qf_179 ?_
    refine wp_lt (Eq.trans (gI_a rfl) (Eq.trans (gI_a rfl) (agI hI rfl ql_I_152_15))) ?_
    refine wp_ifn qf_163 ?_
    refine wp_of (f_X13_levelOf_49.eq_1 ..) ?_
    refine wp_gd (agK hK rfl ql_K_152) ?_
    refine wp_lt (Eq.trans (gI_a rfl) (Eq.trans (gI_a rfl) (agI hI rfl ql_I_152_13))) ?_
    refine wp_ifp qf_15 ?_
    refine wp_of (f_X13_levelOf_70.eq_1 ..) ?_
    refine wp_ret_bd ?_
    refine wp_ifp qf_303 ?_
    refine wp_of (f_X13_isHeard_15.eq_1 ..) ?_
    refine wp_gd qf_14 ?_
    refine wp_ret_bd ?_
    refine wp_ifp qf_15 ?_
    refine wp_of (f_X13_dances_158.eq_1 ..) ?_
    refine wp_lt qf_153 ?_
    refine wp_of (f_X13_dances_83.eq_2 ..) ?_
    refine wp_ifn qf_299 ?_
    refine wp_gd (agK hK rfl ql_K_151) ?_
    refine wp_gd (gZi (agZ hZ rfl ql_Z_151) qf_99) ?_
    refine wp_lt (gRk qf_36 (agR hR rfl ql_R_151_1)) ?_
    refine wp_gd (agK hK rfl ql_K_149) ?_
    refine wp_bd ?_
    refine wp_of (f_X13_isHeard.eq_1 ..) ?_
    refine wp_gd (agK hK rfl ql_K_149) ?_
    refine wp_bd ?_
    refine wp_of (f_X13_levelOf.eq_1 ..) ?_
    refine wp_gd (agK hK rfl ql_K_156) ?_
    refine wp_lt (Eq.trans (gI_a rfl) (Eq.trans (gI_a rfl) (agI hI rfl ql_I_156_15))) ?_
    refine wp_ifn qf_179 ?_
    refine wp_lt (Eq.trans (gI_a rfl) (Eq.trans (gI_a rfl) (agI hI rfl ql_I_156_15))) ?_
    refine wp_ifn qf_163 ?_
    refine wp_of (f_X13_levelOf_49.eq_1 ..) ?_
    refine wp_gd (agK hK rfl ql_K_156) ?_
    refine wp_lt (Eq.trans (gI_a rfl) (Eq.trans (gI_a rfl) (agI hI rfl ql_I_156_13))) ?_
    refine wp_ifp qf_15 ?_
    refine wp_of (f_X13_levelOf_70.eq_1 ..) ?_
    refine wp_ret_bd ?_
    refine wp_ifp qf_303 ?_
    refine wp_of (f_X13_isHeard_15.eq_1 ..) ?_
    refine wp_gd qf_14 ?_
    refine wp_ret_bd ?_
    refine wp_ifp qf_15 ?_
    refine wp_of (f_X13_dances_158.eq_1 ..) ?_
    refine wp_lt qf_164 ?_
    refine wp_of (f_X13_dances_83.eq_2 ..) ?_
    refine wp_ifn qf_300 ?_
    refine wp_gd (agK hK rfl ql_K_151) ?_
    refine wp_gd (gZi (agZ hZ rfl ql_Z_151) qf_102) ?_
    refine wp_lt (gRk qf_41 (agR hR rfl ql_R_151_2)) ?_
    refine wp_gd (agK hK rfl ql_K_149) ?_
    refine wp_bd ?_
    refine wp_of (f_X13_isHeard.eq_1 ..) ?_
    refine wp_gd (agK hK rfl ql_K_149) ?_
    refine wp_bd ?_
    refine wp_of (f_X13_levelOf.eq_1 ..) ?_
    refine wp_gd (agK hK rfl ql_K_160) ?_
    refine wp_lt (Eq.trans (gI_a rfl) (Eq.trans (gI_a rfl) (agI hI rfl ql_I_160_15))) ?_
    refine wp_ifn qf_179 ?_
    refine wp_lt (Eq.trans (gI_a rfl) (Eq.trans (gI_a rfl) (agI hI rfl ql_I_160_15))) ?_
    refine wp_ifn qf_163 ?_
    refine wp_of (f_X13_levelOf_49.eq_1 ..) ?_
    refine wp_gd (agK hK rfl ql_K_160) ?_
    refine wp_lt (Eq.trans (gI_a rfl) (Eq.trans (gI_a rfl) (agI hI rfl ql_I_160_13))) ?_
    refine wp_ifp qf_15 ?_
    refine wp_of (f_X13_levelOf_70.eq_1 ..) ?_
    refine wp_ret_bd ?_
    refine wp_ifp qf_303 ?_
    refine wp_of (f_X13_isHeard_15.eq_1 ..) ?_
    refine wp_gd qf_14 ?_
    refine wp_ret_bd ?_
    refine wp_ifp qf_15 ?_
    refine wp_of (f_X13_dances_158.eq_1 ..) ?_
    refine wp_lt qf_177 ?_
    refine wp_of (f_X13_dances_83.eq_2 ..) ?_
    refine wp_ifn qf_301 ?_
    refine wp_gd (agK hK rfl ql_K_151) ?_
    refine wp_gd (gZi (agZ hZ rfl ql_Z_151) qf_105) ?_
    refine wp_lt (gRk qf_46 (agR hR rfl ql_R_151_3)) ?_
    refine wp_gd (agK hK rfl ql_K_149) ?_
    refine wp_bd ?_
    refine wp_of (f_X13_isHeard.eq_1 ..) ?_
    refine wp_gd (agK hK rfl ql_K_149) ?_
    refine wp_bd ?_
    refine wp_of (f_X13_levelOf.eq_1 ..) ?_
    refine wp_gd (agK hK rfl ql_K_164) ?_
    refine wp_lt (Eq.trans (gI_a rfl) (Eq.trans (gI_a rfl) (agI hI rfl ql_I_164_15))) ?_
    refine wp_ifn qf_179 ?_
    refine wp_lt (Eq.trans (gI_a rfl) (Eq.trans (gI_a rfl) (agI hI rfl ql_I_164_15))) ?_
    refine wp_ifn qf_163 ?_
    refine wp_of (f_X13_levelOf_49.eq_1 ..) ?_
    refine wp_gd (agK hK rfl ql_K_164) ?_
    refine wp_lt (Eq.trans (gI_a rfl) (Eq.trans (gI_a rfl) (agI hI rfl ql_I_164_13))) ?_
    refine wp_ifp qf_15 ?_
    refine wp_of (f_X13_levelOf_70.eq_1 ..) ?_
    refine wp_ret_bd ?_
    refine wp_ifp qf_303 ?_
    refine wp_of (f_X13_isHeard_15.eq_1 ..) ?_
    refine wp_gd qf_14 ?_
    refine wp_ret_bd ?_
    refine wp_ifp qf_15 ?_
    refine wp_of (f_X13_dances_158.eq_1 ..) ?_
    refine wp_lt qf_227 ?_
    refine wp_of (f_X13_dances_83.eq_2 ..) ?_
    refine wp_ifp qf_302 ?_
    refine wp_ifp qf_118 ?_
    refine wp_of (f_X13_dances_175.eq_1 ..) ?_
    refine wp_gd (agK hK rfl ql_K_149) ?_
    refine wp_lt (agR hR rfl ql_R_149_3) ?_
    refine wp_lt (agR hR rfl ql_R_149_3) ?_
    refine wp_gd (agK hK rfl ql_K_168) ?_
    refine wp_gd (gZi (agZ hZ rfl ql_Z_168) qf_219) ?_
    refine wp_lt (gIk qf_36 (Eq.trans (gI_a rfl) (Eq.trans (gI_b rfl) hg1))) ?_
    refine wp_ltr ?_
    refine wp_lt (if_neg c1) ?_
    refine wp_gd (agK hK rfl ql_K_168) ?_
    refine wp_gd (gZi (agZ hZ rfl ql_Z_168) qf_219) ?_
    refine wp_zIk qf_36 ?_
    refine wp_of (f_X13_dances_193.eq_1 ..) ?_
    refine wp_bd ?_
    refine wp_of (f_X13_isBetween.eq_1 ..) ?_
    refine wp_ifp qf_208 ?_
    refine wp_of (f_X13_isBetween_14.eq_1 ..) ?_
    refine wp_of (f_X13_isBetween_15.eq_1 ..) ?_
    refine wp_gd qf_14 ?_
    refine wp_ret_bd ?_
    refine wp_ifp qf_15 ?_
    refine wp_of (f_X13_dances_225.eq_1 ..) ?_
    refine wp_gd (agK hK rfl ql_K_149) ?_
    refine wp_lt (agR hR rfl ql_R_149_4) ?_
    refine wp_ifp qf_118 ?_
    refine wp_lt (agR hR rfl ql_R_149_4) ?_
    refine wp_gd (agK hK rfl ql_K_169) ?_
    refine wp_gd (gZi (agZ hZ rfl ql_Z_169) qf_219) ?_
    refine wp_lt (gIk qf_36 (Eq.trans (gI_a rfl) (Eq.trans (gI_b rfl) (Eq.trans (gI_a rfl) (agI hI rfl ql_I_169_1))))) ?_
    refine wp_of (f_X13_dances_289.eq_1 ..) ?_
    refine wp_gd (agK hK rfl ql_K_169) ?_
    refine wp_gd (gZi (agZ hZ rfl ql_Z_169) qf_219) ?_
    refine wp_zIk qf_36 ?_
    refine wp_gd (agK hK rfl ql_K_149) ?_
    refine wp_lt (agR hR rfl ql_R_149_4) ?_
    refine wp_gd (agK hK rfl ql_K_169) ?_
    refine wp_gd (gZi (agZ hZ rfl ql_Z_169) qf_219) ?_
    refine wp_lt (gIk qf_36 gI_s) ?_
    refine wp_ifn qf_411 ?_
    refine wp_of (f_X13_dances_333.eq_1 ..) ?_
    refine wp_lt qf_164 ?_
    refine wp_of (f_X13_dances_61.eq_2 ..) ?_
    refine wp_ifn qf_221 ?_
    refine wp_gd (agK hK rfl ql_K_149) ?_
    refine wp_lt (agR hR rfl ql_R_149_2) ?_
    refine wp_gd (agK hK rfl ql_K_151) ?_
    refine wp_lt (gZo (agZ hZ rfl ql_Z_151) qf_92) ?_
    refine wp_of (f_X13_dances_83.eq_2 ..) ?_
    refine wp_ifn qf_298 ?_
    refine wp_gd (agK hK rfl ql_K_151) ?_
    refine wp_gd (gZi (agZ hZ rfl ql_Z_151) qf_97) ?_
    refine wp_lt (gRk qf_32 (agR hR rfl ql_R_151_0)) ?_
    refine wp_gd (agK hK rfl ql_K_149) ?_
    refine wp_bd ?_
    refine wp_of (f_X13_isHeard.eq_1 ..) ?_
    refine wp_gd (agK hK rfl ql_K_149) ?_
    refine wp_bd ?_
    refine wp_of (f_X13_levelOf.eq_1 ..) ?_
    refine wp_gd (agK hK rfl ql_K_152) ?_
    refine wp_lt (Eq.trans (gI_a rfl) (Eq.trans (gI_a rfl) (Eq.trans (gI_a rfl) (Eq.trans (gI_a rfl) (agI hI rfl ql_I_152_15))))) ?_
    refine wp_ifn qf_179 ?_
    refine wp_lt (Eq.trans (gI_a rfl) (Eq.trans (gI_a rfl) (Eq.trans (gI_a rfl) (Eq.trans (gI_a rfl) (agI hI rfl ql_I_152_15))))) ?_
    refine wp_ifn qf_163 ?_
    refine wp_of (f_X13_levelOf_49.eq_1 ..) ?_
    refine wp_gd (agK hK rfl ql_K_152) ?_
    refine wp_lt (Eq.trans (gI_a rfl) (Eq.trans (gI_a rfl) (Eq.trans (gI_a rfl) (Eq.trans (gI_a rfl) (agI hI rfl ql_I_152_13))))) ?_
    refine wp_ifp qf_15 ?_
    refine wp_of (f_X13_levelOf_70.eq_1 ..) ?_
    refine wp_ret_bd ?_
    refine wp_ifp qf_303 ?_
    refine wp_of (f_X13_isHeard_15.eq_1 ..) ?_
    refine wp_gd qf_14 ?_
    refine wp_ret_bd ?_
    refine wp_ifp qf_15 ?_
    refine wp_of (f_X13_dances_158.eq_1 ..) ?_
    refine wp_lt qf_153 ?_
    refine wp_of (f_X13_dances_83.eq_2 ..) ?_
    refine wp_ifn qf_299 ?_
    refine wp_gd (agK hK rfl ql_K_151) ?_
    refine wp_gd (gZi (agZ hZ rfl ql_Z_151) qf_99) ?_
    refine wp_lt (gRk qf_36 (agR hR rfl ql_R_151_1)) ?_
    refine wp_gd (agK hK rfl ql_K_149) ?_
    refine wp_bd ?_
    refine wp_of (f_X13_isHeard.eq_1 ..) ?_
    refine wp_gd (agK hK rfl ql_K_149) ?_
    refine wp_bd ?_
    refine wp_of (f_X13_levelOf.eq_1 ..) ?_
    refine wp_gd (agK hK rfl ql_K_156) ?_
    refine wp_lt (Eq.trans (gI_a rfl) (Eq.trans (gI_a rfl) (Eq.trans (gI_a rfl) (Eq.trans (gI_a rfl) (agI hI rfl ql_I_156_15))))) ?_
    refine wp_ifn qf_179 ?_
    refine wp_lt (Eq.trans (gI_a rfl) (Eq.trans (gI_a rfl) (Eq.trans (gI_a rfl) (Eq.trans (gI_a rfl) (agI hI rfl ql_I_156_15))))) ?_
    refine wp_ifn qf_163 ?_
    refine wp_of (f_X13_levelOf_49.eq_1 ..) ?_
    refine wp_gd (agK hK rfl ql_K_156) ?_
    refine wp_lt (Eq.trans (gI_a rfl) (Eq.trans (gI_a rfl) (Eq.trans (gI_a rfl) (Eq.trans (gI_a rfl) (agI hI rfl ql_I_156_13))))) ?_
    refine wp_ifp qf_15 ?_
    refine wp_of (f_X13_levelOf_70.eq_1 ..) ?_
    refine wp_ret_bd ?_
    refine wp_ifp qf_303 ?_
    refine wp_of (f_X13_isHeard_15.eq_1 ..) ?_
    refine wp_gd qf_14 ?_
    refine wp_ret_bd ?_
    refine wp_ifp qf_15 ?_
    refine wp_of (f_X13_dances_158.eq_1 ..) ?_
    refine wp_lt qf_164 ?_
    refine wp_of (f_X13_dances_83.eq_2 ..) ?_
    refine wp_ifn qf_300 ?_
    refine wp_gd (agK hK rfl ql_K_151) ?_
    refine wp_gd (gZi (agZ hZ rfl ql_Z_151) qf_102) ?_
    refine wp_lt (gRk qf_41 (agR hR rfl ql_R_151_2)) ?_
    refine wp_gd (agK hK rfl ql_K_149) ?_
    refine wp_bd ?_
    refine wp_of (f_X13_isHeard.eq_1 ..) ?_
    refine wp_gd (agK hK rfl ql_K_149) ?_
    refine wp_bd ?_
    refine wp_of (f_X13_levelOf.eq_1 ..) ?_
    refine wp_gd (agK hK rfl ql_K_160) ?_
    refine wp_lt (Eq.trans (gI_a rfl) (Eq.trans (gI_a rfl) (Eq.trans (gI_a rfl) (Eq.trans (gI_a rfl) (agI hI rfl ql_I_160_15))))) ?_
    refine wp_ifn qf_179 ?_
    refine wp_lt (Eq.trans (gI_a rfl) (Eq.trans (gI_a rfl) (Eq.trans (gI_a rfl) (Eq.trans (gI_a rfl) (agI hI rfl ql_I_160_15))))) ?_
    refine wp_ifn qf_163 ?_
    refine wp_of (f_X13_levelOf_49.eq_1 ..) ?_
    refine wp_gd (agK hK rfl ql_K_160) ?_
    refine wp_lt (Eq.trans (gI_a rfl) (Eq.trans (gI_a rfl) (Eq.trans (gI_a rfl) (Eq.trans (gI_a rfl) (agI hI rfl ql_I_160_13))))) ?_
    refine wp_ifp qf_15 ?_
    refine wp_of (f_X13_levelOf_70.eq_1 ..) ?_
    refine wp_ret_bd ?_
    refine wp_ifp qf_303 ?_
    refine wp_of (f_X13_isHeard_15.eq_1 ..) ?_
    refine wp_gd qf_14 ?_
    refine wp_ret_bd ?_
    refine wp_ifp qf_15 ?_
    refine wp_of (f_X13_dances_158.eq_1 ..) ?_
    refine wp_lt qf_177 ?_
    refine wp_of (f_X13_dances_83.eq_2 ..) ?_
    refine wp_ifn qf_301 ?_
    refine wp_gd (agK hK rfl ql_K_151) ?_
    refine wp_gd (gZi (agZ hZ rfl ql_Z_151) qf_105) ?_
    refine wp_lt (gRk qf_46 (agR hR rfl ql_R_151_3)) ?_
    refine wp_gd (agK hK rfl ql_K_149) ?_
    refine wp_bd ?_
    refine wp_of (f_X13_isHeard.eq_1 ..) ?_
    refine wp_gd (agK hK rfl ql_K_149) ?_
    refine wp_bd ?_
    refine wp_of (f_X13_levelOf.eq_1 ..) ?_
    refine wp_gd (agK hK rfl ql_K_164) ?_
    refine wp_lt (Eq.trans (gI_a rfl) (Eq.trans (gI_a rfl) (Eq.trans (gI_a rfl) (Eq.trans (gI_a rfl) (agI hI rfl ql_I_164_15))))) ?_
    refine wp_ifn qf_179 ?_
    refine wp_lt (Eq.trans (gI_a rfl) (Eq.trans (gI_a rfl) (Eq.trans (gI_a rfl) (Eq.trans (gI_a rfl) (agI hI rfl ql_I_164_15))))) ?_
    refine wp_ifn qf_163 ?_
    refine wp_of (f_X13_levelOf_49.eq_1 ..) ?_
    refine wp_gd (agK hK rfl ql_K_164) ?_
    refine wp_lt (Eq.trans (gI_a rfl) (Eq.trans (gI_a rfl) (Eq.trans (gI_a rfl) (Eq.trans (gI_a rfl) (agI hI rfl ql_I_164_13))))) ?_
    refine wp_ifp qf_15 ?_
    refine wp_of (f_X13_levelOf_70.eq_1 ..) ?_
    refine wp_ret_bd ?_
    refine wp_ifp qf_303 ?_
    refine wp_of (f_X13_isHeard_15.eq_1 ..) ?_
    refine wp_gd qf_14 ?_
    refine wp_ret_bd ?_
    refine wp_ifp qf_15 ?_
    refine wp_of (f_X13_dances_158.eq_1 ..) ?_
    refine wp_lt qf_227 ?_
    refine wp_of (f_X13_dances_83.eq_2 ..) ?_
    refine wp_ifp qf_302 ?_
    refine wp_ifp qf_118 ?_
    refine wp_of (f_X13_dances_175.eq_1 ..) ?_
    refine wp_gd (agK hK rfl ql_K_149) ?_
    refine wp_lt (agR hR rfl ql_R_149_3) ?_
    refine wp_lt (agR hR rfl ql_R_149_3) ?_
    refine wp_gd (agK hK rfl ql_K_168) ?_
    refine wp_gd (gZi (agZ hZ rfl ql_Z_168) qf_222) ?_
    refine wp_lt (gIk qf_41 (Eq.trans (gI_a rfl) (Eq.trans (gI_b rfl) (Eq.trans (gI_a rfl) (Eq.trans (gI_b rfl) hg2))))) ?_
    refine wp_ltr ?_
    refine wp_lt (if_neg c1) ?_
    refine wp_gd (agK hK rfl ql_K_168) ?_
    refine wp_gd (gZi (agZ hZ rfl ql_Z_168) qf_222) ?_
    refine wp_zIk qf_41 ?_
    refine wp_of (f_X13_dances_193.eq_1 ..) ?_
    refine wp_bd ?_
    refine wp_of (f_X13_isBetween.eq_1 ..) ?_
    refine wp_ifp qf_208 ?_
    refine wp_of (f_X13_isBetween_14.eq_1 ..) ?_
    refine wp_of (f_X13_isBetween_15.eq_1 ..) ?_
    refine wp_gd qf_14 ?_
    refine wp_ret_bd ?_
    refine wp_ifp qf_15 ?_
    refine wp_of (f_X13_dances_225.eq_1 ..) ?_
    refine wp_gd (agK hK rfl ql_K_149) ?_
    refine wp_lt (agR hR rfl ql_R_149_4) ?_
    refine wp_ifp qf_118 ?_
    refine wp_lt (agR hR rfl ql_R_149_4) ?_
    refine wp_gd (agK hK rfl ql_K_169) ?_
    refine wp_gd (gZi (agZ hZ rfl ql_Z_169) qf_222) ?_
    refine wp_lt (gIk qf_41 (Eq.trans (gI_a rfl) (Eq.trans (gI_b rfl) (Eq.trans (gI_a rfl) (Eq.trans (gI_b rfl) (Eq.trans (gI_a rfl) (agI hI rfl ql_I_169_2))))))) ?_
    refine wp_of (f_X13_dances_289.eq_1 ..) ?_
    refine wp_gd (agK hK rfl ql_K_169) ?_
    refine wp_gd (gZi (agZ hZ rfl ql_Z_169) qf_222) ?_
    refine wp_zIk qf_41 ?_
    refine wp_gd (agK hK rfl ql_K_149) ?_
    refine wp_lt (agR hR rfl ql_R_149_4) ?_
    refine wp_gd (agK hK rfl ql_K_169) ?_
    refine wp_gd (gZi (agZ hZ rfl ql_Z_169) qf_222) ?_
    refine wp_lt (gIk qf_41 gI_s) ?_
    refine wp_ifn qf_411 ?_
    refine wp_of (f_X13_dances_333.eq_1 ..) ?_
    refine wp_lt qf_177 ?_
    refine wp_of (f_X13_dances_61.eq_2 ..) ?_
    refine wp_ifn qf_224 ?_
    refine wp_gd (agK hK rfl ql_K_149) ?_
    refine wp_lt (agR hR rfl ql_R_149_2) ?_
    refine wp_gd (agK hK rfl ql_K_151) ?_
    refine wp_lt (gZo (agZ hZ rfl ql_Z_151) qf_92) ?_
    refine wp_of (f_X13_dances_83.eq_2 ..) ?_
    refine wp_ifn qf_298 ?_
    refine wp_gd (agK hK rfl ql_K_151) ?_
    refine wp_gd (gZi (agZ hZ rfl ql_Z_151) qf_97) ?_
    refine wp_lt (gRk qf_32 (agR hR rfl ql_R_151_0)) ?_
    refine wp_gd (agK hK rfl ql_K_149) ?_
    refine wp_bd ?_
    refine wp_of (f_X13_isHeard.eq_1 ..) ?_
    refine wp_gd (agK hK rfl ql_K_149) ?_
    refine wp_bd ?_
    refine wp_of (f_X13_levelOf.eq_1 ..) ?_
    refine wp_gd (agK hK rfl ql_K_152) ?_
    refine wp_lt (Eq.trans (gI_a rfl) (Eq.trans (gI_a rfl) (Eq.trans (gI_a rfl) (Eq.trans (gI_a rfl) (Eq.trans (gI_a rfl) (Eq.trans (gI_a rfl) (agI hI rfl ql_I_152_15))))))) ?_
    refine wp_ifn qf_179 ?_
    refine wp_lt (Eq.trans (gI_a rfl) (Eq.trans (gI_a rfl) (Eq.trans (gI_a rfl) (Eq.trans (gI_a rfl) (Eq.trans (gI_a rfl) (Eq.trans (gI_a rfl) (agI hI rfl ql_I_152_15))))))) ?_
    refine wp_ifn qf_163 ?_
    refine wp_of (f_X13_levelOf_49.eq_1 ..) ?_
    refine wp_gd (agK hK rfl ql_K_152) ?_
    refine wp_lt (Eq.trans (gI_a rfl) (Eq.trans (gI_a rfl) (Eq.trans (gI_a rfl) (Eq.trans (gI_a rfl) (Eq.trans (gI_a rfl) (Eq.trans (gI_a rfl) (agI hI rfl ql_I_152_13))))))) ?_
    refine wp_ifp qf_15 ?_
    refine wp_of (f_X13_levelOf_70.eq_1 ..) ?_
    refine wp_ret_bd ?_
    refine wp_ifp qf_303 ?_
    refine wp_of (f_X13_isHeard_15.eq_1 ..) ?_
    refine wp_gd qf_14 ?_
    refine wp_ret_bd ?_
    refine wp_ifp qf_15 ?_
    refine wp_of (f_X13_dances_158.eq_1 ..) ?_
    refine wp_lt qf_153 ?_
    refine wp_of (f_X13_dances_83.eq_2 ..) ?_
    refine wp_ifn qf_299 ?_
    refine wp_gd (agK hK rfl ql_K_151) ?_
    refine wp_gd (gZi (agZ hZ rfl ql_Z_151) qf_99) ?_
    refine wp_lt (gRk qf_36 (agR hR rfl ql_R_151_1)) ?_
    refine wp_gd (agK hK rfl ql_K_149) ?_
    refine wp_bd ?_
    refine wp_of (f_X13_isHeard.eq_1 ..) ?_
    refine wp_gd (agK hK rfl ql_K_149) ?_
    refine wp_bd ?_
    refine wp_of (f_X13_levelOf.eq_1 ..) ?_
    refine wp_gd (agK hK rfl ql_K_156) ?_
    refine wp_lt (Eq.trans (gI_a rfl) (Eq.trans (gI_a rfl) (Eq.trans (gI_a rfl) (Eq.trans (gI_a rfl) (Eq.trans (gI_a rfl) (Eq.trans (gI_a rfl) (agI hI rfl ql_I_156_15))))))) ?_
    refine wp_ifn qf_179 ?_
    refine wp_lt (Eq.trans (gI_a rfl) (Eq.trans (gI_a rfl) (Eq.trans (gI_a rfl) (Eq.trans (gI_a rfl) (Eq.trans (gI_a rfl) (Eq.trans (gI_a rfl) (agI hI rfl ql_I_156_15))))))) ?_
    refine wp_ifn qf_163 ?_
    refine wp_of (f_X13_levelOf_49.eq_1 ..) ?_
    refine wp_gd (agK hK rfl ql_K_156) ?_
    refine wp_lt (Eq.trans (gI_a rfl) (Eq.trans (gI_a rfl) (Eq.trans (gI_a rfl) (Eq.trans (gI_a rfl) (Eq.trans (gI_a rfl) (Eq.trans (gI_a rfl) (agI hI rfl ql_I_156_13))))))) ?_
    refine wp_ifp qf_15 ?_
    refine wp_of (f_X13_levelOf_70.eq_1 ..) ?_
    refine wp_ret_bd ?_
    refine wp_ifp qf_303 ?_
    refine wp_of (f_X13_isHeard_15.eq_1 ..) ?_
    refine wp_gd qf_14 ?_
    refine wp_ret_bd ?_
    refine wp_ifp qf_15 ?_
    refine wp_of (f_X13_dances_158.eq_1 ..) ?_
    refine wp_lt qf_164 ?_
    refine wp_of (f_X13_dances_83.eq_2 ..) ?_
    refine wp_ifn qf_300 ?_
    refine wp_gd (agK hK rfl ql_K_151) ?_
    refine wp_gd (gZi (agZ hZ rfl ql_Z_151) qf_102) ?_
    refine wp_lt (gRk qf_41 (agR hR rfl ql_R_151_2)) ?_
    refine wp_gd (agK hK rfl ql_K_149) ?_
    refine wp_bd ?_
    refine wp_of (f_X13_isHeard.eq_1 ..) ?_
    refine wp_gd (agK hK rfl ql_K_149) ?_
    refine wp_bd ?_
    refine wp_of (f_X13_levelOf.eq_1 ..) ?_
    refine wp_gd (agK hK rfl ql_K_160) ?_
    refine wp_lt (Eq.trans (gI_a rfl) (Eq.trans (gI_a rfl) (Eq.trans (gI_a rfl) (Eq.trans (gI_a rfl) (Eq.trans (gI_a rfl) (Eq.trans (gI_a rfl) (agI hI rfl ql_I_160_15))))))) ?_
    refine wp_ifn qf_179 ?_
    refine wp_lt (Eq.trans (gI_a rfl) (Eq.trans (gI_a rfl) (Eq.trans (gI_a rfl) (Eq.trans (gI_a rfl) (Eq.trans (gI_a rfl) (Eq.trans (gI_a rfl) (agI hI rfl ql_I_160_15))))))) ?_
    refine wp_ifn qf_163 ?_
    refine wp_of (f_X13_levelOf_49.eq_1 ..) ?_
    refine wp_gd (agK hK rfl ql_K_160) ?_
    refine wp_lt (Eq.trans (gI_a rfl) (Eq.trans (gI_a rfl) (Eq.trans (gI_a rfl) (Eq.trans (gI_a rfl) (Eq.trans (gI_a rfl) (Eq.trans (gI_a rfl) (agI hI rfl ql_I_160_13))))))) ?_
    refine wp_ifp qf_15 ?_
    refine wp_of (f_X13_levelOf_70.eq_1 ..) ?_
    refine wp_ret_bd ?_
    refine wp_ifp qf_303 ?_
    refine wp_of (f_X13_isHeard_15.eq_1 ..) ?_
    refine wp_gd qf_14 ?_
    refine wp_ret_bd ?_
    refine wp_ifp qf_15 ?_
    refine wp_of (f_X13_dances_158.eq_1 ..) ?_
    refine wp_lt qf_177 ?_
    refine wp_of (f_X13_dances_83.eq_2 ..) ?_
    refine wp_ifn qf_301 ?_
    refine wp_gd (agK hK rfl ql_K_151) ?_
    refine wp_gd (gZi (agZ hZ rfl ql_Z_151) qf_105) ?_
    refine wp_lt (gRk qf_46 (agR hR rfl ql_R_151_3)) ?_
    refine wp_gd (agK hK rfl ql_K_149) ?_
    refine wp_bd ?_
    refine wp_of (f_X13_isHeard.eq_1 ..) ?_
    refine wp_gd (agK hK rfl ql_K_149) ?_
    refine wp_bd ?_
    refine wp_of (f_X13_levelOf.eq_1 ..) ?_
    refine wp_gd (agK hK rfl ql_K_164) ?_
    refine wp_lt (Eq.trans (gI_a rfl) (Eq.trans (gI_a rfl) (Eq.trans (gI_a rfl) (Eq.trans (gI_a rfl) (Eq.trans (gI_a rfl) (Eq.trans (gI_a rfl) (agI hI rfl ql_I_164_15))))))) ?_
    refine wp_ifn qf_179 ?_
    refine wp_lt (Eq.trans (gI_a rfl) (Eq.trans (gI_a rfl) (Eq.trans (gI_a rfl) (Eq.trans (gI_a rfl) (Eq.trans (gI_a rfl) (Eq.trans (gI_a rfl) (agI hI rfl ql_I_164_15))))))) ?_
    refine wp_ifn qf_163 ?_
    refine wp_of (f_X13_levelOf_49.eq_1 ..) ?_
    refine wp_gd (agK hK rfl ql_K_164) ?_
    refine wp_lt (Eq.trans (gI_a rfl) (Eq.trans (gI_a rfl) (Eq.trans (gI_a rfl) (Eq.trans (gI_a rfl) (Eq.trans (gI_a rfl) (Eq.trans (gI_a rfl) (agI hI rfl ql_I_164_13))))))) ?_
    refine wp_ifp qf_15 ?_
    refine wp_of (f_X13_levelOf_70.eq_1 ..) ?_
    refine wp_ret_bd ?_
    refine wp_ifp qf_303 ?_
    refine wp_of (f_X13_isHeard_15.eq_1 ..) ?_
    refine wp_gd qf_14 ?_
    refine wp_ret_bd ?_
    refine wp_ifp qf_15 ?_
    refine wp_of (f_X13_dances_158.eq_1 ..) ?_
    refine wp_lt qf_227 ?_
    refine wp_of (f_X13_dances_83.eq_2 ..) ?_
    refine wp_ifp qf_302 ?_
    refine wp_ifp qf_118 ?_
    refine wp_of (f_X13_dances_175.eq_1 ..) ?_
    refine wp_gd (agK hK rfl ql_K_149) ?_
    refine wp_lt (agR hR rfl ql_R_149_3) ?_
    refine wp_lt (agR hR rfl ql_R_149_3) ?_
    refine wp_gd (agK hK rfl ql_K_168) ?_
    refine wp_gd (gZi (agZ hZ rfl ql_Z_168) qf_225) ?_
    refine wp_lt (gIk qf_46 (Eq.trans (gI_a rfl) (Eq.trans (gI_b rfl) (Eq.trans (gI_a rfl) (Eq.trans (gI_b rfl) (Eq.trans (gI_a rfl) (Eq.trans (gI_b rfl) hg3))))))) ?_
    refine wp_ltr ?_
    refine wp_lt (if_neg c1) ?_
    refine wp_gd (agK hK rfl ql_K_168) ?_
    refine wp_gd (gZi (agZ hZ rfl ql_Z_168) qf_225) ?_
    refine wp_zIk qf_46 ?_
    refine wp_of (f_X13_dances_193.eq_1 ..) ?_
    refine wp_bd ?_
    refine wp_of (f_X13_isBetween.eq_1 ..) ?_
    refine wp_ifp qf_208 ?_
    refine wp_of (f_X13_isBetween_14.eq_1 ..) ?_
    refine wp_of (f_X13_isBetween_15.eq_1 ..) ?_
    refine wp_gd qf_14 ?_
    refine wp_ret_bd ?_
    refine wp_ifp qf_15 ?_
    refine wp_of (f_X13_dances_225.eq_1 ..) ?_
    refine wp_gd (agK hK rfl ql_K_149) ?_
    refine wp_lt (agR hR rfl ql_R_149_4) ?_
    refine wp_ifp qf_118 ?_
    refine wp_lt (agR hR rfl ql_R_149_4) ?_
    refine wp_gd (agK hK rfl ql_K_169) ?_
    refine wp_gd (gZi (agZ hZ rfl ql_Z_169) qf_225) ?_
    refine wp_lt (gIk qf_46 (Eq.trans (gI_a rfl) (Eq.trans (gI_b rfl) (Eq.trans (gI_a rfl) (Eq.trans (gI_b rfl) (Eq.trans (gI_a rfl) (Eq.trans (gI_b rfl) (Eq.trans (gI_a rfl) (agI hI rfl ql_I_169_3))))))))) ?_
    refine wp_of (f_X13_dances_289.eq_1 ..) ?_
    refine wp_gd (agK hK rfl ql_K_169) ?_
    refine wp_gd (gZi (agZ hZ rfl ql_Z_169) qf_225) ?_
    refine wp_zIk qf_46 ?_
    refine wp_gd (agK hK rfl ql_K_149) ?_
    refine wp_lt (agR hR rfl ql_R_149_4) ?_
    refine wp_gd (agK hK rfl ql_K_169) ?_
    refine wp_gd (gZi (agZ hZ rfl ql_Z_169) qf_225) ?_
    refine wp_lt (gIk qf_46 gI_s) ?_
    refine wp_ifn qf_411 ?_
    refine wp_of (f_X13_dances_333.eq_1 ..) ?_
    refine wp_lt qf_227 ?_
    refine wp_of (f_X13_dances_61.eq_2 ..) ?_
    refine wp_ifn qf_228 ?_
    refine wp_gd (agK hK rfl ql_K_149) ?_
    refine wp_lt (agR hR rfl ql_R_149_2) ?_
    refine wp_gd (agK hK rfl ql_K_151) ?_
    refine wp_lt (gZo (agZ hZ rfl ql_Z_151) qf_92) ?_
    refine wp_of (f_X13_dances_83.eq_2 ..) ?_
    refine wp_ifn qf_298 ?_
    refine wp_gd (agK hK rfl ql_K_151) ?_
    refine wp_gd (gZi (agZ hZ rfl ql_Z_151) qf_97) ?_
    refine wp_lt (gRk qf_32 (agR hR rfl ql_R_151_0)) ?_
    refine wp_gd (agK hK rfl ql_K_149) ?_
    refine wp_bd ?_
    refine wp_of (f_X13_isHeard.eq_1 ..) ?_
    refine wp_gd (agK hK rfl ql_K_149) ?_
    refine wp_bd ?_
    refine wp_of (f_X13_levelOf.eq_1 ..) ?_
    refine wp_gd (agK hK rfl ql_K_152) ?_
    refine wp_lt (Eq.trans (gI_a rfl) (Eq.trans (gI_a rfl) (Eq.trans (gI_a rfl) (Eq.trans (gI_a rfl) (Eq.trans (gI_a rfl) (Eq.trans (gI_a rfl) (Eq.trans (gI_a rfl) (Eq.trans (gI_a rfl) (agI hI rfl ql_I_152_15))))))))) ?_
    refine wp_ifn qf_179 ?_
    refine wp_lt (Eq.trans (gI_a rfl) (Eq.trans (gI_a rfl) (Eq.trans (gI_a rfl) (Eq.trans (gI_a rfl) (Eq.trans (gI_a rfl) (Eq.trans (gI_a rfl) (Eq.trans (gI_a rfl) (Eq.trans (gI_a rfl) (agI hI rfl ql_I_152_15))))))))) ?_
    refine wp_ifn qf_163 ?_
    refine wp_of (f_X13_levelOf_49.eq_1 ..) ?_
    refine wp_gd (agK hK rfl ql_K_152) ?_
    refine wp_lt (Eq.trans (gI_a rfl) (Eq.trans (gI_a rfl) (Eq.trans (gI_a rfl) (Eq.trans (gI_a rfl) (Eq.trans (gI_a rfl) (Eq.trans (gI_a rfl) (Eq.trans (gI_a rfl) (Eq.trans (gI_a rfl) (agI hI rfl ql_I_152_13))))))))) ?_
    refine wp_ifp qf_15 ?_
    refine wp_of (f_X13_levelOf_70.eq_1 ..) ?_
    refine wp_ret_bd ?_
    refine wp_ifp qf_303 ?_
    refine wp_of (f_X13_isHeard_15.eq_1 ..) ?_
    refine wp_gd qf_14 ?_
    refine wp_ret_bd ?_
    refine wp_ifp qf_15 ?_
    refine wp_of (f_X13_dances_158.eq_1 ..) ?_
    refine wp_lt qf_153 ?_
    refine wp_of (f_X13_dances_83.eq_2 ..) ?_
    refine wp_ifn qf_299 ?_
    refine wp_gd (agK hK rfl ql_K_151) ?_
    refine wp_gd (gZi (agZ hZ rfl ql_Z_151) qf_99) ?_
    refine wp_lt (gRk qf_36 (agR hR rfl ql_R_151_1)) ?_
    refine wp_gd (agK hK rfl ql_K_149) ?_
    refine wp_bd ?_
    refine wp_of (f_X13_isHeard.eq_1 ..) ?_
    refine wp_gd (agK hK rfl ql_K_149) ?_
    refine wp_bd ?_
    refine wp_of (f_X13_levelOf.eq_1 ..) ?_
    refine wp_gd (agK hK rfl ql_K_156) ?_
    refine wp_lt (Eq.trans (gI_a rfl) (Eq.trans (gI_a rfl) (Eq.trans (gI_a rfl) (Eq.trans (gI_a rfl) (Eq.trans (gI_a rfl) (Eq.trans (gI_a rfl) (Eq.trans (gI_a rfl) (Eq.trans (gI_a rfl) (agI hI rfl ql_I_156_15))))))))) ?_
    refine wp_ifn qf_179 ?_
    refine wp_lt (Eq.trans (gI_a rfl) (Eq.trans (gI_a rfl) (Eq.trans (gI_a rfl) (Eq.trans (gI_a rfl) (Eq.trans (gI_a rfl) (Eq.trans (gI_a rfl) (Eq.trans (gI_a rfl) (Eq.trans (gI_a rfl) (agI hI rfl ql_I_156_15))))))))) ?_
    refine wp_ifn qf_163 ?_
    refine wp_of (f_X13_levelOf_49.eq_1 ..) ?_
    refine wp_gd (agK hK rfl ql_K_156) ?_
    refine wp_lt (Eq.trans (gI_a rfl) (Eq.trans (gI_a rfl) (Eq.trans (gI_a rfl) (Eq.trans (gI_a rfl) (Eq.trans (gI_a rfl) (Eq.trans (gI_a rfl) (Eq.trans (gI_a rfl) (Eq.trans (gI_a rfl) (agI hI rfl ql_I_156_13))))))))) ?_
    refine wp_ifp qf_15 ?_
    refine wp_of (f_X13_levelOf_70.eq_1 ..) ?_
    refine wp_ret_bd ?_
    refine wp_ifp qf_303 ?_
    refine wp_of (f_X13_isHeard_15.eq_1 ..) ?_
    refine wp_gd qf_14 ?_
    refine wp_ret_bd ?_
    refine wp_ifp qf_15 ?_
    refine wp_of (f_X13_dances_158.eq_1 ..) ?_
    refine wp_lt qf_164 ?_
    refine wp_of (f_X13_dances_83.eq_2 ..) ?_
    refine wp_ifn qf_300 ?_
    refine wp_gd (agK hK rfl ql_K_151) ?_
    refine wp_gd (gZi (agZ hZ rfl ql_Z_151) qf_102) ?_
    refine wp_lt (gRk qf_41 (agR hR rfl ql_R_151_2)) ?_
    refine wp_gd (agK hK rfl ql_K_149) ?_
    refine wp_bd ?_
    refine wp_of (f_X13_isHeard.eq_1 ..) ?_
    refine wp_gd (agK hK rfl ql_K_149) ?_
    refine wp_bd ?_
    refine wp_of (f_X13_levelOf.eq_1 ..) ?_
    refine wp_gd (agK hK rfl ql_K_160) ?_
    refine wp_lt (Eq.trans (gI_a rfl) (Eq.trans (gI_a rfl) (Eq.trans (gI_a rfl) (Eq.trans (gI_a rfl) (Eq.trans (gI_a rfl) (Eq.trans (gI_a rfl) (Eq.trans (gI_a rfl) (Eq.trans (gI_a rfl) (agI hI rfl ql_I_160_15))))))))) ?_
    refine wp_ifn qf_179 ?_
    refine wp_lt (Eq.trans (gI_a rfl) (Eq.trans (gI_a rfl) (Eq.trans (gI_a rfl) (Eq.trans (gI_a rfl) (Eq.trans (gI_a rfl) (Eq.trans (gI_a rfl) (Eq.trans (gI_a rfl) (Eq.trans (gI_a rfl) (agI hI rfl ql_I_160_15))))))))) ?_
    refine wp_ifn qf_163 ?_
    refine wp_of (f_X13_levelOf_49.eq_1 ..) ?_
    refine wp_gd (agK hK rfl ql_K_160) ?_
    refine wp_lt (Eq.trans (gI_a rfl) (Eq.trans (gI_a rfl) (Eq.trans (gI_a rfl) (Eq.trans (gI_a rfl) (Eq.trans (gI_a rfl) (Eq.trans (gI_a rfl) (Eq.trans (gI_a rfl) (Eq.trans (gI_a rfl) (agI hI rfl ql_I_160_13))))))))) ?_
    refine wp_ifp qf_15 ?_
    refine wp_of (f_X13_levelOf_70.eq_1 ..) ?_
    refine wp_ret_bd ?_
    refine wp_ifp qf_303 ?_
    refine wp_of (f_X13_isHeard_15.eq_1 ..) ?_
    refine wp_gd qf_14 ?_
    refine wp_ret_bd ?_
    refine wp_ifp qf_15 ?_
    refine wp_of (f_X13_dances_158.eq_1 ..) ?_
    refine wp_lt qf_177 ?_
    refine wp_of (f_X13_dances_83.eq_2 ..) ?_
    refine wp_ifn qf_301 ?_
    refine wp_gd (agK hK rfl ql_K_151) ?_
    refine wp_gd (gZi (agZ hZ rfl ql_Z_151) qf_105) ?_
    refine wp_lt (gRk qf_46 (agR hR rfl ql_R_151_3)) ?_
    refine wp_gd (agK hK rfl ql_K_149) ?_
    refine wp_bd ?_
    refine wp_of (f_X13_isHeard.eq_1 ..) ?_
    refine wp_gd (agK hK rfl ql_K_149) ?_
    refine wp_bd ?_
    refine wp_of (f_X13_levelOf.eq_1 ..) ?_
    refine wp_gd (agK hK rfl ql_K_164) ?_
    refine wp_lt (Eq.trans (gI_a rfl) (Eq.trans (gI_a rfl) (Eq.trans (gI_a rfl) (Eq.trans (gI_a rfl) (Eq.trans (gI_a rfl) (Eq.trans (gI_a rfl) (Eq.trans (gI_a rfl) (Eq.trans (gI_a rfl) (agI hI rfl ql_I_164_15))))))))) ?_
    refine wp_ifn qf_179 ?_
    refine wp_lt (Eq.trans (gI_a rfl) (Eq.trans (gI_a rfl) (Eq.trans (gI_a rfl) (Eq.trans (gI_a rfl) (Eq.trans (gI_a rfl) (Eq.trans (gI_a rfl) (Eq.trans (gI_a rfl) (Eq.trans (gI_a rfl) (agI hI rfl ql_I_164_15))))))))) ?_
    refine wp_ifn qf_163 ?_
    refine wp_of (f_X13_levelOf_49.eq_1 ..) ?_
    refine wp_gd (agK hK rfl ql_K_164) ?_
    refine wp_lt (Eq.trans (gI_a rfl) (Eq.trans (gI_a rfl) (Eq.trans (gI_a rfl) (Eq.trans (gI_a rfl) (Eq.trans (gI_a rfl) (Eq.trans (gI_a rfl) (Eq.trans (gI_a rfl) (Eq.trans (gI_a rfl) (agI hI rfl ql_I_164_13))))))))) ?_
    refine wp_ifp qf_15 ?_
    refine wp_of (f_X13_levelOf_70.eq_1 ..) ?_
    refine wp_ret_bd ?_
    refine wp_ifp qf_303 ?_
    refine wp_of (f_X13_isHeard_15.eq_1 ..) ?_
    refine wp_gd qf_14 ?_
    refine wp_ret_bd ?_
    refine wp_ifp qf_15 ?_
    refine wp_of (f_X13_dances_158.eq_1 ..) ?_
    refine wp_lt qf_227 ?_
    refine wp_of (f_X13_dances_83.eq_2 ..) ?_
    refine wp_ifp qf_302 ?_
    refine wp_ifp qf_118 ?_
    refine wp_of (f_X13_dances_175.eq_1 ..) ?_
    refine wp_gd (agK hK rfl ql_K_149) ?_
    refine wp_lt (agR hR rfl ql_R_149_3) ?_
    refine wp_lt (agR hR rfl ql_R_149_3) ?_
    refine wp_gd (agK hK rfl ql_K_168) ?_
    refine wp_gd (gZi (agZ hZ rfl ql_Z_168) qf_229) ?_
    refine wp_lt (gIk qf_51 (Eq.trans (gI_a rfl) (Eq.trans (gI_b rfl) (Eq.trans (gI_a rfl) (Eq.trans (gI_b rfl) (Eq.trans (gI_a rfl) (Eq.trans (gI_b rfl) (Eq.trans (gI_a rfl) (Eq.trans (gI_b rfl) hg4))))))))) ?_
    refine wp_ltr ?_
    refine wp_lt (if_neg c1) ?_
    refine wp_gd (agK hK rfl ql_K_168) ?_
    refine wp_gd (gZi (agZ hZ rfl ql_Z_168) qf_229) ?_
    refine wp_zIk qf_51 ?_
    refine wp_of (f_X13_dances_193.eq_1 ..) ?_
    refine wp_bd ?_
    refine wp_of (f_X13_isBetween.eq_1 ..) ?_
    refine wp_ifp qf_208 ?_
    refine wp_of (f_X13_isBetween_14.eq_1 ..) ?_
    refine wp_of (f_X13_isBetween_15.eq_1 ..) ?_
    refine wp_gd qf_14 ?_
    refine wp_ret_bd ?_
    refine wp_ifp qf_15 ?_
    refine wp_of (f_X13_dances_225.eq_1 ..) ?_
    refine wp_gd (agK hK rfl ql_K_149) ?_
    refine wp_lt (agR hR rfl ql_R_149_4) ?_
    refine wp_ifp qf_118 ?_
    refine wp_lt (agR hR rfl ql_R_149_4) ?_
    refine wp_gd (agK hK rfl ql_K_169) ?_
    refine wp_gd (gZi (agZ hZ rfl ql_Z_169) qf_229) ?_
    refine wp_lt (gIk qf_51 (Eq.trans (gI_a rfl) (Eq.trans (gI_b rfl) (Eq.trans (gI_a rfl) (Eq.trans (gI_b rfl) (Eq.trans (gI_a rfl) (Eq.trans (gI_b rfl) (Eq.trans (gI_a rfl) (Eq.trans (gI_b rfl) (Eq.trans (gI_a rfl) (agI hI rfl ql_I_169_4))))))))))) ?_
    refine wp_of (f_X13_dances_289.eq_1 ..) ?_
    refine wp_gd (agK hK rfl ql_K_169) ?_
    refine wp_gd (gZi (agZ hZ rfl ql_Z_169) qf_229) ?_
    refine wp_zIk qf_51 ?_
    refine wp_gd (agK hK rfl ql_K_149) ?_
    refine wp_lt (agR hR rfl ql_R_149_4) ?_
    refine wp_gd (agK hK rfl ql_K_169) ?_
    refine wp_gd (gZi (agZ hZ rfl ql_Z_169) qf_229) ?_
    refine wp_lt (gIk qf_51 gI_s) ?_
    refine wp_ifn qf_411 ?_
    refine wp_of (f_X13_dances_333.eq_1 ..) ?_
    refine wp_lt qf_231 ?_
    refine wp_of (f_X13_dances_61.eq_2 ..) ?_
    refine wp_ifn qf_232 ?_
    refine wp_gd (agK hK rfl ql_K_149) ?_
    refine wp_lt (agR hR rfl ql_R_149_2) ?_
    refine wp_gd (agK hK rfl ql_K_151) ?_
    refine wp_lt (gZo (agZ hZ rfl ql_Z_151) qf_92) ?_
    refine wp_of (f_X13_dances_83.eq_2 ..) ?_
    refine wp_ifn qf_298 ?_
    refine wp_gd (agK hK rfl ql_K_151) ?_
    refine wp_gd (gZi (agZ hZ rfl ql_Z_151) qf_97) ?_
    refine wp_lt (gRk qf_32 (agR hR rfl ql_R_151_0)) ?_
    refine wp_gd (agK hK rfl ql_K_149) ?_
    refine wp_bd ?_
    refine wp_of (f_X13_isHeard.eq_1 ..) ?_
    refine wp_gd (agK hK rfl ql_K_149) ?_
    refine wp_bd ?_
    refine wp_of (f_X13_levelOf.eq_1 ..) ?_
    refine wp_gd (agK hK rfl ql_K_152) ?_
    refine wp_lt (Eq.trans (gI_a rfl) (Eq.trans (gI_a rfl) (Eq.trans (gI_a rfl) (Eq.trans (gI_a rfl) (Eq.trans (gI_a rfl) (Eq.trans (gI_a rfl) (Eq.trans (gI_a rfl) (Eq.trans (gI_a rfl) (Eq.trans (gI_a rfl) (Eq.trans (gI_a rfl) (agI hI rfl ql_I_152_15))))))))))) ?_
    refine wp_ifn qf_179 ?_
    refine wp_lt (Eq.trans (gI_a rfl) (Eq.trans (gI_a rfl) (Eq.trans (gI_a rfl) (Eq.trans (gI_a rfl) (Eq.trans (gI_a rfl) (Eq.trans (gI_a rfl) (Eq.trans (gI_a rfl) (Eq.trans (gI_a rfl) (Eq.trans (gI_a rfl) (Eq.trans (gI_a rfl) (agI hI rfl ql_I_152_15))))))))))) ?_
    refine wp_ifn qf_163 ?_
    refine wp_of (f_X13_levelOf_49.eq_1 ..) ?_
    refine wp_gd (agK hK rfl ql_K_152) ?_
    refine wp_lt (Eq.trans (gI_a rfl) (Eq.trans (gI_a rfl) (Eq.trans (gI_a rfl) (Eq.trans (gI_a rfl) (Eq.trans (gI_a rfl) (Eq.trans (gI_a rfl) (Eq.trans (gI_a rfl) (Eq.trans (gI_a rfl) (Eq.trans (gI_a rfl) (Eq.trans (gI_a rfl) (agI hI rfl ql_I_152_13))))))))))) ?_
    refine wp_ifp qf_15 ?_
    refine wp_of (f_X13_levelOf_70.eq_1 ..) ?_
    refine wp_ret_bd ?_
    refine wp_ifp qf_303 ?_
    refine wp_of (f_X13_isHeard_15.eq_1 ..) ?_
    refine wp_gd qf_14 ?_
    refine wp_ret_bd ?_
    refine wp_ifp qf_15 ?_
    refine wp_of (f_X13_dances_158.eq_1 ..) ?_
    refine wp_lt qf_153 ?_
    refine wp_of (f_X13_dances_83.eq_2 ..) ?_
    refine wp_ifn qf_299 ?_
    refine wp_gd (agK hK rfl ql_K_151) ?_
    refine wp_gd (gZi (agZ hZ rfl ql_Z_151) qf_99) ?_
    refine wp_lt (gRk qf_36 (agR hR rfl ql_R_151_1)) ?_
    refine wp_gd (agK hK rfl ql_K_149) ?_
    refine wp_bd ?_
    refine wp_of (f_X13_isHeard.eq_1 ..) ?_
    refine wp_gd (agK hK rfl ql_K_149) ?_
    refine wp_bd ?_
    refine wp_of (f_X13_levelOf.eq_1 ..) ?_
    refine wp_gd (agK hK rfl ql_K_156) ?_
    refine wp_lt (Eq.trans (gI_a rfl) (Eq.trans (gI_a rfl) (Eq.trans (gI_a rfl) (Eq.trans (gI_a rfl) (Eq.trans (gI_a rfl) (Eq.trans (gI_a rfl) (Eq.trans (gI_a rfl) (Eq.trans (gI_a rfl) (Eq.trans (gI_a rfl) (Eq.trans (gI_a rfl) (agI hI rfl ql_I_156_15))))))))))) ?_
    refine wp_ifn qf_179 ?_
    refine wp_lt (Eq.trans (gI_a rfl) (Eq.trans (gI_a rfl) (Eq.trans (gI_a rfl) (Eq.trans (gI_a rfl) (Eq.trans (gI_a rfl) (Eq.trans (gI_a rfl) (Eq.trans (gI_a rfl) (Eq.trans (gI_a rfl) (Eq.trans (gI_a rfl) (Eq.trans (gI_a rfl) (agI hI rfl ql_I_156_15))))))))))) ?_
    refine wp_ifn qf_163 ?_
    refine wp_of (f_X13_levelOf_49.eq_1 ..) ?_
    refine wp_gd (agK hK rfl ql_K_156) ?_
    refine wp_lt (Eq.trans (gI_a rfl) (Eq.trans (gI_a rfl) (Eq.trans (gI_a rfl) (Eq.trans (gI_a rfl) (Eq.trans (gI_a rfl) (Eq.trans (gI_a rfl) (Eq.trans (gI_a rfl) (Eq.trans (gI_a rfl) (Eq.trans (gI_a rfl) (Eq.trans (gI_a rfl) (agI hI rfl ql_I_156_13))))))))))) ?_
    refine wp_ifp qf_15 ?_
    refine wp_of (f_X13_levelOf_70.eq_1 ..) ?_
    refine wp_ret_bd ?_
    refine wp_ifp qf_303 ?_
    refine wp_of (f_X13_isHeard_15.eq_1 ..) ?_
    refine wp_gd qf_14 ?_
    refine wp_ret_bd ?_
    refine wp_ifp qf_15 ?_
    refine wp_of (f_X13_dances_158.eq_1 ..) ?_
    refine wp_lt qf_164 ?_
    refine wp_of (f_X13_dances_83.eq_2 ..) ?_
    refine wp_ifn qf_300 ?_
    refine wp_gd (agK hK rfl ql_K_151) ?_
    refine wp_gd (gZi (agZ hZ rfl ql_Z_151) qf_102) ?_
    refine wp_lt (gRk qf_41 (agR hR rfl ql_R_151_2)) ?_
    refine wp_gd (agK hK rfl ql_K_149) ?_
    refine wp_bd ?_
    refine wp_of (f_X13_isHeard.eq_1 ..) ?_
    refine wp_gd (agK hK rfl ql_K_149) ?_
    refine wp_bd ?_
    refine wp_of (f_X13_levelOf.eq_1 ..) ?_
    refine wp_gd (agK hK rfl ql_K_160) ?_
    refine wp_lt (Eq.trans (gI_a rfl) (Eq.trans (gI_a rfl) (Eq.trans (gI_a rfl) (Eq.trans (gI_a rfl) (Eq.trans (gI_a rfl) (Eq.trans (gI_a rfl) (Eq.trans (gI_a rfl) (Eq.trans (gI_a rfl) (Eq.trans (gI_a rfl) (Eq.trans (gI_a rfl) (agI hI rfl ql_I_160_15))))))))))) ?_
    refine wp_ifn qf_179 ?_
    refine wp_lt (Eq.trans (gI_a rfl) (Eq.trans (gI_a rfl) (Eq.trans (gI_a rfl) (Eq.trans (gI_a rfl) (Eq.trans (gI_a rfl) (Eq.trans (gI_a rfl) (Eq.trans (gI_a rfl) (Eq.trans (gI_a rfl) (Eq.trans (gI_a rfl) (Eq.trans (gI_a rfl) (agI hI rfl ql_I_160_15))))))))))) ?_
    refine wp_ifn qf_163 ?_
    refine wp_of (f_X13_levelOf_49.eq_1 ..) ?_
    refine wp_gd (agK hK rfl ql_K_160) ?_
    refine wp_lt (Eq.trans (gI_a rfl) (Eq.trans (gI_a rfl) (Eq.trans (gI_a rfl) (Eq.trans (gI_a rfl) (Eq.trans (gI_a rfl) (Eq.trans (gI_a rfl) (Eq.trans (gI_a rfl) (Eq.trans (gI_a rfl) (Eq.trans (gI_a rfl) (Eq.trans (gI_a rfl) (agI hI rfl ql_I_160_13))))))))))) ?_
    refine wp_ifp qf_15 ?_
    refine wp_of (f_X13_levelOf_70.eq_1 ..) ?_
    refine wp_ret_bd ?_
    refine wp_ifp qf_303 ?_
    refine wp_of (f_X13_isHeard_15.eq_1 ..) ?_
    refine wp_gd qf_14 ?_
    refine wp_ret_bd ?_
    refine wp_ifp qf_15 ?_
    refine wp_of (f_X13_dances_158.eq_1 ..) ?_
    refine wp_lt qf_177 ?_
    refine wp_of (f_X13_dances_83.eq_2 ..) ?_
    refine wp_ifn qf_301 ?_
    refine wp_gd (agK hK rfl ql_K_151) ?_
    refine wp_gd (gZi (agZ hZ rfl ql_Z_151) qf_105) ?_
    refine wp_lt (gRk qf_46 (agR hR rfl ql_R_151_3)) ?_
    refine wp_gd (agK hK rfl ql_K_149) ?_
    refine wp_bd ?_
    refine wp_of (f_X13_isHeard.eq_1 ..) ?_
    refine wp_gd (agK hK rfl ql_K_149) ?_
    refine wp_bd ?_
    refine wp_of (f_X13_levelOf.eq_1 ..) ?_
    refine wp_gd (agK hK rfl ql_K_164) ?_
    refine wp_lt (Eq.trans (gI_a rfl) (Eq.trans (gI_a rfl) (Eq.trans (gI_a rfl) (Eq.trans (gI_a rfl) (Eq.trans (gI_a rfl) (Eq.trans (gI_a rfl) (Eq.trans (gI_a rfl) (Eq.trans (gI_a rfl) (Eq.trans (gI_a rfl) (Eq.trans (gI_a rfl) (agI hI rfl ql_I_164_15))))))))))) ?_
    refine wp_ifn qf_179 ?_
    refine wp_lt (Eq.trans (gI_a rfl) (Eq.trans (gI_a rfl) (Eq.trans (gI_a rfl) (Eq.trans (gI_a rfl) (Eq.trans (gI_a rfl) (Eq.trans (gI_a rfl) (Eq.trans (gI_a rfl) (Eq.trans (gI_a rfl) (Eq.trans (gI_a rfl) (Eq.trans (gI_a rfl) (agI hI rfl ql_I_164_15))))))))))) ?_
    refine wp_ifn qf_163 ?_
    refine wp_of (f_X13_levelOf_49.eq_1 ..) ?_
    refine wp_gd (agK hK rfl ql_K_164) ?_
    refine wp_lt (Eq.trans (gI_a rfl) (Eq.trans (gI_a rfl) (Eq.trans (gI_a rfl) (Eq.trans (gI_a rfl) (Eq.trans (gI_a rfl) (Eq.trans (gI_a rfl) (Eq.trans (gI_a rfl) (Eq.trans (gI_a rfl) (Eq.trans (gI_a rfl) (Eq.trans (gI_a rfl) (agI hI rfl ql_I_164_13))))))))))) ?_
    refine wp_ifp qf_15 ?_
    refine wp_of (f_X13_levelOf_70.eq_1 ..) ?_
    refine wp_ret_bd ?_
    refine wp_ifp qf_303 ?_
    refine wp_of (f_X13_isHeard_15.eq_1 ..) ?_
    refine wp_gd qf_14 ?_
    refine wp_ret_bd ?_
    refine wp_ifp qf_15 ?_
    refine wp_of (f_X13_dances_158.eq_1 ..) ?_
    refine wp_lt qf_227 ?_
    refine wp_of (f_X13_dances_83.eq_2 ..) ?_
    refine wp_ifp qf_302 ?_
    refine wp_ifp qf_118 ?_
    refine wp_of (f_X13_dances_175.eq_1 ..) ?_
    refine wp_gd (agK hK rfl ql_K_149) ?_
    refine wp_lt (agR hR rfl ql_R_149_3) ?_
    refine wp_lt (agR hR rfl ql_R_149_3) ?_
    refine wp_gd (agK hK rfl ql_K_168) ?_
    refine wp_gd (gZi (agZ hZ rfl ql_Z_168) qf_233) ?_
    refine wp_lt (gIk qf_56 (Eq.trans (gI_a rfl) (Eq.trans (gI_b rfl) (Eq.trans (gI_a rfl) (Eq.trans (gI_b rfl) (Eq.trans (gI_a rfl) (Eq.trans (gI_b rfl) (Eq.trans (gI_a rfl) (Eq.trans (gI_b rfl) (Eq.trans (gI_a rfl) (Eq.trans (gI_b rfl) hg5))))))))))) ?_
    refine wp_ltr ?_
    refine wp_lt (if_neg c1) ?_
    refine wp_gd (agK hK rfl ql_K_168) ?_
    refine wp_gd (gZi (agZ hZ rfl ql_Z_168) qf_233) ?_
    refine wp_zIk qf_56 ?_
    refine wp_of (f_X13_dances_193.eq_1 ..) ?_
    refine wp_bd ?_
    refine wp_of (f_X13_isBetween.eq_1 ..) ?_
    refine wp_ifp qf_208 ?_
    refine wp_of (f_X13_isBetween_14.eq_1 ..) ?_
    refine wp_of (f_X13_isBetween_15.eq_1 ..) ?_
    refine wp_gd qf_14 ?_
    refine wp_ret_bd ?_
    refine wp_ifp qf_15 ?_
    refine wp_of (f_X13_dances_225.eq_1 ..) ?_
    refine wp_gd (agK hK rfl ql_K_149) ?_
    refine wp_lt (agR hR rfl ql_R_149_4) ?_
    refine wp_ifp qf_118 ?_
    refine wp_lt (agR hR rfl ql_R_149_4) ?_
    refine wp_gd (agK hK rfl ql_K_169) ?_
    refine wp_gd (gZi (agZ hZ rfl ql_Z_169) qf_233) ?_
    refine wp_lt (gIk qf_56 (Eq.trans (gI_a rfl) (Eq.trans (gI_b rfl) (Eq.trans (gI_a rfl) (Eq.trans (gI_b rfl) (Eq.trans (gI_a rfl) (Eq.trans (gI_b rfl) (Eq.trans (gI_a rfl) (Eq.trans (gI_b rfl) (Eq.trans (gI_a rfl) (Eq.trans (gI_b rfl) (Eq.trans (gI_a rfl) (agI hI rfl ql_I_169_5))))))))))))) ?_
    refine wp_of (f_X13_dances_289.eq_1 ..) ?_
    refine wp_gd (agK hK rfl ql_K_169) ?_
    refine wp_gd (gZi (agZ hZ rfl ql_Z_169) qf_233) ?_
    refine wp_zIk qf_56 ?_
    refine wp_gd (agK hK rfl ql_K_149) ?_
    refine wp_lt (agR hR rfl ql_R_149_4) ?_
    refine wp_gd (agK hK rfl ql_K_169) ?_
    refine wp_gd (gZi (agZ hZ rfl ql_Z_169) qf_233) ?_
    refine wp_lt (gIk qf_56 gI_s) ?_
    refine wp_ifn qf_411 ?_
    refine wp_of (f_X13_dances_333.eq_1 ..) ?_
    refine wp_lt qf_235 ?_
    refine wp_of (f_X13_dances_61.eq_2 ..) ?_
    refine wp_ifp qf_236 ?_
    refine wp_ret_bd ?_
    exact hrc _ _ ⟨(ag_p2s (lkI ql_I_169_5) (ag_p2 rfl (ag_p2s (lkI ql_I_169_4) (ag_p2 rfl (ag_p2s (lkI ql_I_169_3) (ag_p2 rfl (ag_p2s (lkI ql_I_169_2) (ag_p2 rfl (ag_p2s (lkI ql_I_169_1) (ag_p2 rfl (ag_p2s (lkI ql_I_169_0) (ag_p2 rfl hI)))))))))))), hL, hR, hK, hZ, hw, (Eq.trans (gI_a rfl) (Eq.trans (gI_a rfl) (Eq.trans (gI_a rfl) (Eq.trans (gI_a rfl) (Eq.trans (gI_a rfl) (Eq.trans (gI_a rfl) (Eq.trans (gI_a rfl) (Eq.trans (gI_a rfl) (Eq.trans (gI_a rfl) (Eq.trans (gI_a rfl) (Eq.trans (gI_a rfl) (Eq.trans (gI_a rfl) ht)))))))))))), (Eq.trans (gI_a rfl) (Eq.trans (gI_a rfl) (Eq.trans (gI_a rfl) (Eq.trans (gI_a rfl) (Eq.trans (gI_a rfl) (Eq.trans (gI_a rfl) (Eq.trans (gI_a rfl) (Eq.trans (gI_a rfl) (Eq.trans (gI_a rfl) (Eq.trans (gI_a rfl) (Eq.trans (gI_a rfl) (Eq.trans (gI_a rfl) hu)))))))))))), (Eq.trans (gI_a rfl) (Eq.trans (gI_b rfl) (Eq.trans (gI_a rfl) (Eq.trans (gI_b rfl) (Eq.trans (gI_a rfl) (Eq.trans (gI_b rfl) (Eq.trans (gI_a rfl) (Eq.trans (gI_b rfl) (Eq.trans (gI_a rfl) (Eq.trans (gI_b rfl) (Eq.trans (gI_a rfl) gI_s))))))))))), (Eq.trans (gI_a rfl) (Eq.trans (gI_b rfl) (Eq.trans (gI_a rfl) (Eq.trans (gI_b rfl) (Eq.trans (gI_a rfl) (Eq.trans (gI_b rfl) (Eq.trans (gI_a rfl) (Eq.trans (gI_b rfl) (Eq.trans (gI_a rfl) gI_s))))))))), (Eq.trans (gI_a rfl) (Eq.trans (gI_b rfl) (Eq.trans (gI_a rfl) (Eq.trans (gI_b rfl) (Eq.trans (gI_a rfl) (Eq.trans (gI_b rfl) (Eq.trans (gI_a rfl) gI_s))))))), (Eq.trans (gI_a rfl) (Eq.trans (gI_b rfl) (Eq.trans (gI_a rfl) (Eq.trans (gI_b rfl) (Eq.trans (gI_a rfl) gI_s))))), (Eq.trans (gI_a rfl) (Eq.trans (gI_b rfl) (Eq.trans (gI_a rfl) gI_s))), (Eq.trans (gI_a rfl) gI_s)⟩
end TICKD
