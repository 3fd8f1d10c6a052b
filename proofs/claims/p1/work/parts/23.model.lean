section P23MODEL
abbrev rm_X11_init : Room := { frames := 11, cells := 3, slots := 10, locals := 210 }
def f_X11_init (S : mS) (a0 : Nat) : Option (Rs Unit) :=
  gd (gK S a0 = 17) (zI (sI S a0 1 (-1 : Int32)) fun S2 => zI (sI S2 a0 4 (-1 : Int32)) fun S4 => gd (gN S4 + 1 < KB) (zW (sW S4 30 3) fun S7 => lt9 (gN S4 + 1) fun r8 => gd (¬ ((0 : Int32) < 0 ∨ gZ S7 r8 ≤ ((0 : Int32)).toNatClampNeg)) (zI (sI S7 r8 ((0 : Int32)).toNatClampNeg (100 : Int32)) fun S11 => gd (¬ ((1 : Int32) < 0 ∨ gZ S11 r8 ≤ ((1 : Int32)).toNatClampNeg)) (zI (sI S11 r8 ((1 : Int32)).toNatClampNeg (100 : Int32)) fun S14 => gd (¬ ((2 : Int32) < 0 ∨ gZ S14 r8 ≤ ((2 : Int32)).toNatClampNeg)) (zI (sI S14 r8 ((2 : Int32)).toNatClampNeg (100 : Int32)) fun S17 => gd (gK S17 a0 = 17) (zR (sR S17 a0 6 r8) fun S20 => gd (gN S20 + 1 < KB) (zW (sW S20 30 4) fun S24 => lt9 (gN S20 + 1) fun r25 => gd (¬ ((0 : Int32) < 0 ∨ gZ S24 r25 ≤ ((0 : Int32)).toNatClampNeg)) (zI (sI S24 r25 ((0 : Int32)).toNatClampNeg (-1 : Int32)) fun S28 => gd (¬ ((1 : Int32) < 0 ∨ gZ S28 r25 ≤ ((1 : Int32)).toNatClampNeg)) (zI (sI S28 r25 ((1 : Int32)).toNatClampNeg (-1 : Int32)) fun S31 => gd (¬ ((2 : Int32) < 0 ∨ gZ S31 r25 ≤ ((2 : Int32)).toNatClampNeg)) (zI (sI S31 r25 ((2 : Int32)).toNatClampNeg (-1 : Int32)) fun S34 => gd (¬ ((3 : Int32) < 0 ∨ gZ S34 r25 ≤ ((3 : Int32)).toNatClampNeg)) (zI (sI S34 r25 ((3 : Int32)).toNatClampNeg (-1 : Int32)) fun S37 => gd (gK S37 a0 = 17) (zR (sR S37 a0 7 r25) fun S40 => gd (gN S40 + 1 < KB) (zW (sW S40 5 0) fun S44 => lt9 (gN S40 + 1) fun r45 => bd (f_Jx4a65c_init_da8c8 S44 r45) fun _ S48 => gd (gK S48 a0 = 17) (zR (sR S48 a0 8 r45) fun S52 => zI (sI S52 a0 15 (109 : Int32)) fun S54 => some (.inl (), S54)))))))))))))))
set_option maxHeartbeats 2000000 in
set_option maxRecDepth 100000 in
theorem t_X11_init {l : Launch} (hls : l.stackTraces = false) {C : cT} (hC : CX C cX11_init 1 yX11_init rm_X11_init) (hl : C.2.1 = l) {S0 : mS} (hE : CE C S0 (Option.none : Option Jvm.ClassFile.FieldType) []) {o : Rs Unit} {S : mS} {a0 : Nat} (h : f_X11_init S a0 = some o) : XX C 1 (QQ C (fun _ : Unit => none) S0 o) 0 0 S 0 [(0, .ref a0)] [] := by
  unfold f_X11_init at h
  refine x_aload_n (pc := 0) hC 0 dX11_init_0 rfl rfl ?_
  obtain ⟨g1, h⟩ := gd_some h
  refine x_objInit (pc := 1) hC wm_1572 wm_94 wm_95 dX11_init_1 (by rw [g1]; decide) (Nat.le_of_ble_eq_true rfl) (Nat.le_of_ble_eq_true rfl) ?_
  refine x_aload_n (pc := 4) hC 0 dX11_init_4 rfl rfl ?_
  refine x_iconst (pc := 5) (v := (-1 : Int32)) hC dX11_init_5 (by decide) ?_
  refine x_putIv (pc := 6) (k := 1) hC fc_17 fl_RX11_9 dX11_init_6 rfl rfl (nf_int _) g1 (fun S2 hS2 => ?_)
  replace h := zI_x hS2 h
  have g3 : gK S2 a0 = 17 := by rw [hS2]; exact g1
  refine x_aload_n (pc := 9) hC 0 dX11_init_9 rfl rfl ?_
  refine x_iconst (pc := 10) (v := (-1 : Int32)) hC dX11_init_10 (by decide) ?_
  refine x_putIv (pc := 11) (k := 4) hC fc_17 fl_RX11_15 dX11_init_11 rfl rfl (nf_int _) g3 (fun S4 hS4 => ?_)
  replace h := zI_x hS4 h
  have g5 : gK S4 a0 = 17 := by rw [hS4]; exact g3
  refine x_aload_n (pc := 14) hC 0 dX11_init_14 rfl rfl ?_
  refine x_iconst (pc := 15) (v := (3 : Int32)) hC dX11_init_15 (by decide) ?_
  obtain ⟨g6, h⟩ := gd_some h
  refine x_newaIv (pc := 16) (z := 3) hC wm_186 dX11_init_16 (by decide) (by decide) (Nat.le_of_ble_eq_true rfl) g6 (Nat.le_of_ble_eq_true rfl) (Nat.le_of_ble_eq_true rfl) (fun S7 r8 hS7 hr8 => ?_)
  replace h := zW_x hS7 h
  replace h := lt_x hr8 h
  have g9 : gK S7 r8 = 30 := by rw [hr8, hS7]; exact sW_K
  refine x_dup (pc := 18) hC dX11_init_18 rfl ?_
  refine x_iconst (pc := 19) (v := (0 : Int32)) hC dX11_init_19 (by decide) ?_
  refine x_bipush (pc := 20) (v := (100 : Int32)) hC dX11_init_20 (by decide) ?_
  obtain ⟨g10, h⟩ := gd_some h
  refine x_iastv (pc := 22) hC dX11_init_22 g9 g10 (fun S11 hS11 => ?_)
  replace h := zI_x hS11 h
  have g12 : gK S11 r8 = 30 := by rw [hS11]; exact g9
  refine x_dup (pc := 23) hC dX11_init_23 rfl ?_
  refine x_iconst (pc := 24) (v := (1 : Int32)) hC dX11_init_24 (by decide) ?_
  refine x_bipush (pc := 25) (v := (100 : Int32)) hC dX11_init_25 (by decide) ?_
  obtain ⟨g13, h⟩ := gd_some h
  refine x_iastv (pc := 27) hC dX11_init_27 g12 g13 (fun S14 hS14 => ?_)
  replace h := zI_x hS14 h
  have g15 : gK S14 r8 = 30 := by rw [hS14]; exact g12
  refine x_dup (pc := 28) hC dX11_init_28 rfl ?_
  refine x_iconst (pc := 29) (v := (2 : Int32)) hC dX11_init_29 (by decide) ?_
  refine x_bipush (pc := 30) (v := (100 : Int32)) hC dX11_init_30 (by decide) ?_
  obtain ⟨g16, h⟩ := gd_some h
  refine x_iastv (pc := 32) hC dX11_init_32 g15 g16 (fun S17 hS17 => ?_)
  replace h := zI_x hS17 h
  have g18 : gK S17 r8 = 30 := by rw [hS17]; exact g15
  obtain ⟨g19, h⟩ := gd_some h
  refine x_putRFv (pc := 33) (k := 6) hC fc_17 wm_1587 rfl dX11_init_33 rfl rfl rfl rfl (Or.inr ⟨_, rfl⟩) g19 (fun S20 hS20 => ?_)
  replace h := zR_x hS20 h
  have g21 : gK S20 r8 = 30 := by rw [hS20]; exact g18
  have g22 : gK S20 a0 = 17 := by rw [hS20]; exact g19
  refine x_aload_n (pc := 36) hC 0 dX11_init_36 rfl rfl ?_
  refine x_iconst (pc := 37) (v := (4 : Int32)) hC dX11_init_37 (by decide) ?_
  obtain ⟨g23, h⟩ := gd_some h
  refine x_newaIv (pc := 38) (z := 4) hC wm_186 dX11_init_38 (by decide) (by decide) (Nat.le_of_ble_eq_true rfl) g23 (Nat.le_of_ble_eq_true rfl) (Nat.le_of_ble_eq_true rfl) (fun S24 r25 hS24 hr25 => ?_)
  replace h := zW_x hS24 h
  replace h := lt_x hr25 h
  have g26 : gK S24 r25 = 30 := by rw [hr25, hS24]; exact sW_K
  refine x_dup (pc := 40) hC dX11_init_40 rfl ?_
  refine x_iconst (pc := 41) (v := (0 : Int32)) hC dX11_init_41 (by decide) ?_
  refine x_iconst (pc := 42) (v := (-1 : Int32)) hC dX11_init_42 (by decide) ?_
  obtain ⟨g27, h⟩ := gd_some h
  refine x_iastv (pc := 43) hC dX11_init_43 g26 g27 (fun S28 hS28 => ?_)
  replace h := zI_x hS28 h
  have g29 : gK S28 r25 = 30 := by rw [hS28]; exact g26
  refine x_dup (pc := 44) hC dX11_init_44 rfl ?_
  refine x_iconst (pc := 45) (v := (1 : Int32)) hC dX11_init_45 (by decide) ?_
  refine x_iconst (pc := 46) (v := (-1 : Int32)) hC dX11_init_46 (by decide) ?_
  obtain ⟨g30, h⟩ := gd_some h
  refine x_iastv (pc := 47) hC dX11_init_47 g29 g30 (fun S31 hS31 => ?_)
  replace h := zI_x hS31 h
  have g32 : gK S31 r25 = 30 := by rw [hS31]; exact g29
  refine x_dup (pc := 48) hC dX11_init_48 rfl ?_
  refine x_iconst (pc := 49) (v := (2 : Int32)) hC dX11_init_49 (by decide) ?_
  refine x_iconst (pc := 50) (v := (-1 : Int32)) hC dX11_init_50 (by decide) ?_
  obtain ⟨g33, h⟩ := gd_some h
  refine x_iastv (pc := 51) hC dX11_init_51 g32 g33 (fun S34 hS34 => ?_)
  replace h := zI_x hS34 h
  have g35 : gK S34 r25 = 30 := by rw [hS34]; exact g32
  refine x_dup (pc := 52) hC dX11_init_52 rfl ?_
  refine x_iconst (pc := 53) (v := (3 : Int32)) hC dX11_init_53 (by decide) ?_
  refine x_iconst (pc := 54) (v := (-1 : Int32)) hC dX11_init_54 (by decide) ?_
  obtain ⟨g36, h⟩ := gd_some h
  refine x_iastv (pc := 55) hC dX11_init_55 g35 g36 (fun S37 hS37 => ?_)
  replace h := zI_x hS37 h
  have g38 : gK S37 r25 = 30 := by rw [hS37]; exact g35
  obtain ⟨g39, h⟩ := gd_some h
  refine x_putRFv (pc := 56) (k := 7) hC fc_17 wm_1589 rfl dX11_init_56 rfl rfl rfl rfl (Or.inr ⟨_, rfl⟩) g39 (fun S40 hS40 => ?_)
  replace h := zR_x hS40 h
  have g41 : gK S40 r25 = 30 := by rw [hS40]; exact g38
  have g42 : gK S40 a0 = 17 := by rw [hS40]; exact g39
  refine x_aload_n (pc := 59) hC 0 dX11_init_59 rfl rfl ?_
  obtain ⟨g43, h⟩ := gd_some h
  refine x_newv (pc := 60) hC fc_5 fn_5 wm_1573 wm_1538 wm_60 dX11_init_60 g43 (Nat.le_of_ble_eq_true rfl) (Nat.le_of_ble_eq_true rfl) (fun S44 r45 hS44 hr45 => ?_)
  replace h := zW_x hS44 h
  replace h := lt_x hr45 h
  have g46 : gK S44 r45 = 5 := by rw [hr45, hS44]; exact sW_K
  refine x_dup (pc := 63) hC dX11_init_63 rfl ?_
  obtain ⟨o49, ho49, h⟩ := bd_some h
  refine x_callI (pc := 64) (As := []) (rest := [.ref r45, .ref a0]) hC hl (c_Jx4a65c_init_da8c8 l hls ho49) lk_RX11_27 (by rw [g46]; decide) dX11_init_64 rfl rfl (Nat.le_of_ble_eq_true rfl) ⟨Nat.le_of_ble_eq_true rfl, Nat.le_of_ble_eq_true rfl⟩ ⟨(Nat.le_of_ble_eq_true rfl), (Nat.le_of_ble_eq_true rfl)⟩ ?_
  rcases o49 with ⟨_ | E50, S48⟩
  · refine xk_v ?_
    replace h := bk_l h
    obtain ⟨g51, h⟩ := gd_some h
    refine x_putRFv (pc := 67) (k := 8) hC fc_17 wm_1591 rfl dX11_init_67 rfl rfl rfl rfl (Or.inl ⟨_, rfl⟩) g51 (fun S52 hS52 => ?_)
    replace h := zR_x hS52 h
    have g53 : gK S52 a0 = 17 := by rw [hS52]; exact g51
    refine x_aload_n (pc := 70) hC 0 dX11_init_70 rfl rfl ?_
    refine x_bipush (pc := 71) (v := (109 : Int32)) hC dX11_init_71 (by decide) ?_
    refine x_putIv (pc := 73) (k := 15) hC fc_17 fl_RX11_32 dX11_init_73 rfl rfl (show NF .char _ from ⟨rfl, rfl⟩) g53 (fun S54 hS54 => ?_)
    replace h := zI_x hS54 h
    have g55 : gK S54 a0 = 17 := by rw [hS54]; exact g53
    exact x_vreturn (pc := 76) hC hE dX11_init_76 (so h) (Nat.le_of_ble_eq_true rfl) (Nat.le_of_ble_eq_true rfl)
  · exact xk_r (xt_out hC hE (bk_r h) (Nat.le_of_ble_eq_true rfl) (Nat.le_of_ble_eq_true rfl))
theorem c_X11_init (l : Launch) (hls : l.stackTraces = false) {S : mS} {a0 : Nat} {o : Rs Unit} (h : f_X11_init S a0 = some o) : CT (fun _ : Unit => none) l yX11_init (.code yX11_init cX11_init 1 (Option.none : Option Jvm.ClassFile.FieldType)) rm_X11_init S [.ref a0] o := ct_of (by decide +kernel) hls (Nat.le_of_ble_eq_true rfl) (fun C hl hC hE => t_X11_init hls hC hl hE h)
abbrev rm_X11_takes : Room := { frames := 8, cells := 0, slots := 0, locals := 150 }
def f_X11_takes (S : mS) (a0 : Nat) (a1 : Nat) : Option (Rs Unit) :=
  gd (gK S a1 = 17) (lt9 (gR S a1 0) fun r2 => gd (gK S a0 = 17) (zR (sR S a0 0 r2) fun S4 => lt9 (gI S4 a1 1) fun x7 => zI (sI S4 a0 1 x7) fun S8 => lt9 (gI S8 a1 2) fun x11 => zI (sI S8 a0 2 x11) fun S12 => lt9 (gI S12 a1 3) fun x15 => zI (sI S12 a0 3 x15) fun S16 => lt9 (gI S16 a1 4) fun x19 => zI (sI S16 a0 4 x19) fun S20 => lt9 (gI S20 a1 5) fun x23 => zI (sI S20 a0 5 x23) fun S24 => lt9 (gL S24 a1 9) fun x27 => zL (sL S24 a0 9 x27) fun S28 => lt9 (gL S28 a1 10) fun x31 => zL (sL S28 a0 10 x31) fun S32 => lt9 (gL S32 a1 11) fun x35 => zL (sL S32 a0 11 x35) fun S36 => lt9 (gL S36 a1 12) fun x39 => zL (sL S36 a0 12 x39) fun S40 => lt9 (gI S40 a1 13) fun x43 => gd (x43 = 0 ∨ x43 = 1) (zI (sI S40 a0 13 x43) fun S45 => lt9 (gI S45 a1 14) fun x48 => gd (x48 = 0 ∨ x48 = 1) (zI (sI S45 a0 14 x48) fun S50 => lt9 (gR S50 a1 7) fun r53 => lt9 (gR S50 a0 7) fun r54 => none))))
set_option maxHeartbeats 2000000 in
set_option maxRecDepth 100000 in
theorem t_X11_takes {l : Launch} (hls : l.stackTraces = false) {C : cT} (hC : CX C cX11_takes 2 yX11_takes rm_X11_takes) (hl : C.2.1 = l) {S0 : mS} (hE : CE C S0 (Option.none : Option Jvm.ClassFile.FieldType) []) {o : Rs Unit} {S : mS} {a0 : Nat} {a1 : Nat} (h : f_X11_takes S a0 a1 = some o) : XX C 2 (QQ C (fun _ : Unit => none) S0 o) 0 0 S 0 [(0, .ref a0), (1, .ref a1)] [] := by
  unfold f_X11_takes at h
  refine x_aload_n (pc := 0) hC 0 dX11_takes_0 rfl rfl ?_
  refine x_aload_n (pc := 1) hC 1 dX11_takes_1 rfl rfl ?_
  obtain ⟨g1, h⟩ := gd_some h
  refine x_getRv (pc := 2) (k := 0) hC fc_17 fl_RX11_41 dX11_takes_2 rfl g1 (fun r2 hr2 => ?_)
  replace h := lt_x hr2 h
  obtain ⟨g3, h⟩ := gd_some h
  refine x_putRv (pc := 5) (k := 0) hC fc_17 fl_RX11_41 dX11_takes_5 rfl rfl (Or.inl ⟨_, rfl⟩) g3 (fun S4 hS4 => ?_)
  replace h := zR_x hS4 h
  have g5 : gK S4 a1 = 17 := by rw [hS4]; exact g1
  have g6 : gK S4 a0 = 17 := by rw [hS4]; exact g3
  refine x_aload_n (pc := 8) hC 0 dX11_takes_8 rfl rfl ?_
  refine x_aload_n (pc := 9) hC 1 dX11_takes_9 rfl rfl ?_
  refine x_getIv (pc := 10) (k := 1) hC fc_17 fl_RX11_9 dX11_takes_10 rfl g5 (fun x7 hx7 => ?_)
  replace h := lt_x hx7 h
  refine x_putIv (pc := 13) (k := 1) hC fc_17 fl_RX11_9 dX11_takes_13 rfl rfl (nf_int _) g6 (fun S8 hS8 => ?_)
  replace h := zI_x hS8 h
  have g9 : gK S8 a1 = 17 := by rw [hS8]; exact g5
  have g10 : gK S8 a0 = 17 := by rw [hS8]; exact g6
  refine x_aload_n (pc := 16) hC 0 dX11_takes_16 rfl rfl ?_
  refine x_aload_n (pc := 17) hC 1 dX11_takes_17 rfl rfl ?_
  refine x_getIv (pc := 18) (k := 2) hC fc_17 fl_RX11_45 dX11_takes_18 rfl g9 (fun x11 hx11 => ?_)
  replace h := lt_x hx11 h
  refine x_putIv (pc := 21) (k := 2) hC fc_17 fl_RX11_45 dX11_takes_21 rfl rfl (nf_int _) g10 (fun S12 hS12 => ?_)
  replace h := zI_x hS12 h
  have g13 : gK S12 a1 = 17 := by rw [hS12]; exact g9
  have g14 : gK S12 a0 = 17 := by rw [hS12]; exact g10
  refine x_aload_n (pc := 24) hC 0 dX11_takes_24 rfl rfl ?_
  refine x_aload_n (pc := 25) hC 1 dX11_takes_25 rfl rfl ?_
  refine x_getIv (pc := 26) (k := 3) hC fc_17 fl_RX11_48 dX11_takes_26 rfl g13 (fun x15 hx15 => ?_)
  replace h := lt_x hx15 h
  refine x_putIv (pc := 29) (k := 3) hC fc_17 fl_RX11_48 dX11_takes_29 rfl rfl (nf_int _) g14 (fun S16 hS16 => ?_)
  replace h := zI_x hS16 h
  have g17 : gK S16 a1 = 17 := by rw [hS16]; exact g13
  have g18 : gK S16 a0 = 17 := by rw [hS16]; exact g14
  refine x_aload_n (pc := 32) hC 0 dX11_takes_32 rfl rfl ?_
  refine x_aload_n (pc := 33) hC 1 dX11_takes_33 rfl rfl ?_
  refine x_getIv (pc := 34) (k := 4) hC fc_17 fl_RX11_15 dX11_takes_34 rfl g17 (fun x19 hx19 => ?_)
  replace h := lt_x hx19 h
  refine x_putIv (pc := 37) (k := 4) hC fc_17 fl_RX11_15 dX11_takes_37 rfl rfl (nf_int _) g18 (fun S20 hS20 => ?_)
  replace h := zI_x hS20 h
  have g21 : gK S20 a1 = 17 := by rw [hS20]; exact g17
  have g22 : gK S20 a0 = 17 := by rw [hS20]; exact g18
  refine x_aload_n (pc := 40) hC 0 dX11_takes_40 rfl rfl ?_
  refine x_aload_n (pc := 41) hC 1 dX11_takes_41 rfl rfl ?_
  refine x_getIv (pc := 42) (k := 5) hC fc_17 fl_RX11_51 dX11_takes_42 rfl g21 (fun x23 hx23 => ?_)
  replace h := lt_x hx23 h
  refine x_putIv (pc := 45) (k := 5) hC fc_17 fl_RX11_51 dX11_takes_45 rfl rfl (nf_int _) g22 (fun S24 hS24 => ?_)
  replace h := zI_x hS24 h
  have g25 : gK S24 a1 = 17 := by rw [hS24]; exact g21
  have g26 : gK S24 a0 = 17 := by rw [hS24]; exact g22
  refine x_aload_n (pc := 48) hC 0 dX11_takes_48 rfl rfl ?_
  refine x_aload_n (pc := 49) hC 1 dX11_takes_49 rfl rfl ?_
  refine x_getLv (pc := 50) (k := 9) hC fc_17 fl_RX11_54 dX11_takes_50 rfl g25 (fun x27 hx27 => ?_)
  replace h := lt_x hx27 h
  refine x_putLv (pc := 53) (k := 9) hC fc_17 fl_RX11_54 dX11_takes_53 rfl rfl rfl g26 (fun S28 hS28 => ?_)
  replace h := zL_x hS28 h
  have g29 : gK S28 a1 = 17 := by rw [hS28]; exact g25
  have g30 : gK S28 a0 = 17 := by rw [hS28]; exact g26
  refine x_aload_n (pc := 56) hC 0 dX11_takes_56 rfl rfl ?_
  refine x_aload_n (pc := 57) hC 1 dX11_takes_57 rfl rfl ?_
  refine x_getLv (pc := 58) (k := 10) hC fc_17 fl_RX11_58 dX11_takes_58 rfl g29 (fun x31 hx31 => ?_)
  replace h := lt_x hx31 h
  refine x_putLv (pc := 61) (k := 10) hC fc_17 fl_RX11_58 dX11_takes_61 rfl rfl rfl g30 (fun S32 hS32 => ?_)
  replace h := zL_x hS32 h
  have g33 : gK S32 a1 = 17 := by rw [hS32]; exact g29
  have g34 : gK S32 a0 = 17 := by rw [hS32]; exact g30
  refine x_aload_n (pc := 64) hC 0 dX11_takes_64 rfl rfl ?_
  refine x_aload_n (pc := 65) hC 1 dX11_takes_65 rfl rfl ?_
  refine x_getLv (pc := 66) (k := 11) hC fc_17 fl_RX11_61 dX11_takes_66 rfl g33 (fun x35 hx35 => ?_)
  replace h := lt_x hx35 h
  refine x_putLv (pc := 69) (k := 11) hC fc_17 fl_RX11_61 dX11_takes_69 rfl rfl rfl g34 (fun S36 hS36 => ?_)
  replace h := zL_x hS36 h
  have g37 : gK S36 a1 = 17 := by rw [hS36]; exact g33
  have g38 : gK S36 a0 = 17 := by rw [hS36]; exact g34
  refine x_aload_n (pc := 72) hC 0 dX11_takes_72 rfl rfl ?_
  refine x_aload_n (pc := 73) hC 1 dX11_takes_73 rfl rfl ?_
  refine x_getLv (pc := 74) (k := 12) hC fc_17 fl_RX11_64 dX11_takes_74 rfl g37 (fun x39 hx39 => ?_)
  replace h := lt_x hx39 h
  refine x_putLv (pc := 77) (k := 12) hC fc_17 fl_RX11_64 dX11_takes_77 rfl rfl rfl g38 (fun S40 hS40 => ?_)
  replace h := zL_x hS40 h
  have g41 : gK S40 a1 = 17 := by rw [hS40]; exact g37
  have g42 : gK S40 a0 = 17 := by rw [hS40]; exact g38
  refine x_aload_n (pc := 80) hC 0 dX11_takes_80 rfl rfl ?_
  refine x_aload_n (pc := 81) hC 1 dX11_takes_81 rfl rfl ?_
  refine x_getIv (pc := 82) (k := 13) hC fc_17 fl_RX11_67 dX11_takes_82 rfl g41 (fun x43 hx43 => ?_)
  replace h := lt_x hx43 h
  obtain ⟨g44, h⟩ := gd_some h
  refine x_putIv (pc := 85) (k := 13) hC fc_17 fl_RX11_67 dX11_takes_85 rfl rfl (nf_B g44) g42 (fun S45 hS45 => ?_)
  replace h := zI_x hS45 h
  have g46 : gK S45 a1 = 17 := by rw [hS45]; exact g41
  have g47 : gK S45 a0 = 17 := by rw [hS45]; exact g42
  refine x_aload_n (pc := 88) hC 0 dX11_takes_88 rfl rfl ?_
  refine x_aload_n (pc := 89) hC 1 dX11_takes_89 rfl rfl ?_
  refine x_getIv (pc := 90) (k := 14) hC fc_17 fl_RX11_71 dX11_takes_90 rfl g46 (fun x48 hx48 => ?_)
  replace h := lt_x hx48 h
  obtain ⟨g49, h⟩ := gd_some h
  refine x_putIv (pc := 93) (k := 14) hC fc_17 fl_RX11_71 dX11_takes_93 rfl rfl (nf_B g49) g47 (fun S50 hS50 => ?_)
  replace h := zI_x hS50 h
  have g51 : gK S50 a1 = 17 := by rw [hS50]; exact g46
  have g52 : gK S50 a0 = 17 := by rw [hS50]; exact g47
  refine x_aload_n (pc := 96) hC 1 dX11_takes_96 rfl rfl ?_
  refine x_getRv (pc := 97) (k := 7) hC fc_17 fl_RX11_22 dX11_takes_97 rfl g51 (fun r53 hr53 => ?_)
  replace h := lt_x hr53 h
  refine x_iconst (pc := 100) (v := (0 : Int32)) hC dX11_takes_100 (by decide) ?_
  refine x_aload_n (pc := 101) hC 0 dX11_takes_101 rfl rfl ?_
  refine x_getRv (pc := 102) (k := 7) hC fc_17 fl_RX11_22 dX11_takes_102 rfl g52 (fun r54 hr54 => ?_)
  replace h := lt_x hr54 h
  refine x_iconst (pc := 105) (v := (0 : Int32)) hC dX11_takes_105 (by decide) ?_
  refine x_iconst (pc := 106) (v := (4 : Int32)) hC dX11_takes_106 (by decide) ?_
  cases h
theorem c_X11_takes (l : Launch) (hls : l.stackTraces = false) {S : mS} {a0 : Nat} {a1 : Nat} {o : Rs Unit} (h : f_X11_takes S a0 a1 = some o) : CT (fun _ : Unit => none) l yX11_takes (.code yX11_takes cX11_takes 2 (Option.none : Option Jvm.ClassFile.FieldType)) rm_X11_takes S [.ref a0, .ref a1] o := ct_of (by decide +kernel) hls (Nat.le_of_ble_eq_true rfl) (fun C hl hC hE => t_X11_takes hls hC hl hE h)
abbrev rm_X11_like : Room := { frames := 12, cells := 4, slots := 26, locals := 230 }
def f_X11_like (S : mS) (a0 : Nat) : Option (Rs Nat) :=
  gd (gN S + 1 < KB) (zW (sW S 17 0) fun S2 => lt9 (gN S + 1) fun r3 => bd (f_X11_init S2 r3) fun _ S6 => gd (gK S6 r3 = 17) (bd (f_X11_takes S6 r3 a0) fun _ S11 => some (.inl r3, S11)))
set_option maxHeartbeats 2000000 in
set_option maxRecDepth 100000 in
theorem t_X11_like {l : Launch} (hls : l.stackTraces = false) {C : cT} (hC : CX C cX11_like 2 yX11_like rm_X11_like) (hl : C.2.1 = l) {S0 : mS} (hE : CE C S0 (Option.some (Jvm.ClassFile.FieldType.object "MixBoothModel$Deck")) []) {o : Rs Nat} {S : mS} {a0 : Nat} (h : f_X11_like S a0 = some o) : XX C 2 (QQ C (fun r : Nat => some (.ref r)) S0 o) 0 0 S 0 [(0, .ref a0)] [] := by
  unfold f_X11_like at h
  obtain ⟨g1, h⟩ := gd_some h
  refine x_newv (pc := 0) hC fc_17 fn_17 wm_2601 wm_1568 wm_61 dX11_like_0 g1 (Nat.le_of_ble_eq_true rfl) (Nat.le_of_ble_eq_true rfl) (fun S2 r3 hS2 hr3 => ?_)
  replace h := zW_x hS2 h
  replace h := lt_x hr3 h
  have g4 : gK S2 r3 = 17 := by rw [hr3, hS2]; exact sW_K
  refine x_dup (pc := 3) hC dX11_like_3 rfl ?_
  obtain ⟨o7, ho7, h⟩ := bd_some h
  refine x_callI (pc := 4) (As := []) (rest := [.ref r3]) hC hl (c_X11_init l hls ho7) lk_RX11_36 (by rw [g4]; decide) dX11_like_4 rfl rfl (Nat.le_of_ble_eq_true rfl) ⟨Nat.le_of_ble_eq_true rfl, Nat.le_of_ble_eq_true rfl⟩ ⟨(Nat.le_of_ble_eq_true rfl), (Nat.le_of_ble_eq_true rfl)⟩ ?_
  rcases o7 with ⟨_ | E8, S6⟩
  · refine xk_v ?_
    replace h := bk_l h
    refine x_astore_n (pc := 7) hC dX11_like_7 rfl (by decide) (by decide) rfl ?_
    refine x_aload_n (pc := 8) hC 0 dX11_like_8 rfl rfl ?_
    refine x_aload_n (pc := 9) hC 1 dX11_like_9 rfl rfl ?_
    obtain ⟨g9, h⟩ := gd_some h
    obtain ⟨o12, ho12, h⟩ := bd_some h
    refine x_callV (pc := 10) (As := [.ref a0]) (rest := []) hC hl (c_X11_takes l hls ho12) lk_RX11_37 fc_17 g9 dX11_like_10 rfl rfl (Nat.le_of_ble_eq_true rfl) ⟨Nat.le_of_ble_eq_true rfl, Nat.le_of_ble_eq_true rfl⟩ ⟨(Nat.le_of_ble_eq_true rfl), (Nat.le_of_ble_eq_true rfl)⟩ ?_
    rcases o12 with ⟨_ | E13, S11⟩
    · refine xk_v ?_
      replace h := bk_l h
      refine x_aload_n (pc := 13) hC 0 dX11_like_13 rfl rfl ?_
      exact x_areturn (pc := 14) hC hE (Or.inl ⟨_, rfl⟩) dX11_like_14 (so h) (Nat.le_of_ble_eq_true rfl) (Nat.le_of_ble_eq_true rfl)
    · exact xk_r (xt_out hC hE (bk_r h) (Nat.le_of_ble_eq_true rfl) (Nat.le_of_ble_eq_true rfl))
  · exact xk_r (xt_out hC hE (bk_r h) (Nat.le_of_ble_eq_true rfl) (Nat.le_of_ble_eq_true rfl))
theorem c_X11_like (l : Launch) (hls : l.stackTraces = false) {S : mS} {a0 : Nat} {o : Rs Nat} (h : f_X11_like S a0 = some o) : CT (fun r : Nat => some (.ref r)) l yX11_like (.code yX11_like cX11_like 2 (Option.some (Jvm.ClassFile.FieldType.object "MixBoothModel$Deck"))) rm_X11_like S [.ref a0] o := ct_of (by decide +kernel) hls (Nat.le_of_ble_eq_true rfl) (fun C hl hC hE => t_X11_like hls hC hl hE h)
abbrev rm_X11_anew : Room := { frames := 8, cells := 0, slots := 0, locals := 150 }
def f_X11_anew_37  : Nat → mS → Nat → Int32 → Option (Rs Unit)
  | 0, _, _, _ => none
  | k + 1, S, a0, a1 => if (4 : Int32) ≤ a1 then (some (.inl (), S)) else (gd (gK S a0 = 17) (lt9 (gR S a0 7) fun r2 => gd (gK S r2 = 30) (gd (¬ (a1 < 0 ∨ gZ S r2 ≤ (a1).toNatClampNeg)) (zI (sI S r2 (a1).toNatClampNeg (-1 : Int32)) fun S5 => lt9 (a1 + Int32.ofInt (1)) fun x8 => f_X11_anew_37 k S5 a0 x8))))
set_option maxHeartbeats 2000000 in
set_option maxRecDepth 100000 in
theorem t_X11_anew_37 {l : Launch} (hls : l.stackTraces = false) {C : cT} (hC : CX C cX11_anew 2 yX11_anew rm_X11_anew) (hl : C.2.1 = l) {S0 : mS} (hE : CE C S0 (Option.none : Option Jvm.ClassFile.FieldType) []) {o : Rs Unit} : ∀ (k : Nat) (S : mS) (a0 : Nat) (a1 : Int32), f_X11_anew_37  k S a0 a1 = some o → XX C 2 (QQ C (fun _ : Unit => none) S0 o) (0) (0) S 37 [(0, .ref a0), (1, .int a1)] [] := by
  intro k
  induction k with
  | zero => intro S a0 a1 h; cases h
  | succ k ih =>
    intro S a0 a1 h
    unfold f_X11_anew_37 at h
    refine x_iload_n (pc := 37) hC 1 dX11_anew_37 rfl rfl ?_
    refine x_iconst (pc := 38) (v := (4 : Int32)) hC dX11_anew_38 (by decide) ?_
    refine x_icmp_ge (pc := 39) hC 55 dX11_anew_39 (by decide) (fun c9 => ?_) (fun c9 => ?_)
    · rw [if_pos c9] at h
      exact x_vreturn (pc := 55) hC hE dX11_anew_55 (so h) (Nat.le_of_ble_eq_true rfl) (Nat.le_of_ble_eq_true rfl)
    · rw [if_neg c9] at h
      refine x_aload_n (pc := 42) hC 0 dX11_anew_42 rfl rfl ?_
      obtain ⟨g1, h⟩ := gd_some h
      refine x_getRv (pc := 43) (k := 7) hC fc_17 fl_RX11_22 dX11_anew_43 rfl g1 (fun r2 hr2 => ?_)
      replace h := lt_x hr2 h
      refine x_iload_n (pc := 46) hC 1 dX11_anew_46 rfl rfl ?_
      refine x_iconst (pc := 47) (v := (-1 : Int32)) hC dX11_anew_47 (by decide) ?_
      obtain ⟨g4, h⟩ := gd_some h
      obtain ⟨g3, h⟩ := gd_some h
      refine x_iastv (pc := 48) hC dX11_anew_48 g4 g3 (fun S5 hS5 => ?_)
      replace h := zI_x hS5 h
      have g6 : gK S5 a0 = 17 := by rw [hS5]; exact g1
      have g7 : gK S5 r2 = 30 := by rw [hS5]; exact g4
      obtain ⟨x8, hx8⟩ : ∃ z, z = (a1 + Int32.ofInt (1)) := ⟨_, rfl⟩
      replace h := lt_x hx8 h
      refine x_iinc (pc := 49) hC 1 dX11_anew_49 rfl hx8.symm (by decide) (by decide) rfl ?_
      refine x_goto (pc := 52) hC 37 dX11_anew_52 (by decide) ?_
      refine x_pick [1, 0] rfl ?_
      exact ih _ _ _ h
def f_X11_anew (S : mS) (a0 : Nat) : Option (Rs Unit) :=
  gd (gK S a0 = 17) (zL (sL S a0 9 (0 : Int64)) fun S2 => zL (sL S2 a0 10 (0 : Int64)) fun S4 => zL (sL S4 a0 12 (0 : Int64)) fun S6 => zI (sI S6 a0 3 (0 : Int32)) fun S8 => zI (sI S8 a0 4 (-1 : Int32)) fun S10 => zI (sI S10 a0 13 (0 : Int32)) fun S12 => zI (sI S12 a0 14 (0 : Int32)) fun S14 => f_X11_anew_37  16 S14 a0 (0 : Int32))
set_option maxHeartbeats 2000000 in
set_option maxRecDepth 100000 in
theorem t_X11_anew {l : Launch} (hls : l.stackTraces = false) {C : cT} (hC : CX C cX11_anew 2 yX11_anew rm_X11_anew) (hl : C.2.1 = l) {S0 : mS} (hE : CE C S0 (Option.none : Option Jvm.ClassFile.FieldType) []) {o : Rs Unit} {S : mS} {a0 : Nat} (h : f_X11_anew S a0 = some o) : XX C 2 (QQ C (fun _ : Unit => none) S0 o) 0 0 S 0 [(0, .ref a0)] [] := by
  unfold f_X11_anew at h
  refine x_aload_n (pc := 0) hC 0 dX11_anew_0 rfl rfl ?_
  refine x_lconst (pc := 1) (v := (0 : Int64)) hC dX11_anew_1 (by decide) ?_
  obtain ⟨g1, h⟩ := gd_some h
  refine x_putLv (pc := 2) (k := 9) hC fc_17 fl_RX11_54 dX11_anew_2 rfl rfl rfl g1 (fun S2 hS2 => ?_)
  replace h := zL_x hS2 h
  have g3 : gK S2 a0 = 17 := by rw [hS2]; exact g1
  refine x_aload_n (pc := 5) hC 0 dX11_anew_5 rfl rfl ?_
  refine x_lconst (pc := 6) (v := (0 : Int64)) hC dX11_anew_6 (by decide) ?_
  refine x_putLv (pc := 7) (k := 10) hC fc_17 fl_RX11_58 dX11_anew_7 rfl rfl rfl g3 (fun S4 hS4 => ?_)
  replace h := zL_x hS4 h
  have g5 : gK S4 a0 = 17 := by rw [hS4]; exact g3
  refine x_aload_n (pc := 10) hC 0 dX11_anew_10 rfl rfl ?_
  refine x_lconst (pc := 11) (v := (0 : Int64)) hC dX11_anew_11 (by decide) ?_
  refine x_putLv (pc := 12) (k := 12) hC fc_17 fl_RX11_64 dX11_anew_12 rfl rfl rfl g5 (fun S6 hS6 => ?_)
  replace h := zL_x hS6 h
  have g7 : gK S6 a0 = 17 := by rw [hS6]; exact g5
  refine x_aload_n (pc := 15) hC 0 dX11_anew_15 rfl rfl ?_
  refine x_iconst (pc := 16) (v := (0 : Int32)) hC dX11_anew_16 (by decide) ?_
  refine x_putIv (pc := 17) (k := 3) hC fc_17 fl_RX11_48 dX11_anew_17 rfl rfl (nf_int _) g7 (fun S8 hS8 => ?_)
  replace h := zI_x hS8 h
  have g9 : gK S8 a0 = 17 := by rw [hS8]; exact g7
  refine x_aload_n (pc := 20) hC 0 dX11_anew_20 rfl rfl ?_
  refine x_iconst (pc := 21) (v := (-1 : Int32)) hC dX11_anew_21 (by decide) ?_
  refine x_putIv (pc := 22) (k := 4) hC fc_17 fl_RX11_15 dX11_anew_22 rfl rfl (nf_int _) g9 (fun S10 hS10 => ?_)
  replace h := zI_x hS10 h
  have g11 : gK S10 a0 = 17 := by rw [hS10]; exact g9
  refine x_aload_n (pc := 25) hC 0 dX11_anew_25 rfl rfl ?_
  refine x_iconst (pc := 26) (v := (0 : Int32)) hC dX11_anew_26 (by decide) ?_
  refine x_putIv (pc := 27) (k := 13) hC fc_17 fl_RX11_67 dX11_anew_27 rfl rfl (show NF .boolean _ from ⟨rfl, rfl⟩) g11 (fun S12 hS12 => ?_)
  replace h := zI_x hS12 h
  have g13 : gK S12 a0 = 17 := by rw [hS12]; exact g11
  refine x_aload_n (pc := 30) hC 0 dX11_anew_30 rfl rfl ?_
  refine x_iconst (pc := 31) (v := (0 : Int32)) hC dX11_anew_31 (by decide) ?_
  refine x_putIv (pc := 32) (k := 14) hC fc_17 fl_RX11_71 dX11_anew_32 rfl rfl (show NF .boolean _ from ⟨rfl, rfl⟩) g13 (fun S14 hS14 => ?_)
  replace h := zI_x hS14 h
  have g15 : gK S14 a0 = 17 := by rw [hS14]; exact g13
  refine x_iconst (pc := 35) (v := (0 : Int32)) hC dX11_anew_35 (by decide) ?_
  refine x_istore_n (pc := 36) hC dX11_anew_36 rfl (by decide) (by decide) rfl ?_
  refine x_pick [1, 0] rfl ?_
  exact t_X11_anew_37 hls hC hl hE 16 _ _ _ h
theorem c_X11_anew (l : Launch) (hls : l.stackTraces = false) {S : mS} {a0 : Nat} {o : Rs Unit} (h : f_X11_anew S a0 = some o) : CT (fun _ : Unit => none) l yX11_anew (.code yX11_anew cX11_anew 2 (Option.none : Option Jvm.ClassFile.FieldType)) rm_X11_anew S [.ref a0] o := ct_of (by decide +kernel) hls (Nat.le_of_ble_eq_true rfl) (fun C hl hC hE => t_X11_anew hls hC hl hE h)
abbrev rm_X11_empties : Room := { frames := 9, cells := 0, slots := 0, locals := 171 }
def f_X11_empties (S : mS) (a0 : Nat) : Option (Rs Unit) :=
  gd (gK S a0 = 17) (zR (sR S a0 0 0) fun S2 => zI (sI S2 a0 1 (-1 : Int32)) fun S4 => bd (f_X11_anew S4 a0) fun _ S7 => some (.inl (), S7))
set_option maxHeartbeats 2000000 in
set_option maxRecDepth 100000 in
theorem t_X11_empties {l : Launch} (hls : l.stackTraces = false) {C : cT} (hC : CX C cX11_empties 1 yX11_empties rm_X11_empties) (hl : C.2.1 = l) {S0 : mS} (hE : CE C S0 (Option.none : Option Jvm.ClassFile.FieldType) []) {o : Rs Unit} {S : mS} {a0 : Nat} (h : f_X11_empties S a0 = some o) : XX C 1 (QQ C (fun _ : Unit => none) S0 o) 0 0 S 0 [(0, .ref a0)] [] := by
  unfold f_X11_empties at h
  refine x_aload_n (pc := 0) hC 0 dX11_empties_0 rfl rfl ?_
  refine x_null (pc := 1) hC dX11_empties_1 ?_
  obtain ⟨g1, h⟩ := gd_some h
  refine x_putRv (pc := 2) (k := 0) hC fc_17 fl_RX11_41 dX11_empties_2 rfl rfl (Or.inl ⟨_, rfl⟩) g1 (fun S2 hS2 => ?_)
  replace h := zR_x hS2 h
  have g3 : gK S2 a0 = 17 := by rw [hS2]; exact g1
  refine x_aload_n (pc := 5) hC 0 dX11_empties_5 rfl rfl ?_
  refine x_iconst (pc := 6) (v := (-1 : Int32)) hC dX11_empties_6 (by decide) ?_
  refine x_putIv (pc := 7) (k := 1) hC fc_17 fl_RX11_9 dX11_empties_7 rfl rfl (nf_int _) g3 (fun S4 hS4 => ?_)
  replace h := zI_x hS4 h
  have g5 : gK S4 a0 = 17 := by rw [hS4]; exact g3
  refine x_aload_n (pc := 10) hC 0 dX11_empties_10 rfl rfl ?_
  obtain ⟨o8, ho8, h⟩ := bd_some h
  refine x_callV (pc := 11) (As := []) (rest := []) hC hl (c_X11_anew l hls ho8) lk_RX11_80 fc_17 g5 dX11_empties_11 rfl rfl (Nat.le_of_ble_eq_true rfl) ⟨Nat.le_of_ble_eq_true rfl, Nat.le_of_ble_eq_true rfl⟩ ⟨(Nat.le_of_ble_eq_true rfl), (Nat.le_of_ble_eq_true rfl)⟩ ?_
  rcases o8 with ⟨_ | E9, S7⟩
  · refine xk_v ?_
    replace h := bk_l h
    exact x_vreturn (pc := 14) hC hE dX11_empties_14 (so h) (Nat.le_of_ble_eq_true rfl) (Nat.le_of_ble_eq_true rfl)
  · exact xk_r (xt_out hC hE (bk_r h) (Nat.le_of_ble_eq_true rfl) (Nat.le_of_ble_eq_true rfl))
theorem c_X11_empties (l : Launch) (hls : l.stackTraces = false) {S : mS} {a0 : Nat} {o : Rs Unit} (h : f_X11_empties S a0 = some o) : CT (fun _ : Unit => none) l yX11_empties (.code yX11_empties cX11_empties 1 (Option.none : Option Jvm.ClassFile.FieldType)) rm_X11_empties S [.ref a0] o := ct_of (by decide +kernel) hls (Nat.le_of_ble_eq_true rfl) (fun C hl hC hE => t_X11_empties hls hC hl hE h)
abbrev rm_X11_beat : Room := { frames := 8, cells := 0, slots := 0, locals := 150 }
def f_X11_beat (S : mS) (a0 : Nat) : Option (Rs Int32) :=
  gd (gK S a0 = 17) (lt9 (gL S a0 9) fun x2 => gd (¬ (60000000 : Int64) = 0) (lt9 (x2 / (60000000 : Int64)) fun x3 => lt9 ((x3).toInt32) fun x5 => some (.inl x5, S)))
set_option maxHeartbeats 2000000 in
set_option maxRecDepth 100000 in
theorem t_X11_beat {l : Launch} (hls : l.stackTraces = false) {C : cT} (hC : CX C cX11_beat 1 yX11_beat rm_X11_beat) (hl : C.2.1 = l) {S0 : mS} (hE : CE C S0 (Option.some Jvm.ClassFile.FieldType.int) []) {o : Rs Int32} {S : mS} {a0 : Nat} (h : f_X11_beat S a0 = some o) : XX C 1 (QQ C (fun r : Int32 => some (.int r)) S0 o) 0 0 S 0 [(0, .ref a0)] [] := by
  unfold f_X11_beat at h
  refine x_aload_n (pc := 0) hC 0 dX11_beat_0 rfl rfl ?_
  obtain ⟨g1, h⟩ := gd_some h
  refine x_getLv (pc := 1) (k := 9) hC fc_17 fl_RX11_54 dX11_beat_1 rfl g1 (fun x2 hx2 => ?_)
  replace h := lt_x hx2 h
  refine x_ldc2 (pc := 4) hC wm_1967 dX11_beat_4 ?_
  obtain ⟨g4, h⟩ := gd_some h
  refine x_ldivv (pc := 7) hC dX11_beat_7 g4 (fun x3 hx3 => ?_)
  replace h := lt_x hx3 h
  refine x_l2iv (pc := 8) hC dX11_beat_8 (fun x5 hx5 => ?_)
  replace h := lt_x hx5 h
  exact x_ireturn (pc := 9) hC hE dX11_beat_9 (so h) (Nat.le_of_ble_eq_true rfl) (Nat.le_of_ble_eq_true rfl)
theorem c_X11_beat (l : Launch) (hls : l.stackTraces = false) {S : mS} {a0 : Nat} {o : Rs Int32} (h : f_X11_beat S a0 = some o) : CT (fun r : Int32 => some (.int r)) l yX11_beat (.code yX11_beat cX11_beat 1 (Option.some Jvm.ClassFile.FieldType.int)) rm_X11_beat S [.ref a0] o := ct_of (by decide +kernel) hls (Nat.le_of_ble_eq_true rfl) (fun C hl hC hE => t_X11_beat hls hC hl hE h)
abbrev rm_X11_stands : Room := { frames := 8, cells := 0, slots := 0, locals := 150 }
def f_X11_stands (S : mS) (a0 : Nat) : Option (Rs Unit) :=
  gd (gK S a0 = 17) (zI (sI S a0 13 (0 : Int32)) fun S2 => zI (sI S2 a0 4 (-1 : Int32)) fun S4 => some (.inl (), S4))
set_option maxHeartbeats 2000000 in
set_option maxRecDepth 100000 in
theorem t_X11_stands {l : Launch} (hls : l.stackTraces = false) {C : cT} (hC : CX C cX11_stands 1 yX11_stands rm_X11_stands) (hl : C.2.1 = l) {S0 : mS} (hE : CE C S0 (Option.none : Option Jvm.ClassFile.FieldType) []) {o : Rs Unit} {S : mS} {a0 : Nat} (h : f_X11_stands S a0 = some o) : XX C 1 (QQ C (fun _ : Unit => none) S0 o) 0 0 S 0 [(0, .ref a0)] [] := by
  unfold f_X11_stands at h
  refine x_aload_n (pc := 0) hC 0 dX11_stands_0 rfl rfl ?_
  refine x_iconst (pc := 1) (v := (0 : Int32)) hC dX11_stands_1 (by decide) ?_
  obtain ⟨g1, h⟩ := gd_some h
  refine x_putIv (pc := 2) (k := 13) hC fc_17 fl_RX11_67 dX11_stands_2 rfl rfl (show NF .boolean _ from ⟨rfl, rfl⟩) g1 (fun S2 hS2 => ?_)
  replace h := zI_x hS2 h
  have g3 : gK S2 a0 = 17 := by rw [hS2]; exact g1
  refine x_aload_n (pc := 5) hC 0 dX11_stands_5 rfl rfl ?_
  refine x_iconst (pc := 6) (v := (-1 : Int32)) hC dX11_stands_6 (by decide) ?_
  refine x_putIv (pc := 7) (k := 4) hC fc_17 fl_RX11_15 dX11_stands_7 rfl rfl (nf_int _) g3 (fun S4 hS4 => ?_)
  replace h := zI_x hS4 h
  have g5 : gK S4 a0 = 17 := by rw [hS4]; exact g3
  exact x_vreturn (pc := 10) hC hE dX11_stands_10 (so h) (Nat.le_of_ble_eq_true rfl) (Nat.le_of_ble_eq_true rfl)
theorem c_X11_stands (l : Launch) (hls : l.stackTraces = false) {S : mS} {a0 : Nat} {o : Rs Unit} (h : f_X11_stands S a0 = some o) : CT (fun _ : Unit => none) l yX11_stands (.code yX11_stands cX11_stands 1 (Option.none : Option Jvm.ClassFile.FieldType)) rm_X11_stands S [.ref a0] o := ct_of (by decide +kernel) hls (Nat.le_of_ble_eq_true rfl) (fun C hl hC hE => t_X11_stands hls hC hl hE h)
abbrev rm_X12_last : Room := { frames := 8, cells := 0, slots := 0, locals := 150 }
def f_X12_last (S : mS) (a0 : Nat) : Option (Rs Int64) :=
  gd (gK S a0 = 18) (lt9 (gI S a0 0) fun x2 => lt9 ((x2).toInt64) fun x3 => lt9 (x3 * (60000000 : Int64)) fun x4 => lt9 (x4 - (1 : Int64)) fun x5 => some (.inl x5, S))
set_option maxHeartbeats 2000000 in
set_option maxRecDepth 100000 in
theorem t_X12_last {l : Launch} (hls : l.stackTraces = false) {C : cT} (hC : CX C cX12_last 1 yX12_last rm_X12_last) (hl : C.2.1 = l) {S0 : mS} (hE : CE C S0 (Option.some Jvm.ClassFile.FieldType.long) []) {o : Rs Int64} {S : mS} {a0 : Nat} (h : f_X12_last S a0 = some o) : XX C 1 (QQ C (fun r : Int64 => some (.long r)) S0 o) 0 0 S 0 [(0, .ref a0)] [] := by
  unfold f_X12_last at h
  refine x_aload_n (pc := 0) hC 0 dX12_last_0 rfl rfl ?_
  obtain ⟨g1, h⟩ := gd_some h
  refine x_getIv (pc := 1) (k := 0) hC fc_18 fl_RX12_15 dX12_last_1 rfl g1 (fun x2 hx2 => ?_)
  replace h := lt_x hx2 h
  refine x_i2lv (pc := 4) hC dX12_last_4 (fun x3 hx3 => ?_)
  replace h := lt_x hx3 h
  refine x_ldc2 (pc := 5) hC wm_1938 dX12_last_5 ?_
  refine x_lmulv (pc := 8) hC dX12_last_8 (fun x4 hx4 => ?_)
  replace h := lt_x hx4 h
  refine x_lconst (pc := 9) (v := (1 : Int64)) hC dX12_last_9 (by decide) ?_
  refine x_lsubv (pc := 10) hC dX12_last_10 (fun x5 hx5 => ?_)
  replace h := lt_x hx5 h
  exact x_lreturn (pc := 11) hC hE dX12_last_11 (so h) (Nat.le_of_ble_eq_true rfl) (Nat.le_of_ble_eq_true rfl)
theorem c_X12_last (l : Launch) (hls : l.stackTraces = false) {S : mS} {a0 : Nat} {o : Rs Int64} (h : f_X12_last S a0 = some o) : CT (fun r : Int64 => some (.long r)) l yX12_last (.code yX12_last cX12_last 1 (Option.some Jvm.ClassFile.FieldType.long)) rm_X12_last S [.ref a0] o := ct_of (by decide +kernel) hls (Nat.le_of_ble_eq_true rfl) (fun C hl hC hE => t_X12_last hls hC hl hE h)
abbrev rm_X11_goesOn : Room := { frames := 9, cells := 0, slots := 0, locals := 173 }
def f_X11_goesOn_218  (S : mS) : Option (Rs Unit) :=
  some (.inl (), S)
set_option maxHeartbeats 2000000 in
set_option maxRecDepth 100000 in
theorem t_X11_goesOn_218 {l : Launch} (hls : l.stackTraces = false) {C : cT} (hC : CX C cX11_goesOn 3 yX11_goesOn rm_X11_goesOn) (hl : C.2.1 = l) {S0 : mS} (hE : CE C S0 (Option.none : Option Jvm.ClassFile.FieldType) []) {o : Rs Unit} {S : mS} (h : f_X11_goesOn_218  S = some o) : XX C 3 (QQ C (fun _ : Unit => none) S0 o) (0) (0) S 218 [] [] := by
  unfold f_X11_goesOn_218 at h
  exact x_vreturn (pc := 218) hC hE dX11_goesOn_218 (so h) (Nat.le_of_ble_eq_true rfl) (Nat.le_of_ble_eq_true rfl)
def f_X11_goesOn_205  (S : mS) (a0 : Nat) : Option (Rs Unit) :=
  gd (gK S a0 = 17) (lt9 (gI S a0 4) fun x2 => if x2 = (50 : Int32) then (bd (f_X11_stands S a0) fun _ S4 => f_X11_goesOn_218  S4) else (f_X11_goesOn_218  S))
set_option maxHeartbeats 2000000 in
set_option maxRecDepth 100000 in
theorem t_X11_goesOn_205 {l : Launch} (hls : l.stackTraces = false) {C : cT} (hC : CX C cX11_goesOn 3 yX11_goesOn rm_X11_goesOn) (hl : C.2.1 = l) {S0 : mS} (hE : CE C S0 (Option.none : Option Jvm.ClassFile.FieldType) []) {o : Rs Unit} {S : mS} {a0 : Nat} (h : f_X11_goesOn_205  S a0 = some o) : XX C 3 (QQ C (fun _ : Unit => none) S0 o) (0) (0) S 205 [(0, .ref a0)] [] := by
  unfold f_X11_goesOn_205 at h
  refine x_aload_n (pc := 205) hC 0 dX11_goesOn_205 rfl rfl ?_
  obtain ⟨g1, h⟩ := gd_some h
  refine x_getIv (pc := 206) (k := 4) hC fc_17 fl_RX11_15 dX11_goesOn_206 rfl g1 (fun x2 hx2 => ?_)
  replace h := lt_x hx2 h
  refine x_bipush (pc := 209) (v := (50 : Int32)) hC dX11_goesOn_209 (by decide) ?_
  refine x_icmp_ne (pc := 211) hC 218 dX11_goesOn_211 (by decide) (fun c7 => ?_) (fun c7 => ?_)
  · rw [if_neg c7] at h
    refine x_pick [] rfl ?_
    exact t_X11_goesOn_218 hls hC hl hE h
  · rw [if_pos c7] at h
    refine x_aload_n (pc := 214) hC 0 dX11_goesOn_214 rfl rfl ?_
    obtain ⟨o5, ho5, h⟩ := bd_some h
    refine x_callV (pc := 215) (As := []) (rest := []) hC hl (c_X11_stands l hls ho5) lk_RX11_108 fc_17 g1 dX11_goesOn_215 rfl rfl (Nat.le_of_ble_eq_true rfl) ⟨Nat.le_of_ble_eq_true rfl, Nat.le_of_ble_eq_true rfl⟩ ⟨(Nat.le_of_ble_eq_true rfl), (Nat.le_of_ble_eq_true rfl)⟩ ?_
    rcases o5 with ⟨_ | E6, S4⟩
    · refine xk_v ?_
      replace h := bk_l h
      refine x_pick [] rfl ?_
      exact t_X11_goesOn_218 hls hC hl hE h
    · exact xk_r (xt_out hC hE (bk_r h) (Nat.le_of_ble_eq_true rfl) (Nat.le_of_ble_eq_true rfl))
def f_X11_goesOn_155  (S : mS) (a0 : Nat) (a1 : Int64) : Option (Rs Unit) :=
  gd (gK S a0 = 17) (lt9 (gL S a0 10) fun x2 => lt9 (x2 + a1) fun x3 => lt9 (gR S a0 0) fun r4 => gd (gK S r4 = 18) (bd (f_X12_last S r4) fun x6 S7 => lt9 (if x6 < x3 then x6 else x3) fun x10 => gd (gK S7 a0 = 17) (zL (sL S7 a0 10 x10) fun S12 => lt9 (gL S12 a0 9) fun x14 => lt9 (gR S12 a0 0) fun r15 => gd (gK S12 r15 = 18) (bd (f_X12_last S12 r15) fun x17 S18 => lt9 (lg_cmp x14 x17) fun x21 => if x21 ≤ 0 then (f_X11_goesOn_205  S18 a0) else (gd (gK S18 a0 = 17) (lt9 (gR S18 a0 0) fun r23 => gd (gK S18 r23 = 18) (bd (f_X12_last S18 r23) fun x25 S26 => gd (gK S26 a0 = 17) (zL (sL S26 a0 9 x25) fun S30 => bd (f_X11_stands S30 a0) fun _ S33 => f_X11_goesOn_205  S33 a0))))))))
set_option maxHeartbeats 2000000 in
set_option maxRecDepth 100000 in
theorem t_X11_goesOn_155 {l : Launch} (hls : l.stackTraces = false) {C : cT} (hC : CX C cX11_goesOn 3 yX11_goesOn rm_X11_goesOn) (hl : C.2.1 = l) {S0 : mS} (hE : CE C S0 (Option.none : Option Jvm.ClassFile.FieldType) []) {o : Rs Unit} {S : mS} {a0 : Nat} {a1 : Int64} (h : f_X11_goesOn_155  S a0 a1 = some o) : XX C 3 (QQ C (fun _ : Unit => none) S0 o) (0) (0) S 155 [(0, .ref a0), (1, .long a1)] [] := by
  unfold f_X11_goesOn_155 at h
  refine x_aload_n (pc := 155) hC 0 dX11_goesOn_155 rfl rfl ?_
  refine x_aload_n (pc := 156) hC 0 dX11_goesOn_156 rfl rfl ?_
  obtain ⟨g1, h⟩ := gd_some h
  refine x_getLv (pc := 157) (k := 10) hC fc_17 fl_RX11_58 dX11_goesOn_157 rfl g1 (fun x2 hx2 => ?_)
  replace h := lt_x hx2 h
  refine x_lload_n (pc := 160) hC 1 dX11_goesOn_160 rfl rfl ?_
  refine x_laddv (pc := 161) hC dX11_goesOn_161 (fun x3 hx3 => ?_)
  replace h := lt_x hx3 h
  refine x_aload_n (pc := 162) hC 0 dX11_goesOn_162 rfl rfl ?_
  refine x_getRv (pc := 163) (k := 0) hC fc_17 fl_RX11_41 dX11_goesOn_163 rfl g1 (fun r4 hr4 => ?_)
  replace h := lt_x hr4 h
  obtain ⟨g5, h⟩ := gd_some h
  obtain ⟨o8, ho8, h⟩ := bd_some h
  refine x_callV (pc := 166) (As := []) (rest := [.long x3, .ref a0]) hC hl (c_X12_last l hls ho8) lk_RX11_98 fc_18 g5 dX11_goesOn_166 rfl rfl (Nat.le_of_ble_eq_true rfl) ⟨Nat.le_of_ble_eq_true rfl, Nat.le_of_ble_eq_true rfl⟩ ⟨(Nat.le_of_ble_eq_true rfl), (Nat.le_of_ble_eq_true rfl)⟩ ?_
  rcases o8 with ⟨x6 | E9, S7⟩
  · refine xk_j ?_
    replace h := bk_l h
    refine x_mmin_long (pc := 169) hC wm_2159 wm_561 wm_69 wm_562 dX11_goesOn_169 (Nat.le_of_ble_eq_true rfl) (Nat.le_of_ble_eq_true rfl) (Nat.le_of_ble_eq_true rfl) (Nat.le_of_ble_eq_true rfl) (fun x10 hx10 => ?_)
    replace h := lt_x hx10 h
    obtain ⟨g11, h⟩ := gd_some h
    refine x_putLv (pc := 172) (k := 10) hC fc_17 fl_RX11_58 dX11_goesOn_172 rfl rfl rfl g11 (fun S12 hS12 => ?_)
    replace h := zL_x hS12 h
    have g13 : gK S12 a0 = 17 := by rw [hS12]; exact g11
    refine x_aload_n (pc := 175) hC 0 dX11_goesOn_175 rfl rfl ?_
    refine x_getLv (pc := 176) (k := 9) hC fc_17 fl_RX11_54 dX11_goesOn_176 rfl g13 (fun x14 hx14 => ?_)
    replace h := lt_x hx14 h
    refine x_aload_n (pc := 179) hC 0 dX11_goesOn_179 rfl rfl ?_
    refine x_getRv (pc := 180) (k := 0) hC fc_17 fl_RX11_41 dX11_goesOn_180 rfl g13 (fun r15 hr15 => ?_)
    replace h := lt_x hr15 h
    obtain ⟨g16, h⟩ := gd_some h
    obtain ⟨o19, ho19, h⟩ := bd_some h
    refine x_callV (pc := 183) (As := []) (rest := [.long x14]) hC hl (c_X12_last l hls ho19) lk_RX11_98 fc_18 g16 dX11_goesOn_183 rfl rfl (Nat.le_of_ble_eq_true rfl) ⟨Nat.le_of_ble_eq_true rfl, Nat.le_of_ble_eq_true rfl⟩ ⟨(Nat.le_of_ble_eq_true rfl), (Nat.le_of_ble_eq_true rfl)⟩ ?_
    rcases o19 with ⟨x17 | E20, S18⟩
    · refine xk_j ?_
      replace h := bk_l h
      refine x_lcmpv (pc := 186) hC dX11_goesOn_186 (fun x21 hx21 => ?_)
      replace h := lt_x hx21 h
      refine x_if_le (pc := 187) hC 205 dX11_goesOn_187 (by decide) (fun c36 => ?_) (fun c36 => ?_)
      · rw [if_pos c36] at h
        refine x_pick [0] rfl ?_
        exact t_X11_goesOn_205 hls hC hl hE h
      · rw [if_neg c36] at h
        refine x_aload_n (pc := 190) hC 0 dX11_goesOn_190 rfl rfl ?_
        refine x_aload_n (pc := 191) hC 0 dX11_goesOn_191 rfl rfl ?_
        obtain ⟨g22, h⟩ := gd_some h
        refine x_getRv (pc := 192) (k := 0) hC fc_17 fl_RX11_41 dX11_goesOn_192 rfl g22 (fun r23 hr23 => ?_)
        replace h := lt_x hr23 h
        obtain ⟨g24, h⟩ := gd_some h
        obtain ⟨o27, ho27, h⟩ := bd_some h
        refine x_callV (pc := 195) (As := []) (rest := [.ref a0]) hC hl (c_X12_last l hls ho27) lk_RX11_98 fc_18 g24 dX11_goesOn_195 rfl rfl (Nat.le_of_ble_eq_true rfl) ⟨Nat.le_of_ble_eq_true rfl, Nat.le_of_ble_eq_true rfl⟩ ⟨(Nat.le_of_ble_eq_true rfl), (Nat.le_of_ble_eq_true rfl)⟩ ?_
        rcases o27 with ⟨x25 | E28, S26⟩
        · refine xk_j ?_
          replace h := bk_l h
          obtain ⟨g29, h⟩ := gd_some h
          refine x_putLv (pc := 198) (k := 9) hC fc_17 fl_RX11_54 dX11_goesOn_198 rfl rfl rfl g29 (fun S30 hS30 => ?_)
          replace h := zL_x hS30 h
          have g31 : gK S30 a0 = 17 := by rw [hS30]; exact g29
          refine x_aload_n (pc := 201) hC 0 dX11_goesOn_201 rfl rfl ?_
          obtain ⟨o34, ho34, h⟩ := bd_some h
          refine x_callV (pc := 202) (As := []) (rest := []) hC hl (c_X11_stands l hls ho34) lk_RX11_108 fc_17 g31 dX11_goesOn_202 rfl rfl (Nat.le_of_ble_eq_true rfl) ⟨Nat.le_of_ble_eq_true rfl, Nat.le_of_ble_eq_true rfl⟩ ⟨(Nat.le_of_ble_eq_true rfl), (Nat.le_of_ble_eq_true rfl)⟩ ?_
          rcases o34 with ⟨_ | E35, S33⟩
          · refine xk_v ?_
            replace h := bk_l h
            refine x_pick [0] rfl ?_
            exact t_X11_goesOn_205 hls hC hl hE h
          · exact xk_r (xt_out hC hE (bk_r h) (Nat.le_of_ble_eq_true rfl) (Nat.le_of_ble_eq_true rfl))
        · exact xk_r (xt_out hC hE (bk_r h) (Nat.le_of_ble_eq_true rfl) (Nat.le_of_ble_eq_true rfl))
    · exact xk_r (xt_out hC hE (bk_r h) (Nat.le_of_ble_eq_true rfl) (Nat.le_of_ble_eq_true rfl))
  · exact xk_r (xt_out hC hE (bk_r h) (Nat.le_of_ble_eq_true rfl) (Nat.le_of_ble_eq_true rfl))
def f_X11_goesOn_118  : Nat → mS → Nat → Int64 → Option (Rs Unit)
  | 0, _, _, _ => none
  | k + 1, S, a0, a1 => gd (gK S a0 = 17) (lt9 (gL S a0 12) fun x2 => lt9 (lg_cmp x2 (0 : Int64)) fun x3 => if x3 ≤ 0 then (f_X11_goesOn_155  S a0 a1) else (lt9 (gL S a0 9) fun x4 => lt9 (gL S a0 11) fun x5 => lt9 (lg_cmp x4 x5) fun x6 => if x6 < 0 then (f_X11_goesOn_155  S a0 a1) else (lt9 (gL S a0 9) fun x7 => lt9 (gL S a0 12) fun x8 => lt9 (x7 - x8) fun x9 => zL (sL S a0 9 x9) fun S10 => f_X11_goesOn_118 k S10 a0 a1)))
set_option maxHeartbeats 2000000 in
set_option maxRecDepth 100000 in
theorem t_X11_goesOn_118 {l : Launch} (hls : l.stackTraces = false) {C : cT} (hC : CX C cX11_goesOn 3 yX11_goesOn rm_X11_goesOn) (hl : C.2.1 = l) {S0 : mS} (hE : CE C S0 (Option.none : Option Jvm.ClassFile.FieldType) []) {o : Rs Unit} : ∀ (k : Nat) (S : mS) (a0 : Nat) (a1 : Int64), f_X11_goesOn_118  k S a0 a1 = some o → XX C 3 (QQ C (fun _ : Unit => none) S0 o) (0) (0) S 118 [(0, .ref a0), (1, .long a1)] [] := by
  intro k
  induction k with
  | zero => intro S a0 a1 h; cases h
  | succ k ih =>
    intro S a0 a1 h
    unfold f_X11_goesOn_118 at h
    refine x_aload_n (pc := 118) hC 0 dX11_goesOn_118 rfl rfl ?_
    obtain ⟨g1, h⟩ := gd_some h
    refine x_getLv (pc := 119) (k := 12) hC fc_17 fl_RX11_64 dX11_goesOn_119 rfl g1 (fun x2 hx2 => ?_)
    replace h := lt_x hx2 h
    refine x_lconst (pc := 122) (v := (0 : Int64)) hC dX11_goesOn_122 (by decide) ?_
    refine x_lcmpv (pc := 123) hC dX11_goesOn_123 (fun x3 hx3 => ?_)
    replace h := lt_x hx3 h
    refine x_if_le (pc := 124) hC 155 dX11_goesOn_124 (by decide) (fun c13 => ?_) (fun c13 => ?_)
    · rw [if_pos c13] at h
      refine x_pick [0, 1] rfl ?_
      exact t_X11_goesOn_155 hls hC hl hE h
    · rw [if_neg c13] at h
      refine x_aload_n (pc := 127) hC 0 dX11_goesOn_127 rfl rfl ?_
      refine x_getLv (pc := 128) (k := 9) hC fc_17 fl_RX11_54 dX11_goesOn_128 rfl g1 (fun x4 hx4 => ?_)
      replace h := lt_x hx4 h
      refine x_aload_n (pc := 131) hC 0 dX11_goesOn_131 rfl rfl ?_
      refine x_getLv (pc := 132) (k := 11) hC fc_17 fl_RX11_61 dX11_goesOn_132 rfl g1 (fun x5 hx5 => ?_)
      replace h := lt_x hx5 h
      refine x_lcmpv (pc := 135) hC dX11_goesOn_135 (fun x6 hx6 => ?_)
      replace h := lt_x hx6 h
      refine x_if_lt (pc := 136) hC 155 dX11_goesOn_136 (by decide) (fun c12 => ?_) (fun c12 => ?_)
      · rw [if_pos c12] at h
        refine x_pick [0, 1] rfl ?_
        exact t_X11_goesOn_155 hls hC hl hE h
      · rw [if_neg c12] at h
        refine x_aload_n (pc := 139) hC 0 dX11_goesOn_139 rfl rfl ?_
        refine x_dup (pc := 140) hC dX11_goesOn_140 rfl ?_
        refine x_getLv (pc := 141) (k := 9) hC fc_17 fl_RX11_54 dX11_goesOn_141 rfl g1 (fun x7 hx7 => ?_)
        replace h := lt_x hx7 h
        refine x_aload_n (pc := 144) hC 0 dX11_goesOn_144 rfl rfl ?_
        refine x_getLv (pc := 145) (k := 12) hC fc_17 fl_RX11_64 dX11_goesOn_145 rfl g1 (fun x8 hx8 => ?_)
        replace h := lt_x hx8 h
        refine x_lsubv (pc := 148) hC dX11_goesOn_148 (fun x9 hx9 => ?_)
        replace h := lt_x hx9 h
        refine x_putLv (pc := 149) (k := 9) hC fc_17 fl_RX11_54 dX11_goesOn_149 rfl rfl rfl g1 (fun S10 hS10 => ?_)
        replace h := zL_x hS10 h
        have g11 : gK S10 a0 = 17 := by rw [hS10]; exact g1
        refine x_goto (pc := 152) hC 118 dX11_goesOn_152 (by decide) ?_
        refine x_pick [0, 1] rfl ?_
        exact ih _ _ _ h
def f_X11_goesOn_108  (S : mS) (a0 : Nat) (a1 : Int64) : Option (Rs Unit) :=
  gd (gK S a0 = 17) (lt9 (gL S a0 9) fun x2 => lt9 (x2 + a1) fun x3 => zL (sL S a0 9 x3) fun S4 => f_X11_goesOn_118  16 S4 a0 a1)
set_option maxHeartbeats 2000000 in
set_option maxRecDepth 100000 in
theorem t_X11_goesOn_108 {l : Launch} (hls : l.stackTraces = false) {C : cT} (hC : CX C cX11_goesOn 3 yX11_goesOn rm_X11_goesOn) (hl : C.2.1 = l) {S0 : mS} (hE : CE C S0 (Option.none : Option Jvm.ClassFile.FieldType) []) {o : Rs Unit} {S : mS} {a0 : Nat} {a1 : Int64} (h : f_X11_goesOn_108  S a0 a1 = some o) : XX C 3 (QQ C (fun _ : Unit => none) S0 o) (0) (0) S 108 [(0, .ref a0), (1, .long a1)] [] := by
  unfold f_X11_goesOn_108 at h
  refine x_aload_n (pc := 108) hC 0 dX11_goesOn_108 rfl rfl ?_
  refine x_dup (pc := 109) hC dX11_goesOn_109 rfl ?_
  obtain ⟨g1, h⟩ := gd_some h
  refine x_getLv (pc := 110) (k := 9) hC fc_17 fl_RX11_54 dX11_goesOn_110 rfl g1 (fun x2 hx2 => ?_)
  replace h := lt_x hx2 h
  refine x_lload_n (pc := 113) hC 1 dX11_goesOn_113 rfl rfl ?_
  refine x_laddv (pc := 114) hC dX11_goesOn_114 (fun x3 hx3 => ?_)
  replace h := lt_x hx3 h
  refine x_putLv (pc := 115) (k := 9) hC fc_17 fl_RX11_54 dX11_goesOn_115 rfl rfl rfl g1 (fun S4 hS4 => ?_)
  replace h := zL_x hS4 h
  have g5 : gK S4 a0 = 17 := by rw [hS4]; exact g1
  refine x_pick [0, 1] rfl ?_
  exact t_X11_goesOn_118 hls hC hl hE 16 _ _ _ h
def f_X11_goesOn_60  (S : mS) (a0 : Nat) (s0 : Int64) (s1 : Int64) : Option (Rs Unit) :=
  lt9 (s0 + s1) fun x1 => gd (gK S a0 = 17) (lt9 (gI S a0 3) fun x3 => lt9 (gI S a0 3) fun x4 => bd (f_J6_signum_0f7a4 S x4) fun x5 S6 => lt9 (x3 - x5) fun x9 => gd (gK S6 a0 = 17) (zI (sI S6 a0 3 x9) fun S11 => lt9 (gI S11 a0 4) fun x13 => if x13 = (-1 : Int32) then (f_X11_goesOn_108  S11 a0 x1) else (lt9 (gI S11 a0 4) fun x14 => gd (¬ (10 : Int32) = 0) (lt9 (x14 / (10 : Int32)) fun x15 => lt9 ((1 : Int32) + x15) fun x17 => lt9 (x1 >>> ((x17).toInt64 &&& 63)) fun x18 => lt9 (gI S11 a0 4) fun x19 => lt9 (x19 + (1 : Int32)) fun x20 => zI (sI S11 a0 4 x20) fun S21 => f_X11_goesOn_108  S21 a0 x18))))
set_option maxHeartbeats 2000000 in
set_option maxRecDepth 100000 in
theorem t_X11_goesOn_60 {l : Launch} (hls : l.stackTraces = false) {C : cT} (hC : CX C cX11_goesOn 3 yX11_goesOn rm_X11_goesOn) (hl : C.2.1 = l) {S0 : mS} (hE : CE C S0 (Option.none : Option Jvm.ClassFile.FieldType) []) {o : Rs Unit} {S : mS} {a0 : Nat} {s0 : Int64} {s1 : Int64} (h : f_X11_goesOn_60  S a0 s0 s1 = some o) : XX C 3 (QQ C (fun _ : Unit => none) S0 o) (0) (0) S 60 [(0, .ref a0)] [.long s1, .long s0] := by
  unfold f_X11_goesOn_60 at h
  refine x_laddv (pc := 60) hC dX11_goesOn_60 (fun x1 hx1 => ?_)
  replace h := lt_x hx1 h
  refine x_lstore_n (pc := 61) hC dX11_goesOn_61 rfl (by decide) (by decide) rfl ?_
  refine x_aload_n (pc := 62) hC 1 dX11_goesOn_62 rfl rfl ?_
  refine x_dup (pc := 63) hC dX11_goesOn_63 rfl ?_
  obtain ⟨g2, h⟩ := gd_some h
  refine x_getIv (pc := 64) (k := 3) hC fc_17 fl_RX11_48 dX11_goesOn_64 rfl g2 (fun x3 hx3 => ?_)
  replace h := lt_x hx3 h
  refine x_aload_n (pc := 67) hC 1 dX11_goesOn_67 rfl rfl ?_
  refine x_getIv (pc := 68) (k := 3) hC fc_17 fl_RX11_48 dX11_goesOn_68 rfl g2 (fun x4 hx4 => ?_)
  replace h := lt_x hx4 h
  obtain ⟨o7, ho7, h⟩ := bd_some h
  refine x_callS (pc := 71) (As := [.int x4]) (rest := [.int x3, .ref a0]) hC hl (c_J6_signum_0f7a4 l hls ho7) lk_RX11_92 dX11_goesOn_71 rfl rfl (Nat.le_of_ble_eq_true rfl) ⟨Nat.le_of_ble_eq_true rfl, Nat.le_of_ble_eq_true rfl⟩ ⟨(Nat.le_of_ble_eq_true rfl), (Nat.le_of_ble_eq_true rfl)⟩ ?_
  rcases o7 with ⟨x5 | E8, S6⟩
  · refine xk_i ?_
    replace h := bk_l h
    refine x_isubv (pc := 74) hC dX11_goesOn_74 (fun x9 hx9 => ?_)
    replace h := lt_x hx9 h
    obtain ⟨g10, h⟩ := gd_some h
    refine x_putIv (pc := 75) (k := 3) hC fc_17 fl_RX11_48 dX11_goesOn_75 rfl rfl (nf_int _) g10 (fun S11 hS11 => ?_)
    replace h := zI_x hS11 h
    have g12 : gK S11 a0 = 17 := by rw [hS11]; exact g10
    refine x_aload_n (pc := 78) hC 1 dX11_goesOn_78 rfl rfl ?_
    refine x_getIv (pc := 79) (k := 4) hC fc_17 fl_RX11_15 dX11_goesOn_79 rfl g12 (fun x13 hx13 => ?_)
    replace h := lt_x hx13 h
    refine x_iconst (pc := 82) (v := (-1 : Int32)) hC dX11_goesOn_82 (by decide) ?_
    refine x_icmp_eq (pc := 83) hC 108 dX11_goesOn_83 (by decide) (fun c23 => ?_) (fun c23 => ?_)
    · rw [if_pos c23] at h
      refine x_pick [1, 0] rfl ?_
      exact t_X11_goesOn_108 hls hC hl hE h
    · rw [if_neg c23] at h
      refine x_lload_n (pc := 86) hC 0 dX11_goesOn_86 rfl rfl ?_
      refine x_iconst (pc := 87) (v := (1 : Int32)) hC dX11_goesOn_87 (by decide) ?_
      refine x_aload_n (pc := 88) hC 1 dX11_goesOn_88 rfl rfl ?_
      refine x_getIv (pc := 89) (k := 4) hC fc_17 fl_RX11_15 dX11_goesOn_89 rfl g12 (fun x14 hx14 => ?_)
      replace h := lt_x hx14 h
      refine x_bipush (pc := 92) (v := (10 : Int32)) hC dX11_goesOn_92 (by decide) ?_
      obtain ⟨g16, h⟩ := gd_some h
      refine x_idivv (pc := 94) hC dX11_goesOn_94 g16 (fun x15 hx15 => ?_)
      replace h := lt_x hx15 h
      refine x_iaddv (pc := 95) hC dX11_goesOn_95 (fun x17 hx17 => ?_)
      replace h := lt_x hx17 h
      refine x_lshrv (pc := 96) hC dX11_goesOn_96 (fun x18 hx18 => ?_)
      replace h := lt_x hx18 h
      refine x_lstore_n (pc := 97) hC dX11_goesOn_97 rfl (by decide) (by decide) rfl ?_
      refine x_aload_n (pc := 98) hC 1 dX11_goesOn_98 rfl rfl ?_
      refine x_dup (pc := 99) hC dX11_goesOn_99 rfl ?_
      refine x_getIv (pc := 100) (k := 4) hC fc_17 fl_RX11_15 dX11_goesOn_100 rfl g12 (fun x19 hx19 => ?_)
      replace h := lt_x hx19 h
      refine x_iconst (pc := 103) (v := (1 : Int32)) hC dX11_goesOn_103 (by decide) ?_
      refine x_iaddv (pc := 104) hC dX11_goesOn_104 (fun x20 hx20 => ?_)
      replace h := lt_x hx20 h
      refine x_putIv (pc := 105) (k := 4) hC fc_17 fl_RX11_15 dX11_goesOn_105 rfl rfl (nf_int _) g12 (fun S21 hS21 => ?_)
      replace h := zI_x hS21 h
      have g22 : gK S21 a0 = 17 := by rw [hS21]; exact g12
      refine x_pick [1, 0] rfl ?_
      exact t_X11_goesOn_108 hls hC hl hE h
  · exact xk_r (xt_out hC hE (bk_r h) (Nat.le_of_ble_eq_true rfl) (Nat.le_of_ble_eq_true rfl))
def f_X11_goesOn (S : mS) (a0 : Nat) : Option (Rs Unit) :=
  gd (gK S a0 = 17) (lt9 (gI S a0 13) fun x2 => if x2 = 0 then (some (.inl (), S)) else (lt9 (gR S a0 0) fun r3 => gd (gK S r3 = 18) (lt9 (gI S r3 6) fun x5 => lt9 ((x5).toInt64) fun x6 => lt9 (gI S a0 2) fun x7 => lt9 ((1000 : Int32) + x7) fun x8 => lt9 ((x8).toInt64) fun x9 => lt9 (x6 * x9) fun x10 => lt9 (gI S a0 3) fun x11 => if x11 ≤ 0 then (lt9 (gI S a0 3) fun x12 => if 0 ≤ x12 then (f_X11_goesOn_60  S a0 x10 (0 : Int64)) else (gd (¬ (10 : Int64) = 0) (lt9 (x10 / (10 : Int64)) fun x13 => lt9 (-x13) fun x15 => f_X11_goesOn_60  S a0 x10 x15))) else (gd (¬ (10 : Int64) = 0) (lt9 (x10 / (10 : Int64)) fun x17 => f_X11_goesOn_60  S a0 x10 x17)))))
set_option maxHeartbeats 2000000 in
set_option maxRecDepth 100000 in
theorem t_X11_goesOn {l : Launch} (hls : l.stackTraces = false) {C : cT} (hC : CX C cX11_goesOn 3 yX11_goesOn rm_X11_goesOn) (hl : C.2.1 = l) {S0 : mS} (hE : CE C S0 (Option.none : Option Jvm.ClassFile.FieldType) []) {o : Rs Unit} {S : mS} {a0 : Nat} (h : f_X11_goesOn S a0 = some o) : XX C 3 (QQ C (fun _ : Unit => none) S0 o) 0 0 S 0 [(0, .ref a0)] [] := by
  unfold f_X11_goesOn at h
  refine x_aload_n (pc := 0) hC 0 dX11_goesOn_0 rfl rfl ?_
  obtain ⟨g1, h⟩ := gd_some h
  refine x_getIv (pc := 1) (k := 13) hC fc_17 fl_RX11_67 dX11_goesOn_1 rfl g1 (fun x2 hx2 => ?_)
  replace h := lt_x hx2 h
  refine x_if_ne (pc := 4) hC 8 dX11_goesOn_4 (by decide) (fun c20 => ?_) (fun c20 => ?_)
  · rw [if_neg c20] at h
    refine x_aload_n (pc := 8) hC 0 dX11_goesOn_8 rfl rfl ?_
    refine x_getRv (pc := 9) (k := 0) hC fc_17 fl_RX11_41 dX11_goesOn_9 rfl g1 (fun r3 hr3 => ?_)
    replace h := lt_x hr3 h
    obtain ⟨g4, h⟩ := gd_some h
    refine x_getIv (pc := 12) (k := 6) hC fc_18 fl_RX11_85 dX11_goesOn_12 rfl g4 (fun x5 hx5 => ?_)
    replace h := lt_x hx5 h
    refine x_i2lv (pc := 15) hC dX11_goesOn_15 (fun x6 hx6 => ?_)
    replace h := lt_x hx6 h
    refine x_sipush (pc := 16) (v := (1000 : Int32)) hC dX11_goesOn_16 (by decide) ?_
    refine x_aload_n (pc := 19) hC 0 dX11_goesOn_19 rfl rfl ?_
    refine x_getIv (pc := 20) (k := 2) hC fc_17 fl_RX11_45 dX11_goesOn_20 rfl g1 (fun x7 hx7 => ?_)
    replace h := lt_x hx7 h
    refine x_iaddv (pc := 23) hC dX11_goesOn_23 (fun x8 hx8 => ?_)
    replace h := lt_x hx8 h
    refine x_i2lv (pc := 24) hC dX11_goesOn_24 (fun x9 hx9 => ?_)
    replace h := lt_x hx9 h
    refine x_lmulv (pc := 25) hC dX11_goesOn_25 (fun x10 hx10 => ?_)
    replace h := lt_x hx10 h
    refine x_lstore_n (pc := 26) hC dX11_goesOn_26 rfl (by decide) (by decide) rfl ?_
    refine x_lload_n (pc := 27) hC 0 dX11_goesOn_27 rfl rfl ?_
    refine x_aload_n (pc := 28) hC 1 dX11_goesOn_28 rfl rfl ?_
    refine x_getIv (pc := 29) (k := 3) hC fc_17 fl_RX11_48 dX11_goesOn_29 rfl g1 (fun x11 hx11 => ?_)
    replace h := lt_x hx11 h
    refine x_if_le (pc := 32) hC 43 dX11_goesOn_32 (by decide) (fun c19 => ?_) (fun c19 => ?_)
    · rw [if_pos c19] at h
      refine x_aload_n (pc := 43) hC 1 dX11_goesOn_43 rfl rfl ?_
      refine x_getIv (pc := 44) (k := 3) hC fc_17 fl_RX11_48 dX11_goesOn_44 rfl g1 (fun x12 hx12 => ?_)
      replace h := lt_x hx12 h
      refine x_if_ge (pc := 47) hC 59 dX11_goesOn_47 (by decide) (fun c16 => ?_) (fun c16 => ?_)
      · rw [if_pos c16] at h
        refine x_lconst (pc := 59) (v := (0 : Int64)) hC dX11_goesOn_59 (by decide) ?_
        refine x_pick [1] rfl ?_
        exact t_X11_goesOn_60 hls hC hl hE h
      · rw [if_neg c16] at h
        refine x_lload_n (pc := 50) hC 0 dX11_goesOn_50 rfl rfl ?_
        refine x_ldc2 (pc := 51) hC wm_2155 dX11_goesOn_51 ?_
        obtain ⟨g14, h⟩ := gd_some h
        refine x_ldivv (pc := 54) hC dX11_goesOn_54 g14 (fun x13 hx13 => ?_)
        replace h := lt_x hx13 h
        refine x_lnegv (pc := 55) hC dX11_goesOn_55 (fun x15 hx15 => ?_)
        replace h := lt_x hx15 h
        refine x_goto (pc := 56) hC 60 dX11_goesOn_56 (by decide) ?_
        refine x_pick [1] rfl ?_
        exact t_X11_goesOn_60 hls hC hl hE h
    · rw [if_neg c19] at h
      refine x_lload_n (pc := 35) hC 0 dX11_goesOn_35 rfl rfl ?_
      refine x_ldc2 (pc := 36) hC wm_2155 dX11_goesOn_36 ?_
      obtain ⟨g18, h⟩ := gd_some h
      refine x_ldivv (pc := 39) hC dX11_goesOn_39 g18 (fun x17 hx17 => ?_)
      replace h := lt_x hx17 h
      refine x_goto (pc := 40) hC 60 dX11_goesOn_40 (by decide) ?_
      refine x_pick [1] rfl ?_
      exact t_X11_goesOn_60 hls hC hl hE h
  · rw [if_pos c20] at h
    exact x_vreturn (pc := 7) hC hE dX11_goesOn_7 (so h) (Nat.le_of_ble_eq_true rfl) (Nat.le_of_ble_eq_true rfl)
theorem c_X11_goesOn (l : Launch) (hls : l.stackTraces = false) {S : mS} {a0 : Nat} {o : Rs Unit} (h : f_X11_goesOn S a0 = some o) : CT (fun _ : Unit => none) l yX11_goesOn (.code yX11_goesOn cX11_goesOn 3 (Option.none : Option Jvm.ClassFile.FieldType)) rm_X11_goesOn S [.ref a0] o := ct_of (by decide +kernel) hls (Nat.le_of_ble_eq_true rfl) (fun C hl hC hE => t_X11_goesOn hls hC hl hE h)
abbrev rm_X11_begins : Room := { frames := 9, cells := 0, slots := 0, locals := 170 }
def f_X11_begins_45  (S : mS) (s0 : Int32) : Option (Rs Int32) :=
  gd (s0 = 0 ∨ s0 = 1) (some (.inl s0, S))
set_option maxHeartbeats 2000000 in
set_option maxRecDepth 100000 in
theorem t_X11_begins_45 {l : Launch} (hls : l.stackTraces = false) {C : cT} (hC : CX C cX11_begins 2 yX11_begins rm_X11_begins) (hl : C.2.1 = l) {S0 : mS} (hE : CE C S0 (Option.some Jvm.ClassFile.FieldType.boolean) []) {o : Rs Int32} {S : mS} {s0 : Int32} (h : f_X11_begins_45  S s0 = some o) : XX C 2 (QQ C (fun r : Int32 => some (.int r)) S0 o) (0) (0) S 45 [] [.int s0] := by
  unfold f_X11_begins_45 at h
  obtain ⟨g1, h⟩ := gd_some h
  exact x_zreturn (pc := 45) hC hE dX11_begins_45 (nf_B g1).1 (so h) (Nat.le_of_ble_eq_true rfl) (Nat.le_of_ble_eq_true rfl)
def f_X11_begins_26  (S : mS) (a0 : Nat) (a1 : Int32) : Option (Rs Int32) :=
  gd (gK S a0 = 17) (zI (sI S a0 13 (1 : Int32)) fun S2 => zI (sI S2 a0 4 (-1 : Int32)) fun S4 => if a1 = 0 then (f_X11_begins_45  S4 (1 : Int32)) else (f_X11_begins_45  S4 (0 : Int32)))
set_option maxHeartbeats 2000000 in
set_option maxRecDepth 100000 in
theorem t_X11_begins_26 {l : Launch} (hls : l.stackTraces = false) {C : cT} (hC : CX C cX11_begins 2 yX11_begins rm_X11_begins) (hl : C.2.1 = l) {S0 : mS} (hE : CE C S0 (Option.some Jvm.ClassFile.FieldType.boolean) []) {o : Rs Int32} {S : mS} {a0 : Nat} {a1 : Int32} (h : f_X11_begins_26  S a0 a1 = some o) : XX C 2 (QQ C (fun r : Int32 => some (.int r)) S0 o) (0) (0) S 26 [(0, .ref a0), (1, .int a1)] [] := by
  unfold f_X11_begins_26 at h
  refine x_aload_n (pc := 26) hC 0 dX11_begins_26 rfl rfl ?_
  refine x_iconst (pc := 27) (v := (1 : Int32)) hC dX11_begins_27 (by decide) ?_
  obtain ⟨g1, h⟩ := gd_some h
  refine x_putIv (pc := 28) (k := 13) hC fc_17 fl_RX11_67 dX11_begins_28 rfl rfl (show NF .boolean _ from ⟨rfl, rfl⟩) g1 (fun S2 hS2 => ?_)
  replace h := zI_x hS2 h
  have g3 : gK S2 a0 = 17 := by rw [hS2]; exact g1
  refine x_aload_n (pc := 31) hC 0 dX11_begins_31 rfl rfl ?_
  refine x_iconst (pc := 32) (v := (-1 : Int32)) hC dX11_begins_32 (by decide) ?_
  refine x_putIv (pc := 33) (k := 4) hC fc_17 fl_RX11_15 dX11_begins_33 rfl rfl (nf_int _) g3 (fun S4 hS4 => ?_)
  replace h := zI_x hS4 h
  have g5 : gK S4 a0 = 17 := by rw [hS4]; exact g3
  refine x_iload_n (pc := 36) hC 1 dX11_begins_36 rfl rfl ?_
  refine x_if_ne (pc := 37) hC 44 dX11_begins_37 (by decide) (fun c6 => ?_) (fun c6 => ?_)
  · rw [if_neg c6] at h
    refine x_iconst (pc := 44) (v := (0 : Int32)) hC dX11_begins_44 (by decide) ?_
    refine x_pick [] rfl ?_
    exact t_X11_begins_45 hls hC hl hE h
  · rw [if_pos c6] at h
    refine x_iconst (pc := 40) (v := (1 : Int32)) hC dX11_begins_40 (by decide) ?_
    refine x_goto (pc := 41) hC 45 dX11_begins_41 (by decide) ?_
    refine x_pick [] rfl ?_
    exact t_X11_begins_45 hls hC hl hE h
def f_X11_begins (S : mS) (a0 : Nat) : Option (Rs Int32) :=
  gd (gK S a0 = 17) (lt9 (gI S a0 13) fun x2 => lt9 (gL S a0 9) fun x3 => lt9 (gR S a0 0) fun r4 => gd (gK S r4 = 18) (bd (f_X12_last S r4) fun x6 S7 => lt9 (lg_cmp x3 x6) fun x10 => if x10 < 0 then (f_X11_begins_26  S7 a0 x2) else (if x2 = 0 then (some (.inl (0 : Int32), S7)) else (f_X11_begins_26  S7 a0 x2))))
set_option maxHeartbeats 2000000 in
set_option maxRecDepth 100000 in
theorem t_X11_begins {l : Launch} (hls : l.stackTraces = false) {C : cT} (hC : CX C cX11_begins 2 yX11_begins rm_X11_begins) (hl : C.2.1 = l) {S0 : mS} (hE : CE C S0 (Option.some Jvm.ClassFile.FieldType.boolean) []) {o : Rs Int32} {S : mS} {a0 : Nat} (h : f_X11_begins S a0 = some o) : XX C 2 (QQ C (fun r : Int32 => some (.int r)) S0 o) 0 0 S 0 [(0, .ref a0)] [] := by
  unfold f_X11_begins at h
  refine x_aload_n (pc := 0) hC 0 dX11_begins_0 rfl rfl ?_
  obtain ⟨g1, h⟩ := gd_some h
  refine x_getIv (pc := 1) (k := 13) hC fc_17 fl_RX11_67 dX11_begins_1 rfl g1 (fun x2 hx2 => ?_)
  replace h := lt_x hx2 h
  refine x_istore_n (pc := 4) hC dX11_begins_4 rfl (by decide) (by decide) rfl ?_
  refine x_aload_n (pc := 5) hC 1 dX11_begins_5 rfl rfl ?_
  refine x_getLv (pc := 6) (k := 9) hC fc_17 fl_RX11_54 dX11_begins_6 rfl g1 (fun x3 hx3 => ?_)
  replace h := lt_x hx3 h
  refine x_aload_n (pc := 9) hC 1 dX11_begins_9 rfl rfl ?_
  refine x_getRv (pc := 10) (k := 0) hC fc_17 fl_RX11_41 dX11_begins_10 rfl g1 (fun r4 hr4 => ?_)
  replace h := lt_x hr4 h
  obtain ⟨g5, h⟩ := gd_some h
  obtain ⟨o8, ho8, h⟩ := bd_some h
  refine x_callV (pc := 13) (As := []) (rest := [.long x3]) hC hl (c_X12_last l hls ho8) lk_RX11_98 fc_18 g5 dX11_begins_13 rfl rfl (Nat.le_of_ble_eq_true rfl) ⟨Nat.le_of_ble_eq_true rfl, Nat.le_of_ble_eq_true rfl⟩ ⟨(Nat.le_of_ble_eq_true rfl), (Nat.le_of_ble_eq_true rfl)⟩ ?_
  rcases o8 with ⟨x6 | E9, S7⟩
  · refine xk_j ?_
    replace h := bk_l h
    refine x_lcmpv (pc := 16) hC dX11_begins_16 (fun x10 hx10 => ?_)
    replace h := lt_x hx10 h
    refine x_if_lt (pc := 17) hC 26 dX11_begins_17 (by decide) (fun c12 => ?_) (fun c12 => ?_)
    · rw [if_pos c12] at h
      refine x_pick [1, 0] rfl ?_
      exact t_X11_begins_26 hls hC hl hE h
    · rw [if_neg c12] at h
      refine x_iload_n (pc := 20) hC 0 dX11_begins_20 rfl rfl ?_
      refine x_if_ne (pc := 21) hC 26 dX11_begins_21 (by decide) (fun c11 => ?_) (fun c11 => ?_)
      · rw [if_neg c11] at h
        refine x_pick [1, 0] rfl ?_
        exact t_X11_begins_26 hls hC hl hE h
      · rw [if_pos c11] at h
        refine x_iconst (pc := 24) (v := (0 : Int32)) hC dX11_begins_24 (by decide) ?_
        exact x_zreturn (pc := 25) hC hE dX11_begins_25 (show NF .boolean _ from ⟨rfl, rfl⟩).1 (so h) (Nat.le_of_ble_eq_true rfl) (Nat.le_of_ble_eq_true rfl)
  · exact xk_r (xt_out hC hE (bk_r h) (Nat.le_of_ble_eq_true rfl) (Nat.le_of_ble_eq_true rfl))
theorem c_X11_begins (l : Launch) (hls : l.stackTraces = false) {S : mS} {a0 : Nat} {o : Rs Int32} (h : f_X11_begins S a0 = some o) : CT (fun r : Int32 => some (.int r)) l yX11_begins (.code yX11_begins cX11_begins 2 (Option.some Jvm.ClassFile.FieldType.boolean)) rm_X11_begins S [.ref a0] o := ct_of (by decide +kernel) hls (Nat.le_of_ble_eq_true rfl) (fun C hl hC hE => t_X11_begins hls hC hl hE h)
abbrev rm_X11_has : Room := { frames := 9, cells := 0, slots := 0, locals := 170 }
def f_X11_has_28  (S : mS) (s0 : Int32) : Option (Rs Int32) :=
  gd (s0 = 0 ∨ s0 = 1) (some (.inl s0, S))
set_option maxHeartbeats 2000000 in
set_option maxRecDepth 100000 in
theorem t_X11_has_28 {l : Launch} (hls : l.stackTraces = false) {C : cT} (hC : CX C cX11_has 2 yX11_has rm_X11_has) (hl : C.2.1 = l) {S0 : mS} (hE : CE C S0 (Option.some Jvm.ClassFile.FieldType.boolean) []) {o : Rs Int32} {S : mS} {s0 : Int32} (h : f_X11_has_28  S s0 = some o) : XX C 2 (QQ C (fun r : Int32 => some (.int r)) S0 o) (0) (0) S 28 [] [.int s0] := by
  unfold f_X11_has_28 at h
  obtain ⟨g1, h⟩ := gd_some h
  exact x_zreturn (pc := 28) hC hE dX11_has_28 (nf_B g1).1 (so h) (Nat.le_of_ble_eq_true rfl) (Nat.le_of_ble_eq_true rfl)
def f_X11_has (S : mS) (a0 : Nat) (a1 : Int32) : Option (Rs Int32) :=
  gd (gK S a0 = 17) (bd (f_X11_beat S a0) fun x2 S3 => gd (gK S3 a0 = 17) (lt9 (gR S3 a0 0) fun r7 => gd (gK S3 r7 = 18) (lt9 (gI S3 r7 3) fun x9 => gd (¬ x9 = 0) (lt9 (x2 / x9) fun x10 => gd (¬ (16 : Int32) = 0) (lt9 (x10 - x10 / (16 : Int32) * (16 : Int32)) fun x12 => lt9 (a1 >>> (x12 &&& 31)) fun x14 => lt9 (x14 &&& (1 : Int32)) fun x15 => if x15 = (1 : Int32) then (f_X11_has_28  S3 (1 : Int32)) else (f_X11_has_28  S3 (0 : Int32)))))))
set_option maxHeartbeats 2000000 in
set_option maxRecDepth 100000 in
theorem t_X11_has {l : Launch} (hls : l.stackTraces = false) {C : cT} (hC : CX C cX11_has 2 yX11_has rm_X11_has) (hl : C.2.1 = l) {S0 : mS} (hE : CE C S0 (Option.some Jvm.ClassFile.FieldType.boolean) []) {o : Rs Int32} {S : mS} {a0 : Nat} {a1 : Int32} (h : f_X11_has S a0 a1 = some o) : XX C 2 (QQ C (fun r : Int32 => some (.int r)) S0 o) 0 0 S 0 [(0, .ref a0), (1, .int a1)] [] := by
  unfold f_X11_has at h
  refine x_iload_n (pc := 0) hC 1 dX11_has_0 rfl rfl ?_
  refine x_aload_n (pc := 1) hC 0 dX11_has_1 rfl rfl ?_
  obtain ⟨g1, h⟩ := gd_some h
  obtain ⟨o4, ho4, h⟩ := bd_some h
  refine x_callV (pc := 2) (As := []) (rest := [.int a1]) hC hl (c_X11_beat l hls ho4) lk_RX11_111 fc_17 g1 dX11_has_2 rfl rfl (Nat.le_of_ble_eq_true rfl) ⟨Nat.le_of_ble_eq_true rfl, Nat.le_of_ble_eq_true rfl⟩ ⟨(Nat.le_of_ble_eq_true rfl), (Nat.le_of_ble_eq_true rfl)⟩ ?_
  rcases o4 with ⟨x2 | E5, S3⟩
  · refine xk_i ?_
    replace h := bk_l h
    refine x_aload_n (pc := 5) hC 0 dX11_has_5 rfl rfl ?_
    obtain ⟨g6, h⟩ := gd_some h
    refine x_getRv (pc := 6) (k := 0) hC fc_17 fl_RX11_41 dX11_has_6 rfl g6 (fun r7 hr7 => ?_)
    replace h := lt_x hr7 h
    obtain ⟨g8, h⟩ := gd_some h
    refine x_getIv (pc := 9) (k := 3) hC fc_18 fl_RX11_115 dX11_has_9 rfl g8 (fun x9 hx9 => ?_)
    replace h := lt_x hx9 h
    obtain ⟨g11, h⟩ := gd_some h
    refine x_idivv (pc := 12) hC dX11_has_12 g11 (fun x10 hx10 => ?_)
    replace h := lt_x hx10 h
    refine x_bipush (pc := 13) (v := (16 : Int32)) hC dX11_has_13 (by decide) ?_
    obtain ⟨g13, h⟩ := gd_some h
    refine x_iremv (pc := 15) hC dX11_has_15 g13 (fun x12 hx12 => ?_)
    replace h := lt_x hx12 h
    refine x_ishrv (pc := 16) hC dX11_has_16 (fun x14 hx14 => ?_)
    replace h := lt_x hx14 h
    refine x_iconst (pc := 17) (v := (1 : Int32)) hC dX11_has_17 (by decide) ?_
    refine x_iandv (pc := 18) hC dX11_has_18 (fun x15 hx15 => ?_)
    replace h := lt_x hx15 h
    refine x_iconst (pc := 19) (v := (1 : Int32)) hC dX11_has_19 (by decide) ?_
    refine x_icmp_ne (pc := 20) hC 27 dX11_has_20 (by decide) (fun c16 => ?_) (fun c16 => ?_)
    · rw [if_neg c16] at h
      refine x_iconst (pc := 27) (v := (0 : Int32)) hC dX11_has_27 (by decide) ?_
      refine x_pick [] rfl ?_
      exact t_X11_has_28 hls hC hl hE h
    · rw [if_pos c16] at h
      refine x_iconst (pc := 23) (v := (1 : Int32)) hC dX11_has_23 (by decide) ?_
      refine x_goto (pc := 24) hC 28 dX11_has_24 (by decide) ?_
      refine x_pick [] rfl ?_
      exact t_X11_has_28 hls hC hl hE h
  · exact xk_r (xt_out hC hE (bk_r h) (Nat.le_of_ble_eq_true rfl) (Nat.le_of_ble_eq_true rfl))
theorem c_X11_has (l : Launch) (hls : l.stackTraces = false) {S : mS} {a0 : Nat} {a1 : Int32} {o : Rs Int32} (h : f_X11_has S a0 a1 = some o) : CT (fun r : Int32 => some (.int r)) l yX11_has (.code yX11_has cX11_has 2 (Option.some Jvm.ClassFile.FieldType.boolean)) rm_X11_has S [.ref a0, .int a1] o := ct_of (by decide +kernel) hls (Nat.le_of_ble_eq_true rfl) (fun C hl hC hE => t_X11_has hls hC hl hE h)
abbrev rm_X11_isHalf : Room := { frames := 8, cells := 0, slots := 0, locals := 150 }
def f_X11_isHalf_27  (S : mS) (s0 : Int32) : Option (Rs Int32) :=
  gd (s0 = 0 ∨ s0 = 1) (some (.inl s0, S))
set_option maxHeartbeats 2000000 in
set_option maxRecDepth 100000 in
theorem t_X11_isHalf_27 {l : Launch} (hls : l.stackTraces = false) {C : cT} (hC : CX C cX11_isHalf 1 yX11_isHalf rm_X11_isHalf) (hl : C.2.1 = l) {S0 : mS} (hE : CE C S0 (Option.some Jvm.ClassFile.FieldType.boolean) []) {o : Rs Int32} {S : mS} {s0 : Int32} (h : f_X11_isHalf_27  S s0 = some o) : XX C 1 (QQ C (fun r : Int32 => some (.int r)) S0 o) (0) (0) S 27 [] [.int s0] := by
  unfold f_X11_isHalf_27 at h
  obtain ⟨g1, h⟩ := gd_some h
  exact x_zreturn (pc := 27) hC hE dX11_isHalf_27 (nf_B g1).1 (so h) (Nat.le_of_ble_eq_true rfl) (Nat.le_of_ble_eq_true rfl)
def f_X11_isHalf_26  (S : mS) : Option (Rs Int32) :=
  f_X11_isHalf_27  S (0 : Int32)
set_option maxHeartbeats 2000000 in
set_option maxRecDepth 100000 in
theorem t_X11_isHalf_26 {l : Launch} (hls : l.stackTraces = false) {C : cT} (hC : CX C cX11_isHalf 1 yX11_isHalf rm_X11_isHalf) (hl : C.2.1 = l) {S0 : mS} (hE : CE C S0 (Option.some Jvm.ClassFile.FieldType.boolean) []) {o : Rs Int32} {S : mS} (h : f_X11_isHalf_26  S = some o) : XX C 1 (QQ C (fun r : Int32 => some (.int r)) S0 o) (0) (0) S 26 [] [] := by
  unfold f_X11_isHalf_26 at h
  refine x_iconst (pc := 26) (v := (0 : Int32)) hC dX11_isHalf_26 (by decide) ?_
  refine x_pick [] rfl ?_
  exact t_X11_isHalf_27 hls hC hl hE h
def f_X11_isHalf (S : mS) (a0 : Nat) : Option (Rs Int32) :=
  gd (gK S a0 = 17) (lt9 (gR S a0 0) fun r2 => if r2 = 0 then (f_X11_isHalf_26  S) else (lt9 (gL S a0 9) fun x3 => gd (¬ (60000000 : Int64) = 0) (lt9 (x3 - x3 / (60000000 : Int64) * (60000000 : Int64)) fun x4 => lt9 (lg_cmp x4 (30000000 : Int64)) fun x6 => if x6 < 0 then (f_X11_isHalf_26  S) else (f_X11_isHalf_27  S (1 : Int32)))))
set_option maxHeartbeats 2000000 in
set_option maxRecDepth 100000 in
theorem t_X11_isHalf {l : Launch} (hls : l.stackTraces = false) {C : cT} (hC : CX C cX11_isHalf 1 yX11_isHalf rm_X11_isHalf) (hl : C.2.1 = l) {S0 : mS} (hE : CE C S0 (Option.some Jvm.ClassFile.FieldType.boolean) []) {o : Rs Int32} {S : mS} {a0 : Nat} (h : f_X11_isHalf S a0 = some o) : XX C 1 (QQ C (fun r : Int32 => some (.int r)) S0 o) 0 0 S 0 [(0, .ref a0)] [] := by
  unfold f_X11_isHalf at h
  refine x_aload_n (pc := 0) hC 0 dX11_isHalf_0 rfl rfl ?_
  obtain ⟨g1, h⟩ := gd_some h
  refine x_getRv (pc := 1) (k := 0) hC fc_17 fl_RX11_41 dX11_isHalf_1 rfl g1 (fun r2 hr2 => ?_)
  replace h := lt_x hr2 h
  refine x_ifnull (pc := 4) hC 26 dX11_isHalf_4 (by decide) (fun c8 => ?_) (fun c8 => ?_)
  · rw [if_pos c8] at h
    refine x_pick [] rfl ?_
    exact t_X11_isHalf_26 hls hC hl hE h
  · rw [if_neg c8] at h
    refine x_aload_n (pc := 7) hC 0 dX11_isHalf_7 rfl rfl ?_
    refine x_getLv (pc := 8) (k := 9) hC fc_17 fl_RX11_54 dX11_isHalf_8 rfl g1 (fun x3 hx3 => ?_)
    replace h := lt_x hx3 h
    refine x_ldc2 (pc := 11) hC wm_1967 dX11_isHalf_11 ?_
    obtain ⟨g5, h⟩ := gd_some h
    refine x_lremv (pc := 14) hC dX11_isHalf_14 g5 (fun x4 hx4 => ?_)
    replace h := lt_x hx4 h
    refine x_ldc2 (pc := 15) hC wm_2235 dX11_isHalf_15 ?_
    refine x_lcmpv (pc := 18) hC dX11_isHalf_18 (fun x6 hx6 => ?_)
    replace h := lt_x hx6 h
    refine x_if_lt (pc := 19) hC 26 dX11_isHalf_19 (by decide) (fun c7 => ?_) (fun c7 => ?_)
    · rw [if_pos c7] at h
      refine x_pick [] rfl ?_
      exact t_X11_isHalf_26 hls hC hl hE h
    · rw [if_neg c7] at h
      refine x_iconst (pc := 22) (v := (1 : Int32)) hC dX11_isHalf_22 (by decide) ?_
      refine x_goto (pc := 23) hC 27 dX11_isHalf_23 (by decide) ?_
      refine x_pick [] rfl ?_
      exact t_X11_isHalf_27 hls hC hl hE h
theorem c_X11_isHalf (l : Launch) (hls : l.stackTraces = false) {S : mS} {a0 : Nat} {o : Rs Int32} (h : f_X11_isHalf S a0 = some o) : CT (fun r : Int32 => some (.int r)) l yX11_isHalf (.code yX11_isHalf cX11_isHalf 1 (Option.some Jvm.ClassFile.FieldType.boolean)) rm_X11_isHalf S [.ref a0] o := ct_of (by decide +kernel) hls (Nat.le_of_ble_eq_true rfl) (fun C hl hC hE => t_X11_isHalf hls hC hl hE h)
abbrev rm_X11_puts : Room := { frames := 9, cells := 0, slots := 0, locals := 170 }
def f_X11_puts_36  (S : mS) (s0 : Nat) (s1 : Int64) : Option (Rs Unit) :=
  gd (gK S s0 = 17) (zL (sL S s0 9 s1) fun S2 => some (.inl (), S2))
set_option maxHeartbeats 2000000 in
set_option maxRecDepth 100000 in
theorem t_X11_puts_36 {l : Launch} (hls : l.stackTraces = false) {C : cT} (hC : CX C cX11_puts 3 yX11_puts rm_X11_puts) (hl : C.2.1 = l) {S0 : mS} (hE : CE C S0 (Option.none : Option Jvm.ClassFile.FieldType) []) {o : Rs Unit} {S : mS} {s0 : Nat} {s1 : Int64} (h : f_X11_puts_36  S s0 s1 = some o) : XX C 3 (QQ C (fun _ : Unit => none) S0 o) (0) (0) S 36 [] [.long s1, .ref s0] := by
  unfold f_X11_puts_36 at h
  obtain ⟨g1, h⟩ := gd_some h
  refine x_putLv (pc := 36) (k := 9) hC fc_17 fl_RX11_54 dX11_puts_36 rfl rfl rfl g1 (fun S2 hS2 => ?_)
  replace h := zL_x hS2 h
  have g3 : gK S2 s0 = 17 := by rw [hS2]; exact g1
  exact x_vreturn (pc := 39) hC hE dX11_puts_39 (so h) (Nat.le_of_ble_eq_true rfl) (Nat.le_of_ble_eq_true rfl)
def f_X11_puts (S : mS) (a0 : Nat) (a1 : Int64) : Option (Rs Unit) :=
  lt9 (lg_cmp a1 (0 : Int64)) fun x1 => if 0 ≤ x1 then (gd (gK S a0 = 17) (lt9 (gR S a0 0) fun r3 => gd (gK S r3 = 18) (bd (f_X12_last S r3) fun x5 S6 => lt9 (lg_cmp a1 x5) fun x9 => if x9 ≤ 0 then (f_X11_puts_36  S6 a0 a1) else (lt9 (a1 - (60000000 : Int64)) fun x10 => f_X11_puts_36  S6 a0 x10)))) else (lt9 (a1 + (60000000 : Int64)) fun x12 => f_X11_puts_36  S a0 x12)
set_option maxHeartbeats 2000000 in
set_option maxRecDepth 100000 in
theorem t_X11_puts {l : Launch} (hls : l.stackTraces = false) {C : cT} (hC : CX C cX11_puts 3 yX11_puts rm_X11_puts) (hl : C.2.1 = l) {S0 : mS} (hE : CE C S0 (Option.none : Option Jvm.ClassFile.FieldType) []) {o : Rs Unit} {S : mS} {a0 : Nat} {a1 : Int64} (h : f_X11_puts S a0 a1 = some o) : XX C 3 (QQ C (fun _ : Unit => none) S0 o) 0 0 S 0 [(0, .ref a0), (1, .long a1)] [] := by
  unfold f_X11_puts at h
  refine x_aload_n (pc := 0) hC 0 dX11_puts_0 rfl rfl ?_
  refine x_lload_n (pc := 1) hC 1 dX11_puts_1 rfl rfl ?_
  refine x_lconst (pc := 2) (v := (0 : Int64)) hC dX11_puts_2 (by decide) ?_
  refine x_lcmpv (pc := 3) hC dX11_puts_3 (fun x1 hx1 => ?_)
  replace h := lt_x hx1 h
  refine x_if_ge (pc := 4) hC 15 dX11_puts_4 (by decide) (fun c13 => ?_) (fun c13 => ?_)
  · rw [if_pos c13] at h
    refine x_lload_n (pc := 15) hC 1 dX11_puts_15 rfl rfl ?_
    refine x_aload_n (pc := 16) hC 0 dX11_puts_16 rfl rfl ?_
    obtain ⟨g2, h⟩ := gd_some h
    refine x_getRv (pc := 17) (k := 0) hC fc_17 fl_RX11_41 dX11_puts_17 rfl g2 (fun r3 hr3 => ?_)
    replace h := lt_x hr3 h
    obtain ⟨g4, h⟩ := gd_some h
    obtain ⟨o7, ho7, h⟩ := bd_some h
    refine x_callV (pc := 20) (As := []) (rest := [.long a1, .ref a0]) hC hl (c_X12_last l hls ho7) lk_RX11_98 fc_18 g4 dX11_puts_20 rfl rfl (Nat.le_of_ble_eq_true rfl) ⟨Nat.le_of_ble_eq_true rfl, Nat.le_of_ble_eq_true rfl⟩ ⟨(Nat.le_of_ble_eq_true rfl), (Nat.le_of_ble_eq_true rfl)⟩ ?_
    rcases o7 with ⟨x5 | E8, S6⟩
    · refine xk_j ?_
      replace h := bk_l h
      refine x_lcmpv (pc := 23) hC dX11_puts_23 (fun x9 hx9 => ?_)
      replace h := lt_x hx9 h
      refine x_if_le (pc := 24) hC 35 dX11_puts_24 (by decide) (fun c11 => ?_) (fun c11 => ?_)
      · rw [if_pos c11] at h
        refine x_lload_n (pc := 35) hC 1 dX11_puts_35 rfl rfl ?_
        refine x_pick [] rfl ?_
        exact t_X11_puts_36 hls hC hl hE h
      · rw [if_neg c11] at h
        refine x_lload_n (pc := 27) hC 1 dX11_puts_27 rfl rfl ?_
        refine x_ldc2 (pc := 28) hC wm_1967 dX11_puts_28 ?_
        refine x_lsubv (pc := 31) hC dX11_puts_31 (fun x10 hx10 => ?_)
        replace h := lt_x hx10 h
        refine x_goto (pc := 32) hC 36 dX11_puts_32 (by decide) ?_
        refine x_pick [] rfl ?_
        exact t_X11_puts_36 hls hC hl hE h
    · exact xk_r (xt_out hC hE (bk_r h) (Nat.le_of_ble_eq_true rfl) (Nat.le_of_ble_eq_true rfl))
  · rw [if_neg c13] at h
    refine x_lload_n (pc := 7) hC 1 dX11_puts_7 rfl rfl ?_
    refine x_ldc2 (pc := 8) hC wm_1967 dX11_puts_8 ?_
    refine x_laddv (pc := 11) hC dX11_puts_11 (fun x12 hx12 => ?_)
    replace h := lt_x hx12 h
    refine x_goto (pc := 12) hC 36 dX11_puts_12 (by decide) ?_
    refine x_pick [] rfl ?_
    exact t_X11_puts_36 hls hC hl hE h
theorem c_X11_puts (l : Launch) (hls : l.stackTraces = false) {S : mS} {a0 : Nat} {a1 : Int64} {o : Rs Unit} (h : f_X11_puts S a0 a1 = some o) : CT (fun _ : Unit => none) l yX11_puts (.code yX11_puts cX11_puts 3 (Option.none : Option Jvm.ClassFile.FieldType)) rm_X11_puts S [.ref a0, .long a1] o := ct_of (by decide +kernel) hls (Nat.le_of_ble_eq_true rfl) (fun C hl hC hE => t_X11_puts hls hC hl hE h)
abbrev rm_X12_init : Room := { frames := 8, cells := 0, slots := 0, locals := 150 }
def f_X12_init (S : mS) (a0 : Nat) (a1 : Int32) (a2 : Int32) (a3 : Int32) (a4 : Int32) (a5 : Int32) (a6 : Int32) (a7 : Int32) : Option (Rs Unit) :=
  gd (gK S a0 = 18) (zI (sI S a0 6 a1) fun S2 => zI (sI S2 a0 0 a2) fun S4 => zI (sI S4 a0 1 a3) fun S6 => zI (sI S6 a0 2 a4) fun S8 => zI (sI S8 a0 3 a5) fun S10 => zI (sI S10 a0 4 a6) fun S12 => zI (sI S12 a0 5 a7) fun S14 => some (.inl (), S14))
set_option maxHeartbeats 2000000 in
set_option maxRecDepth 100000 in
theorem t_X12_init {l : Launch} (hls : l.stackTraces = false) {C : cT} (hC : CX C cX12_init 8 yX12_init rm_X12_init) (hl : C.2.1 = l) {S0 : mS} (hE : CE C S0 (Option.none : Option Jvm.ClassFile.FieldType) []) {o : Rs Unit} {S : mS} {a0 : Nat} {a1 : Int32} {a2 : Int32} {a3 : Int32} {a4 : Int32} {a5 : Int32} {a6 : Int32} {a7 : Int32} (h : f_X12_init S a0 a1 a2 a3 a4 a5 a6 a7 = some o) : XX C 8 (QQ C (fun _ : Unit => none) S0 o) 0 0 S 0 [(0, .ref a0), (1, .int a1), (2, .int a2), (3, .int a3), (4, .int a4), (5, .int a5), (6, .int a6), (7, .int a7)] [] := by
  unfold f_X12_init at h
  refine x_aload_n (pc := 0) hC 0 dX12_init_0 rfl rfl ?_
  obtain ⟨g1, h⟩ := gd_some h
  refine x_objInit (pc := 1) hC wm_1742 wm_94 wm_95 dX12_init_1 (by rw [g1]; decide) (Nat.le_of_ble_eq_true rfl) (Nat.le_of_ble_eq_true rfl) ?_
  refine x_aload_n (pc := 4) hC 0 dX12_init_4 rfl rfl ?_
  refine x_iload_n (pc := 5) hC 1 dX12_init_5 rfl rfl ?_
  refine x_putIv (pc := 6) (k := 6) hC fc_18 fl_RX12_9 dX12_init_6 rfl rfl (nf_int _) g1 (fun S2 hS2 => ?_)
  replace h := zI_x hS2 h
  have g3 : gK S2 a0 = 18 := by rw [hS2]; exact g1
  refine x_aload_n (pc := 9) hC 0 dX12_init_9 rfl rfl ?_
  refine x_iload_n (pc := 10) hC 2 dX12_init_10 rfl rfl ?_
  refine x_putIFv (pc := 11) (k := 0) hC fc_18 wm_1743 rfl dX12_init_11 rfl rfl rfl rfl (nf_int _) g3 (fun S4 hS4 => ?_)
  replace h := zI_x hS4 h
  have g5 : gK S4 a0 = 18 := by rw [hS4]; exact g3
  refine x_aload_n (pc := 14) hC 0 dX12_init_14 rfl rfl ?_
  refine x_iload_n (pc := 15) hC 3 dX12_init_15 rfl rfl ?_
  refine x_putIFv (pc := 16) (k := 1) hC fc_18 wm_1745 rfl dX12_init_16 rfl rfl rfl rfl (nf_int _) g5 (fun S6 hS6 => ?_)
  replace h := zI_x hS6 h
  have g7 : gK S6 a0 = 18 := by rw [hS6]; exact g5
  refine x_aload_n (pc := 19) hC 0 dX12_init_19 rfl rfl ?_
  refine x_iload (pc := 20) hC 4 dX12_init_20 rfl ?_
  refine x_putIFv (pc := 22) (k := 2) hC fc_18 wm_1747 rfl dX12_init_22 rfl rfl rfl rfl (nf_int _) g7 (fun S8 hS8 => ?_)
  replace h := zI_x hS8 h
  have g9 : gK S8 a0 = 18 := by rw [hS8]; exact g7
  refine x_aload_n (pc := 25) hC 0 dX12_init_25 rfl rfl ?_
  refine x_iload (pc := 26) hC 5 dX12_init_26 rfl ?_
  refine x_putIFv (pc := 28) (k := 3) hC fc_18 wm_1749 rfl dX12_init_28 rfl rfl rfl rfl (nf_int _) g9 (fun S10 hS10 => ?_)
  replace h := zI_x hS10 h
  have g11 : gK S10 a0 = 18 := by rw [hS10]; exact g9
  refine x_aload_n (pc := 31) hC 0 dX12_init_31 rfl rfl ?_
  refine x_iload (pc := 32) hC 6 dX12_init_32 rfl ?_
  refine x_putIFv (pc := 34) (k := 4) hC fc_18 wm_1751 rfl dX12_init_34 rfl rfl rfl rfl (nf_int _) g11 (fun S12 hS12 => ?_)
  replace h := zI_x hS12 h
  have g13 : gK S12 a0 = 18 := by rw [hS12]; exact g11
  refine x_aload_n (pc := 37) hC 0 dX12_init_37 rfl rfl ?_
  refine x_iload (pc := 38) hC 7 dX12_init_38 rfl ?_
  refine x_putIFv (pc := 40) (k := 5) hC fc_18 wm_1753 rfl dX12_init_40 rfl rfl rfl rfl (nf_int _) g13 (fun S14 hS14 => ?_)
  replace h := zI_x hS14 h
  have g15 : gK S14 a0 = 18 := by rw [hS14]; exact g13
  exact x_vreturn (pc := 43) hC hE dX12_init_43 (so h) (Nat.le_of_ble_eq_true rfl) (Nat.le_of_ble_eq_true rfl)
theorem c_X12_init (l : Launch) (hls : l.stackTraces = false) {S : mS} {a0 : Nat} {a1 : Int32} {a2 : Int32} {a3 : Int32} {a4 : Int32} {a5 : Int32} {a6 : Int32} {a7 : Int32} {o : Rs Unit} (h : f_X12_init S a0 a1 a2 a3 a4 a5 a6 a7 = some o) : CT (fun _ : Unit => none) l yX12_init (.code yX12_init cX12_init 8 (Option.none : Option Jvm.ClassFile.FieldType)) rm_X12_init S [.ref a0, .int a1, .int a2, .int a3, .int a4, .int a5, .int a6, .int a7] o := ct_of (by decide +kernel) hls (Nat.le_of_ble_eq_true rfl) (fun C hl hC hE => t_X12_init hls hC hl hE h)
abbrev rm_X13_init : Room := { frames := 12, cells := 23, slots := 131, locals := 230 }
def f_X13_init (S : mS) (a0 : Nat) : Option (Rs Unit) :=
  gd (gK S a0 = 19) (gd (gN S + 1 < KB) (zW (sW S 5 0) fun S3 => lt9 (gN S + 1) fun r4 => bd (f_Jx4a65c_init_da8c8 S3 r4) fun _ S7 => gd (gK S7 a0 = 19) (zR (sR S7 a0 1 r4) fun S11 => gd (gN S11 + 1 < KB) (zW (sW S11 37 4) fun S14 => lt9 (gN S11 + 1) fun r15 => gd (gN S14 + 1 < KB) (zW (sW S14 17 0) fun S18 => lt9 (gN S14 + 1) fun r19 => bd (f_X11_init S18 r19) fun _ S22 => gd (gK S22 r15 = 37) (gd (¬ ((0 : Int32) < 0 ∨ gZ S22 r15 ≤ ((0 : Int32)).toNatClampNeg)) (gd (gK S22 r19 = 17) (zR (sR S22 r15 ((0 : Int32)).toNatClampNeg r19) fun S27 => gd (gN S27 + 1 < KB) (zW (sW S27 17 0) fun S32 => lt9 (gN S27 + 1) fun r33 => bd (f_X11_init S32 r33) fun _ S36 => gd (gK S36 r15 = 37) (gd (¬ ((1 : Int32) < 0 ∨ gZ S36 r15 ≤ ((1 : Int32)).toNatClampNeg)) (gd (gK S36 r33 = 17) (zR (sR S36 r15 ((1 : Int32)).toNatClampNeg r33) fun S41 => gd (gN S41 + 1 < KB) (zW (sW S41 17 0) fun S46 => lt9 (gN S41 + 1) fun r47 => bd (f_X11_init S46 r47) fun _ S50 => gd (gK S50 r15 = 37) (gd (¬ ((2 : Int32) < 0 ∨ gZ S50 r15 ≤ ((2 : Int32)).toNatClampNeg)) (gd (gK S50 r47 = 17) (zR (sR S50 r15 ((2 : Int32)).toNatClampNeg r47) fun S55 => gd (gN S55 + 1 < KB) (zW (sW S55 17 0) fun S60 => lt9 (gN S55 + 1) fun r61 => bd (f_X11_init S60 r61) fun _ S64 => gd (gK S64 r15 = 37) (gd (¬ ((3 : Int32) < 0 ∨ gZ S64 r15 ≤ ((3 : Int32)).toNatClampNeg)) (gd (gK S64 r61 = 17) (zR (sR S64 r15 ((3 : Int32)).toNatClampNeg r61) fun S69 => gd (gK S69 a0 = 19) (zR (sR S69 a0 2 r15) fun S74 => gd (gN S74 + 1 < KB) (zW (sW S74 30 6) fun S79 => lt9 (gN S74 + 1) fun r80 => gd (¬ ((0 : Int32) < 0 ∨ gZ S79 r80 ≤ ((0 : Int32)).toNatClampNeg)) (zI (sI S79 r80 ((0 : Int32)).toNatClampNeg (20 : Int32)) fun S83 => gd (¬ ((1 : Int32) < 0 ∨ gZ S83 r80 ≤ ((1 : Int32)).toNatClampNeg)) (zI (sI S83 r80 ((1 : Int32)).toNatClampNeg (20 : Int32)) fun S86 => gd (¬ ((2 : Int32) < 0 ∨ gZ S86 r80 ≤ ((2 : Int32)).toNatClampNeg)) (zI (sI S86 r80 ((2 : Int32)).toNatClampNeg (20 : Int32)) fun S89 => gd (¬ ((3 : Int32) < 0 ∨ gZ S89 r80 ≤ ((3 : Int32)).toNatClampNeg)) (zI (sI S89 r80 ((3 : Int32)).toNatClampNeg (20 : Int32)) fun S92 => gd (¬ ((4 : Int32) < 0 ∨ gZ S92 r80 ≤ ((4 : Int32)).toNatClampNeg)) (zI (sI S92 r80 ((4 : Int32)).toNatClampNeg (20 : Int32)) fun S95 => gd (¬ ((5 : Int32) < 0 ∨ gZ S95 r80 ≤ ((5 : Int32)).toNatClampNeg)) (zI (sI S95 r80 ((5 : Int32)).toNatClampNeg (20 : Int32)) fun S98 => gd (gK S98 a0 = 19) (zR (sR S98 a0 3 r80) fun S101 => gd (gN S101 + 1 < KB) (zW (sW S101 30 6) fun S105 => lt9 (gN S101 + 1) fun r106 => gd (gK S105 a0 = 19) (zR (sR S105 a0 4 r106) fun S109 => gd (gN S109 + 1 < KB) (zW (sW S109 30 4) fun S113 => lt9 (gN S109 + 1) fun r114 => gd (¬ ((0 : Int32) < 0 ∨ gZ S113 r114 ≤ ((0 : Int32)).toNatClampNeg)) (zI (sI S113 r114 ((0 : Int32)).toNatClampNeg (1000 : Int32)) fun S117 => gd (¬ ((1 : Int32) < 0 ∨ gZ S117 r114 ≤ ((1 : Int32)).toNatClampNeg)) (zI (sI S117 r114 ((1 : Int32)).toNatClampNeg (1000 : Int32)) fun S120 => gd (¬ ((2 : Int32) < 0 ∨ gZ S120 r114 ≤ ((2 : Int32)).toNatClampNeg)) (zI (sI S120 r114 ((2 : Int32)).toNatClampNeg (1000 : Int32)) fun S123 => gd (¬ ((3 : Int32) < 0 ∨ gZ S123 r114 ≤ ((3 : Int32)).toNatClampNeg)) (zI (sI S123 r114 ((3 : Int32)).toNatClampNeg (1000 : Int32)) fun S126 => gd (gK S126 a0 = 19) (zR (sR S126 a0 5 r114) fun S129 => gd (gN S129 + 1 < KB) (zW (sW S129 30 2) fun S133 => lt9 (gN S129 + 1) fun r134 => gd (gK S133 a0 = 19) (zR (sR S133 a0 6 r134) fun S137 => gd (gN S137 + 1 < KB) (zW (sW S137 31 2) fun S141 => lt9 (gN S137 + 1) fun r142 => gd (gK S141 a0 = 19) (zR (sR S141 a0 7 r142) fun S145 => zR (sR S145 a0 20 (KB + 0)) fun S148 => some (.inl (), S148))))))))))))))))))))))))))))))))))))))))))
set_option maxHeartbeats 2000000 in
set_option maxRecDepth 100000 in
theorem t_X13_init {l : Launch} (hls : l.stackTraces = false) {C : cT} (hC : CX C cX13_init 1 yX13_init rm_X13_init) (hl : C.2.1 = l) {S0 : mS} (hE : CE C S0 (Option.none : Option Jvm.ClassFile.FieldType) []) {o : Rs Unit} {S : mS} {a0 : Nat} (h : f_X13_init S a0 = some o) : XX C 1 (QQ C (fun _ : Unit => none) S0 o) 0 0 S 0 [(0, .ref a0)] [] := by
  unfold f_X13_init at h
  refine x_aload_n (pc := 0) hC 0 dX13_init_0 rfl rfl ?_
  obtain ⟨g1, h⟩ := gd_some h
  refine x_objInit (pc := 1) hC wm_1536 wm_94 wm_95 dX13_init_1 (by rw [g1]; decide) (Nat.le_of_ble_eq_true rfl) (Nat.le_of_ble_eq_true rfl) ?_
  refine x_aload_n (pc := 4) hC 0 dX13_init_4 rfl rfl ?_
  obtain ⟨g2, h⟩ := gd_some h
  refine x_newv (pc := 5) hC fc_5 fn_5 wm_1537 wm_1538 wm_60 dX13_init_5 g2 (Nat.le_of_ble_eq_true rfl) (Nat.le_of_ble_eq_true rfl) (fun S3 r4 hS3 hr4 => ?_)
  replace h := zW_x hS3 h
  replace h := lt_x hr4 h
  have g5 : gK S3 r4 = 5 := by rw [hr4, hS3]; exact sW_K
  refine x_dup (pc := 8) hC dX13_init_8 rfl ?_
  obtain ⟨o8, ho8, h⟩ := bd_some h
  refine x_callI (pc := 9) (As := []) (rest := [.ref r4, .ref a0]) hC hl (c_Jx4a65c_init_da8c8 l hls ho8) lk_RX13_9 (by rw [g5]; decide) dX13_init_9 rfl rfl (Nat.le_of_ble_eq_true rfl) ⟨Nat.le_of_ble_eq_true rfl, Nat.le_of_ble_eq_true rfl⟩ ⟨(Nat.le_of_ble_eq_true rfl), (Nat.le_of_ble_eq_true rfl)⟩ ?_
  rcases o8 with ⟨_ | E9, S7⟩
  · refine xk_v ?_
    replace h := bk_l h
    obtain ⟨g10, h⟩ := gd_some h
    refine x_putRFv (pc := 12) (k := 1) hC fc_19 wm_1642 rfl dX13_init_12 rfl rfl rfl rfl (Or.inl ⟨_, rfl⟩) g10 (fun S11 hS11 => ?_)
    replace h := zR_x hS11 h
    have g12 : gK S11 a0 = 19 := by rw [hS11]; exact g10
    refine x_aload_n (pc := 15) hC 0 dX13_init_15 rfl rfl ?_
    refine x_iconst (pc := 16) (v := (4 : Int32)) hC dX13_init_16 (by decide) ?_
    obtain ⟨g13, h⟩ := gd_some h
    refine x_newrv (pc := 17) (z := 4) (kd := 37) (t0 := 7) hC wm_1566 wm_1567 (by decide) (fun _ => rfl) dX13_init_17 (by decide) (by decide) (Nat.le_of_ble_eq_true rfl) g13 (Nat.le_of_ble_eq_true rfl) (Nat.le_of_ble_eq_true rfl) (fun S14 r15 hS14 hr15 => ?_)
    replace h := zW_x hS14 h
    replace h := lt_x hr15 h
    have g16 : gK S14 r15 = 37 := by rw [hr15, hS14]; exact sW_K
    refine x_dup (pc := 20) hC dX13_init_20 rfl ?_
    refine x_iconst (pc := 21) (v := (0 : Int32)) hC dX13_init_21 (by decide) ?_
    obtain ⟨g17, h⟩ := gd_some h
    refine x_newv (pc := 22) hC fc_17 fn_17 wm_1566 wm_1568 wm_61 dX13_init_22 g17 (Nat.le_of_ble_eq_true rfl) (Nat.le_of_ble_eq_true rfl) (fun S18 r19 hS18 hr19 => ?_)
    replace h := zW_x hS18 h
    replace h := lt_x hr19 h
    have g20 : gK S18 r19 = 17 := by rw [hr19, hS18]; exact sW_K
    refine x_dup (pc := 25) hC dX13_init_25 rfl ?_
    obtain ⟨o23, ho23, h⟩ := bd_some h
    refine x_callI (pc := 26) (As := []) (rest := [.ref r19, .int (0 : Int32), .ref r15, .ref r15, .ref a0]) hC hl (c_X11_init l hls ho23) lk_RX13_18 (by rw [g20]; decide) dX13_init_26 rfl rfl (Nat.le_of_ble_eq_true rfl) ⟨Nat.le_of_ble_eq_true rfl, Nat.le_of_ble_eq_true rfl⟩ ⟨(Nat.le_of_ble_eq_true rfl), (Nat.le_of_ble_eq_true rfl)⟩ ?_
    rcases o23 with ⟨_ | E24, S22⟩
    · refine xk_v ?_
      replace h := bk_l h
      obtain ⟨g26, h⟩ := gd_some h
      obtain ⟨g25, h⟩ := gd_some h
      obtain ⟨g28, h⟩ := gd_some h
      refine x_rastv (pc := 29) (t0 := 7) hC fc_17 dX13_init_29 g26 (by decide) (fun _ => rfl) (Or.inl rfl) g28 g25 (fun S27 hS27 => ?_)
      replace h := zR_x hS27 h
      have g29 : gK S27 r15 = 37 := by rw [hS27]; exact g26
      have g30 : gK S27 r19 = 17 := by rw [hS27]; exact g28
      refine x_dup (pc := 30) hC dX13_init_30 rfl ?_
      refine x_iconst (pc := 31) (v := (1 : Int32)) hC dX13_init_31 (by decide) ?_
      obtain ⟨g31, h⟩ := gd_some h
      refine x_newv (pc := 32) hC fc_17 fn_17 wm_1566 wm_1568 wm_61 dX13_init_32 g31 (Nat.le_of_ble_eq_true rfl) (Nat.le_of_ble_eq_true rfl) (fun S32 r33 hS32 hr33 => ?_)
      replace h := zW_x hS32 h
      replace h := lt_x hr33 h
      have g34 : gK S32 r33 = 17 := by rw [hr33, hS32]; exact sW_K
      refine x_dup (pc := 35) hC dX13_init_35 rfl ?_
      obtain ⟨o37, ho37, h⟩ := bd_some h
      refine x_callI (pc := 36) (As := []) (rest := [.ref r33, .int (1 : Int32), .ref r15, .ref r15, .ref a0]) hC hl (c_X11_init l hls ho37) lk_RX13_18 (by rw [g34]; decide) dX13_init_36 rfl rfl (Nat.le_of_ble_eq_true rfl) ⟨Nat.le_of_ble_eq_true rfl, Nat.le_of_ble_eq_true rfl⟩ ⟨(Nat.le_of_ble_eq_true rfl), (Nat.le_of_ble_eq_true rfl)⟩ ?_
      rcases o37 with ⟨_ | E38, S36⟩
      · refine xk_v ?_
        replace h := bk_l h
        obtain ⟨g40, h⟩ := gd_some h
        obtain ⟨g39, h⟩ := gd_some h
        obtain ⟨g42, h⟩ := gd_some h
        refine x_rastv (pc := 39) (t0 := 7) hC fc_17 dX13_init_39 g40 (by decide) (fun _ => rfl) (Or.inl rfl) g42 g39 (fun S41 hS41 => ?_)
        replace h := zR_x hS41 h
        have g43 : gK S41 r15 = 37 := by rw [hS41]; exact g40
        have g44 : gK S41 r33 = 17 := by rw [hS41]; exact g42
        refine x_dup (pc := 40) hC dX13_init_40 rfl ?_
        refine x_iconst (pc := 41) (v := (2 : Int32)) hC dX13_init_41 (by decide) ?_
        obtain ⟨g45, h⟩ := gd_some h
        refine x_newv (pc := 42) hC fc_17 fn_17 wm_1566 wm_1568 wm_61 dX13_init_42 g45 (Nat.le_of_ble_eq_true rfl) (Nat.le_of_ble_eq_true rfl) (fun S46 r47 hS46 hr47 => ?_)
        replace h := zW_x hS46 h
        replace h := lt_x hr47 h
        have g48 : gK S46 r47 = 17 := by rw [hr47, hS46]; exact sW_K
        refine x_dup (pc := 45) hC dX13_init_45 rfl ?_
        obtain ⟨o51, ho51, h⟩ := bd_some h
        refine x_callI (pc := 46) (As := []) (rest := [.ref r47, .int (2 : Int32), .ref r15, .ref r15, .ref a0]) hC hl (c_X11_init l hls ho51) lk_RX13_18 (by rw [g48]; decide) dX13_init_46 rfl rfl (Nat.le_of_ble_eq_true rfl) ⟨Nat.le_of_ble_eq_true rfl, Nat.le_of_ble_eq_true rfl⟩ ⟨(Nat.le_of_ble_eq_true rfl), (Nat.le_of_ble_eq_true rfl)⟩ ?_
        rcases o51 with ⟨_ | E52, S50⟩
        · refine xk_v ?_
          replace h := bk_l h
          obtain ⟨g54, h⟩ := gd_some h
          obtain ⟨g53, h⟩ := gd_some h
          obtain ⟨g56, h⟩ := gd_some h
          refine x_rastv (pc := 49) (t0 := 7) hC fc_17 dX13_init_49 g54 (by decide) (fun _ => rfl) (Or.inl rfl) g56 g53 (fun S55 hS55 => ?_)
          replace h := zR_x hS55 h
          have g57 : gK S55 r15 = 37 := by rw [hS55]; exact g54
          have g58 : gK S55 r47 = 17 := by rw [hS55]; exact g56
          refine x_dup (pc := 50) hC dX13_init_50 rfl ?_
          refine x_iconst (pc := 51) (v := (3 : Int32)) hC dX13_init_51 (by decide) ?_
          obtain ⟨g59, h⟩ := gd_some h
          refine x_newv (pc := 52) hC fc_17 fn_17 wm_1566 wm_1568 wm_61 dX13_init_52 g59 (Nat.le_of_ble_eq_true rfl) (Nat.le_of_ble_eq_true rfl) (fun S60 r61 hS60 hr61 => ?_)
          replace h := zW_x hS60 h
          replace h := lt_x hr61 h
          have g62 : gK S60 r61 = 17 := by rw [hr61, hS60]; exact sW_K
          refine x_dup (pc := 55) hC dX13_init_55 rfl ?_
          obtain ⟨o65, ho65, h⟩ := bd_some h
          refine x_callI (pc := 56) (As := []) (rest := [.ref r61, .int (3 : Int32), .ref r15, .ref r15, .ref a0]) hC hl (c_X11_init l hls ho65) lk_RX13_18 (by rw [g62]; decide) dX13_init_56 rfl rfl (Nat.le_of_ble_eq_true rfl) ⟨Nat.le_of_ble_eq_true rfl, Nat.le_of_ble_eq_true rfl⟩ ⟨(Nat.le_of_ble_eq_true rfl), (Nat.le_of_ble_eq_true rfl)⟩ ?_
          rcases o65 with ⟨_ | E66, S64⟩
          · refine xk_v ?_
            replace h := bk_l h
            obtain ⟨g68, h⟩ := gd_some h
            obtain ⟨g67, h⟩ := gd_some h
            obtain ⟨g70, h⟩ := gd_some h
            refine x_rastv (pc := 59) (t0 := 7) hC fc_17 dX13_init_59 g68 (by decide) (fun _ => rfl) (Or.inl rfl) g70 g67 (fun S69 hS69 => ?_)
            replace h := zR_x hS69 h
            have g71 : gK S69 r15 = 37 := by rw [hS69]; exact g68
            have g72 : gK S69 r61 = 17 := by rw [hS69]; exact g70
            obtain ⟨g73, h⟩ := gd_some h
            refine x_putRFv (pc := 60) (k := 2) hC fc_19 wm_1643 rfl dX13_init_60 rfl rfl rfl rfl (Or.inr ⟨_, rfl⟩) g73 (fun S74 hS74 => ?_)
            replace h := zR_x hS74 h
            have g75 : gK S74 r15 = 37 := by rw [hS74]; exact g71
            have g76 : gK S74 r61 = 17 := by rw [hS74]; exact g72
            have g77 : gK S74 a0 = 19 := by rw [hS74]; exact g73
            refine x_aload_n (pc := 63) hC 0 dX13_init_63 rfl rfl ?_
            refine x_bipush (pc := 64) (v := (6 : Int32)) hC dX13_init_64 (by decide) ?_
            obtain ⟨g78, h⟩ := gd_some h
            refine x_newaIv (pc := 66) (z := 6) hC wm_186 dX13_init_66 (by decide) (by decide) (Nat.le_of_ble_eq_true rfl) g78 (Nat.le_of_ble_eq_true rfl) (Nat.le_of_ble_eq_true rfl) (fun S79 r80 hS79 hr80 => ?_)
            replace h := zW_x hS79 h
            replace h := lt_x hr80 h
            have g81 : gK S79 r80 = 30 := by rw [hr80, hS79]; exact sW_K
            refine x_dup (pc := 68) hC dX13_init_68 rfl ?_
            refine x_iconst (pc := 69) (v := (0 : Int32)) hC dX13_init_69 (by decide) ?_
            refine x_bipush (pc := 70) (v := (20 : Int32)) hC dX13_init_70 (by decide) ?_
            obtain ⟨g82, h⟩ := gd_some h
            refine x_iastv (pc := 72) hC dX13_init_72 g81 g82 (fun S83 hS83 => ?_)
            replace h := zI_x hS83 h
            have g84 : gK S83 r80 = 30 := by rw [hS83]; exact g81
            refine x_dup (pc := 73) hC dX13_init_73 rfl ?_
            refine x_iconst (pc := 74) (v := (1 : Int32)) hC dX13_init_74 (by decide) ?_
            refine x_bipush (pc := 75) (v := (20 : Int32)) hC dX13_init_75 (by decide) ?_
            obtain ⟨g85, h⟩ := gd_some h
            refine x_iastv (pc := 77) hC dX13_init_77 g84 g85 (fun S86 hS86 => ?_)
            replace h := zI_x hS86 h
            have g87 : gK S86 r80 = 30 := by rw [hS86]; exact g84
            refine x_dup (pc := 78) hC dX13_init_78 rfl ?_
            refine x_iconst (pc := 79) (v := (2 : Int32)) hC dX13_init_79 (by decide) ?_
            refine x_bipush (pc := 80) (v := (20 : Int32)) hC dX13_init_80 (by decide) ?_
            obtain ⟨g88, h⟩ := gd_some h
            refine x_iastv (pc := 82) hC dX13_init_82 g87 g88 (fun S89 hS89 => ?_)
            replace h := zI_x hS89 h
            have g90 : gK S89 r80 = 30 := by rw [hS89]; exact g87
            refine x_dup (pc := 83) hC dX13_init_83 rfl ?_
            refine x_iconst (pc := 84) (v := (3 : Int32)) hC dX13_init_84 (by decide) ?_
            refine x_bipush (pc := 85) (v := (20 : Int32)) hC dX13_init_85 (by decide) ?_
            obtain ⟨g91, h⟩ := gd_some h
            refine x_iastv (pc := 87) hC dX13_init_87 g90 g91 (fun S92 hS92 => ?_)
            replace h := zI_x hS92 h
            have g93 : gK S92 r80 = 30 := by rw [hS92]; exact g90
            refine x_dup (pc := 88) hC dX13_init_88 rfl ?_
            refine x_iconst (pc := 89) (v := (4 : Int32)) hC dX13_init_89 (by decide) ?_
            refine x_bipush (pc := 90) (v := (20 : Int32)) hC dX13_init_90 (by decide) ?_
            obtain ⟨g94, h⟩ := gd_some h
            refine x_iastv (pc := 92) hC dX13_init_92 g93 g94 (fun S95 hS95 => ?_)
            replace h := zI_x hS95 h
            have g96 : gK S95 r80 = 30 := by rw [hS95]; exact g93
            refine x_dup (pc := 93) hC dX13_init_93 rfl ?_
            refine x_iconst (pc := 94) (v := (5 : Int32)) hC dX13_init_94 (by decide) ?_
            refine x_bipush (pc := 95) (v := (20 : Int32)) hC dX13_init_95 (by decide) ?_
            obtain ⟨g97, h⟩ := gd_some h
            refine x_iastv (pc := 97) hC dX13_init_97 g96 g97 (fun S98 hS98 => ?_)
            replace h := zI_x hS98 h
            have g99 : gK S98 r80 = 30 := by rw [hS98]; exact g96
            obtain ⟨g100, h⟩ := gd_some h
            refine x_putRFv (pc := 98) (k := 3) hC fc_19 wm_1644 rfl dX13_init_98 rfl rfl rfl rfl (Or.inr ⟨_, rfl⟩) g100 (fun S101 hS101 => ?_)
            replace h := zR_x hS101 h
            have g102 : gK S101 r80 = 30 := by rw [hS101]; exact g99
            have g103 : gK S101 a0 = 19 := by rw [hS101]; exact g100
            refine x_aload_n (pc := 101) hC 0 dX13_init_101 rfl rfl ?_
            refine x_bipush (pc := 102) (v := (6 : Int32)) hC dX13_init_102 (by decide) ?_
            obtain ⟨g104, h⟩ := gd_some h
            refine x_newaIv (pc := 104) (z := 6) hC wm_186 dX13_init_104 (by decide) (by decide) (Nat.le_of_ble_eq_true rfl) g104 (Nat.le_of_ble_eq_true rfl) (Nat.le_of_ble_eq_true rfl) (fun S105 r106 hS105 hr106 => ?_)
            replace h := zW_x hS105 h
            replace h := lt_x hr106 h
            have g107 : gK S105 r106 = 30 := by rw [hr106, hS105]; exact sW_K
            obtain ⟨g108, h⟩ := gd_some h
            refine x_putRFv (pc := 106) (k := 4) hC fc_19 wm_1645 rfl dX13_init_106 rfl rfl rfl rfl (Or.inr ⟨_, rfl⟩) g108 (fun S109 hS109 => ?_)
            replace h := zR_x hS109 h
            have g110 : gK S109 r106 = 30 := by rw [hS109]; exact g107
            have g111 : gK S109 a0 = 19 := by rw [hS109]; exact g108
            refine x_aload_n (pc := 109) hC 0 dX13_init_109 rfl rfl ?_
            refine x_iconst (pc := 110) (v := (4 : Int32)) hC dX13_init_110 (by decide) ?_
            obtain ⟨g112, h⟩ := gd_some h
            refine x_newaIv (pc := 111) (z := 4) hC wm_186 dX13_init_111 (by decide) (by decide) (Nat.le_of_ble_eq_true rfl) g112 (Nat.le_of_ble_eq_true rfl) (Nat.le_of_ble_eq_true rfl) (fun S113 r114 hS113 hr114 => ?_)
            replace h := zW_x hS113 h
            replace h := lt_x hr114 h
            have g115 : gK S113 r114 = 30 := by rw [hr114, hS113]; exact sW_K
            refine x_dup (pc := 113) hC dX13_init_113 rfl ?_
            refine x_iconst (pc := 114) (v := (0 : Int32)) hC dX13_init_114 (by decide) ?_
            refine x_sipush (pc := 115) (v := (1000 : Int32)) hC dX13_init_115 (by decide) ?_
            obtain ⟨g116, h⟩ := gd_some h
            refine x_iastv (pc := 118) hC dX13_init_118 g115 g116 (fun S117 hS117 => ?_)
            replace h := zI_x hS117 h
            have g118 : gK S117 r114 = 30 := by rw [hS117]; exact g115
            refine x_dup (pc := 119) hC dX13_init_119 rfl ?_
            refine x_iconst (pc := 120) (v := (1 : Int32)) hC dX13_init_120 (by decide) ?_
            refine x_sipush (pc := 121) (v := (1000 : Int32)) hC dX13_init_121 (by decide) ?_
            obtain ⟨g119, h⟩ := gd_some h
            refine x_iastv (pc := 124) hC dX13_init_124 g118 g119 (fun S120 hS120 => ?_)
            replace h := zI_x hS120 h
            have g121 : gK S120 r114 = 30 := by rw [hS120]; exact g118
            refine x_dup (pc := 125) hC dX13_init_125 rfl ?_
            refine x_iconst (pc := 126) (v := (2 : Int32)) hC dX13_init_126 (by decide) ?_
            refine x_sipush (pc := 127) (v := (1000 : Int32)) hC dX13_init_127 (by decide) ?_
            obtain ⟨g122, h⟩ := gd_some h
            refine x_iastv (pc := 130) hC dX13_init_130 g121 g122 (fun S123 hS123 => ?_)
            replace h := zI_x hS123 h
            have g124 : gK S123 r114 = 30 := by rw [hS123]; exact g121
            refine x_dup (pc := 131) hC dX13_init_131 rfl ?_
            refine x_iconst (pc := 132) (v := (3 : Int32)) hC dX13_init_132 (by decide) ?_
            refine x_sipush (pc := 133) (v := (1000 : Int32)) hC dX13_init_133 (by decide) ?_
            obtain ⟨g125, h⟩ := gd_some h
            refine x_iastv (pc := 136) hC dX13_init_136 g124 g125 (fun S126 hS126 => ?_)
            replace h := zI_x hS126 h
            have g127 : gK S126 r114 = 30 := by rw [hS126]; exact g124
            obtain ⟨g128, h⟩ := gd_some h
            refine x_putRFv (pc := 137) (k := 5) hC fc_19 wm_1646 rfl dX13_init_137 rfl rfl rfl rfl (Or.inr ⟨_, rfl⟩) g128 (fun S129 hS129 => ?_)
            replace h := zR_x hS129 h
            have g130 : gK S129 r114 = 30 := by rw [hS129]; exact g127
            have g131 : gK S129 a0 = 19 := by rw [hS129]; exact g128
            refine x_aload_n (pc := 140) hC 0 dX13_init_140 rfl rfl ?_
            refine x_iconst (pc := 141) (v := (2 : Int32)) hC dX13_init_141 (by decide) ?_
            obtain ⟨g132, h⟩ := gd_some h
            refine x_newaIv (pc := 142) (z := 2) hC wm_186 dX13_init_142 (by decide) (by decide) (Nat.le_of_ble_eq_true rfl) g132 (Nat.le_of_ble_eq_true rfl) (Nat.le_of_ble_eq_true rfl) (fun S133 r134 hS133 hr134 => ?_)
            replace h := zW_x hS133 h
            replace h := lt_x hr134 h
            have g135 : gK S133 r134 = 30 := by rw [hr134, hS133]; exact sW_K
            obtain ⟨g136, h⟩ := gd_some h
            refine x_putRFv (pc := 144) (k := 6) hC fc_19 wm_1647 rfl dX13_init_144 rfl rfl rfl rfl (Or.inr ⟨_, rfl⟩) g136 (fun S137 hS137 => ?_)
            replace h := zR_x hS137 h
            have g138 : gK S137 r134 = 30 := by rw [hS137]; exact g135
            have g139 : gK S137 a0 = 19 := by rw [hS137]; exact g136
            refine x_aload_n (pc := 147) hC 0 dX13_init_147 rfl rfl ?_
            refine x_iconst (pc := 148) (v := (2 : Int32)) hC dX13_init_148 (by decide) ?_
            obtain ⟨g140, h⟩ := gd_some h
            refine x_newaCv (pc := 149) (z := 2) hC wm_364 dX13_init_149 (by decide) (by decide) (Nat.le_of_ble_eq_true rfl) g140 (Nat.le_of_ble_eq_true rfl) (Nat.le_of_ble_eq_true rfl) (fun S141 r142 hS141 hr142 => ?_)
            replace h := zW_x hS141 h
            replace h := lt_x hr142 h
            have g143 : gK S141 r142 = 31 := by rw [hr142, hS141]; exact sW_K
            obtain ⟨g144, h⟩ := gd_some h
            refine x_putRFv (pc := 151) (k := 7) hC fc_19 wm_1648 rfl dX13_init_151 rfl rfl rfl rfl (Or.inr ⟨_, rfl⟩) g144 (fun S145 hS145 => ?_)
            replace h := zR_x hS145 h
            have g146 : gK S145 r142 = 31 := by rw [hS145]; exact g143
            have g147 : gK S145 a0 = 19 := by rw [hS145]; exact g144
            refine x_aload_n (pc := 154) hC 0 dX13_init_154 rfl rfl ?_
            refine x_ldcK (pc := 155) (i := 0) (tx := "") hC (by decide) dX13_init_155 ?_
            refine x_putRv (pc := 157) (k := 20) hC fc_19 fl_RX13_42 dX13_init_157 rfl rfl (Or.inl ⟨_, rfl⟩) g147 (fun S148 hS148 => ?_)
            replace h := zR_x hS148 h
            have g149 : gK S148 r142 = 31 := by rw [hS148]; exact g146
            have g150 : gK S148 a0 = 19 := by rw [hS148]; exact g147
            exact x_vreturn (pc := 160) hC hE dX13_init_160 (so h) (Nat.le_of_ble_eq_true rfl) (Nat.le_of_ble_eq_true rfl)
          · exact xk_r (xt_out hC hE (bk_r h) (Nat.le_of_ble_eq_true rfl) (Nat.le_of_ble_eq_true rfl))
        · exact xk_r (xt_out hC hE (bk_r h) (Nat.le_of_ble_eq_true rfl) (Nat.le_of_ble_eq_true rfl))
      · exact xk_r (xt_out hC hE (bk_r h) (Nat.le_of_ble_eq_true rfl) (Nat.le_of_ble_eq_true rfl))
    · exact xk_r (xt_out hC hE (bk_r h) (Nat.le_of_ble_eq_true rfl) (Nat.le_of_ble_eq_true rfl))
  · exact xk_r (xt_out hC hE (bk_r h) (Nat.le_of_ble_eq_true rfl) (Nat.le_of_ble_eq_true rfl))
theorem c_X13_init (l : Launch) (hls : l.stackTraces = false) {S : mS} {a0 : Nat} {o : Rs Unit} (h : f_X13_init S a0 = some o) : CT (fun _ : Unit => none) l yX13_init (.code yX13_init cX13_init 1 (Option.none : Option Jvm.ClassFile.FieldType)) rm_X13_init S [.ref a0] o := ct_of (by decide +kernel) hls (Nat.le_of_ble_eq_true rfl) (fun C hl hC hE => t_X13_init hls hC hl hE h)
abbrev rm_X13_thrown : Room := { frames := 8, cells := 0, slots := 0, locals := 150 }
def f_X13_thrown (S : mS) (a0 : Nat) : Option (Rs Int32) :=
  gd (gK S a0 = 19) (lt9 (gI S a0 0) fun x2 => some (.inl x2, S))
set_option maxHeartbeats 2000000 in
set_option maxRecDepth 100000 in
theorem t_X13_thrown {l : Launch} (hls : l.stackTraces = false) {C : cT} (hC : CX C cX13_thrown 1 yX13_thrown rm_X13_thrown) (hl : C.2.1 = l) {S0 : mS} (hE : CE C S0 (Option.some Jvm.ClassFile.FieldType.int) []) {o : Rs Int32} {S : mS} {a0 : Nat} (h : f_X13_thrown S a0 = some o) : XX C 1 (QQ C (fun r : Int32 => some (.int r)) S0 o) 0 0 S 0 [(0, .ref a0)] [] := by
  unfold f_X13_thrown at h
  refine x_aload_n (pc := 0) hC 0 dX13_thrown_0 rfl rfl ?_
  obtain ⟨g1, h⟩ := gd_some h
  refine x_getIv (pc := 1) (k := 0) hC fc_19 fl_RX13_46 dX13_thrown_1 rfl g1 (fun x2 hx2 => ?_)
  replace h := lt_x hx2 h
  exact x_ireturn (pc := 4) hC hE dX13_thrown_4 (so h) (Nat.le_of_ble_eq_true rfl) (Nat.le_of_ble_eq_true rfl)
theorem c_X13_thrown (l : Launch) (hls : l.stackTraces = false) {S : mS} {a0 : Nat} {o : Rs Int32} (h : f_X13_thrown S a0 = some o) : CT (fun r : Int32 => some (.int r)) l yX13_thrown (.code yX13_thrown cX13_thrown 1 (Option.some Jvm.ClassFile.FieldType.int)) rm_X13_thrown S [.ref a0] o := ct_of (by decide +kernel) hls (Nat.le_of_ble_eq_true rfl) (fun C hl hC hE => t_X13_thrown hls hC hl hE h)
abbrev rm_X13_isWrong : Room := { frames := 8, cells := 0, slots := 0, locals := 150 }
def f_X13_isWrong_14  (S : mS) (s0 : Int32) : Option (Rs Int32) :=
  gd (s0 = 0 ∨ s0 = 1) (some (.inl s0, S))
set_option maxHeartbeats 2000000 in
set_option maxRecDepth 100000 in
theorem t_X13_isWrong_14 {l : Launch} (hls : l.stackTraces = false) {C : cT} (hC : CX C cX13_isWrong 2 yX13_isWrong rm_X13_isWrong) (hl : C.2.1 = l) {S0 : mS} (hE : CE C S0 (Option.some Jvm.ClassFile.FieldType.boolean) []) {o : Rs Int32} {S : mS} {s0 : Int32} (h : f_X13_isWrong_14  S s0 = some o) : XX C 2 (QQ C (fun r : Int32 => some (.int r)) S0 o) (0) (0) S 14 [] [.int s0] := by
  unfold f_X13_isWrong_14 at h
  obtain ⟨g1, h⟩ := gd_some h
  exact x_zreturn (pc := 14) hC hE dX13_isWrong_14 (nf_B g1).1 (so h) (Nat.le_of_ble_eq_true rfl) (Nat.le_of_ble_eq_true rfl)
def f_X13_isWrong (S : mS) (a0 : Nat) (a1 : Int32) : Option (Rs Int32) :=
  gd (gK S a0 = 19) (zI (sI S a0 0 a1) fun S2 => if a1 ≤ 0 then (f_X13_isWrong_14  S2 (0 : Int32)) else (f_X13_isWrong_14  S2 (1 : Int32)))
set_option maxHeartbeats 2000000 in
set_option maxRecDepth 100000 in
theorem t_X13_isWrong {l : Launch} (hls : l.stackTraces = false) {C : cT} (hC : CX C cX13_isWrong 2 yX13_isWrong rm_X13_isWrong) (hl : C.2.1 = l) {S0 : mS} (hE : CE C S0 (Option.some Jvm.ClassFile.FieldType.boolean) []) {o : Rs Int32} {S : mS} {a0 : Nat} {a1 : Int32} (h : f_X13_isWrong S a0 a1 = some o) : XX C 2 (QQ C (fun r : Int32 => some (.int r)) S0 o) 0 0 S 0 [(0, .ref a0), (1, .int a1)] [] := by
  unfold f_X13_isWrong at h
  refine x_aload_n (pc := 0) hC 0 dX13_isWrong_0 rfl rfl ?_
  refine x_iload_n (pc := 1) hC 1 dX13_isWrong_1 rfl rfl ?_
  obtain ⟨g1, h⟩ := gd_some h
  refine x_putIv (pc := 2) (k := 0) hC fc_19 fl_RX13_46 dX13_isWrong_2 rfl rfl (nf_int _) g1 (fun S2 hS2 => ?_)
  replace h := zI_x hS2 h
  have g3 : gK S2 a0 = 19 := by rw [hS2]; exact g1
  refine x_iload_n (pc := 5) hC 1 dX13_isWrong_5 rfl rfl ?_
  refine x_if_le (pc := 6) hC 13 dX13_isWrong_6 (by decide) (fun c4 => ?_) (fun c4 => ?_)
  · rw [if_pos c4] at h
    refine x_iconst (pc := 13) (v := (0 : Int32)) hC dX13_isWrong_13 (by decide) ?_
    refine x_pick [] rfl ?_
    exact t_X13_isWrong_14 hls hC hl hE h
  · rw [if_neg c4] at h
    refine x_iconst (pc := 9) (v := (1 : Int32)) hC dX13_isWrong_9 (by decide) ?_
    refine x_goto (pc := 10) hC 14 dX13_isWrong_10 (by decide) ?_
    refine x_pick [] rfl ?_
    exact t_X13_isWrong_14 hls hC hl hE h
theorem c_X13_isWrong (l : Launch) (hls : l.stackTraces = false) {S : mS} {a0 : Nat} {a1 : Int32} {o : Rs Int32} (h : f_X13_isWrong S a0 a1 = some o) : CT (fun r : Int32 => some (.int r)) l yX13_isWrong (.code yX13_isWrong cX13_isWrong 2 (Option.some Jvm.ClassFile.FieldType.boolean)) rm_X13_isWrong S [.ref a0, .int a1] o := ct_of (by decide +kernel) hls (Nat.le_of_ble_eq_true rfl) (fun C hl hC hE => t_X13_isWrong hls hC hl hE h)
abbrev rm_X13_isBetween : Room := { frames := 8, cells := 0, slots := 0, locals := 150 }
def f_X13_isBetween_15  (S : mS) (s0 : Int32) : Option (Rs Int32) :=
  gd (s0 = 0 ∨ s0 = 1) (some (.inl s0, S))
set_option maxHeartbeats 2000000 in
set_option maxRecDepth 100000 in
theorem t_X13_isBetween_15 {l : Launch} (hls : l.stackTraces = false) {C : cT} (hC : CX C cX13_isBetween 3 yX13_isBetween rm_X13_isBetween) (hl : C.2.1 = l) {S0 : mS} (hE : CE C S0 (Option.some Jvm.ClassFile.FieldType.boolean) []) {o : Rs Int32} {S : mS} {s0 : Int32} (h : f_X13_isBetween_15  S s0 = some o) : XX C 3 (QQ C (fun r : Int32 => some (.int r)) S0 o) (0) (0) S 15 [] [.int s0] := by
  unfold f_X13_isBetween_15 at h
  obtain ⟨g1, h⟩ := gd_some h
  exact x_zreturn (pc := 15) hC hE dX13_isBetween_15 (nf_B g1).1 (so h) (Nat.le_of_ble_eq_true rfl) (Nat.le_of_ble_eq_true rfl)
def f_X13_isBetween_14  (S : mS) : Option (Rs Int32) :=
  f_X13_isBetween_15  S (0 : Int32)
set_option maxHeartbeats 2000000 in
set_option maxRecDepth 100000 in
theorem t_X13_isBetween_14 {l : Launch} (hls : l.stackTraces = false) {C : cT} (hC : CX C cX13_isBetween 3 yX13_isBetween rm_X13_isBetween) (hl : C.2.1 = l) {S0 : mS} (hE : CE C S0 (Option.some Jvm.ClassFile.FieldType.boolean) []) {o : Rs Int32} {S : mS} (h : f_X13_isBetween_14  S = some o) : XX C 3 (QQ C (fun r : Int32 => some (.int r)) S0 o) (0) (0) S 14 [] [] := by
  unfold f_X13_isBetween_14 at h
  refine x_iconst (pc := 14) (v := (0 : Int32)) hC dX13_isBetween_14 (by decide) ?_
  refine x_pick [] rfl ?_
  exact t_X13_isBetween_15 hls hC hl hE h
def f_X13_isBetween (S : mS) (a0 : Int32) (a1 : Int32) (a2 : Int32) : Option (Rs Int32) :=
  if a0 < a1 then (f_X13_isBetween_14  S) else (if a2 < a0 then (f_X13_isBetween_14  S) else (f_X13_isBetween_15  S (1 : Int32)))
set_option maxHeartbeats 2000000 in
set_option maxRecDepth 100000 in
theorem t_X13_isBetween {l : Launch} (hls : l.stackTraces = false) {C : cT} (hC : CX C cX13_isBetween 3 yX13_isBetween rm_X13_isBetween) (hl : C.2.1 = l) {S0 : mS} (hE : CE C S0 (Option.some Jvm.ClassFile.FieldType.boolean) []) {o : Rs Int32} {S : mS} {a0 : Int32} {a1 : Int32} {a2 : Int32} (h : f_X13_isBetween S a0 a1 a2 = some o) : XX C 3 (QQ C (fun r : Int32 => some (.int r)) S0 o) 0 0 S 0 [(0, .int a0), (1, .int a1), (2, .int a2)] [] := by
  unfold f_X13_isBetween at h
  refine x_iload_n (pc := 0) hC 1 dX13_isBetween_0 rfl rfl ?_
  refine x_iload_n (pc := 1) hC 0 dX13_isBetween_1 rfl rfl ?_
  refine x_icmp_gt (pc := 2) hC 14 dX13_isBetween_2 (by decide) (fun c2 => ?_) (fun c2 => ?_)
  · rw [if_pos c2] at h
    refine x_pick [] rfl ?_
    exact t_X13_isBetween_14 hls hC hl hE h
  · rw [if_neg c2] at h
    refine x_iload_n (pc := 5) hC 0 dX13_isBetween_5 rfl rfl ?_
    refine x_iload_n (pc := 6) hC 2 dX13_isBetween_6 rfl rfl ?_
    refine x_icmp_gt (pc := 7) hC 14 dX13_isBetween_7 (by decide) (fun c1 => ?_) (fun c1 => ?_)
    · rw [if_pos c1] at h
      refine x_pick [] rfl ?_
      exact t_X13_isBetween_14 hls hC hl hE h
    · rw [if_neg c1] at h
      refine x_iconst (pc := 10) (v := (1 : Int32)) hC dX13_isBetween_10 (by decide) ?_
      refine x_goto (pc := 11) hC 15 dX13_isBetween_11 (by decide) ?_
      refine x_pick [] rfl ?_
      exact t_X13_isBetween_15 hls hC hl hE h
theorem c_X13_isBetween (l : Launch) (hls : l.stackTraces = false) {S : mS} {a0 : Int32} {a1 : Int32} {a2 : Int32} {o : Rs Int32} (h : f_X13_isBetween S a0 a1 a2 = some o) : CT (fun r : Int32 => some (.int r)) l yX13_isBetween (.code yX13_isBetween cX13_isBetween 3 (Option.some Jvm.ClassFile.FieldType.boolean)) rm_X13_isBetween S [.int a0, .int a1, .int a2] o := ct_of (by decide +kernel) hls (Nat.le_of_ble_eq_true rfl) (fun C hl hC hE => t_X13_isBetween hls hC hl hE h)
abbrev rm_X13_isDeck : Room := { frames := 9, cells := 0, slots := 0, locals := 172 }
def f_X13_isDeck (S : mS) (a0 : Int32) : Option (Rs Int32) :=
  bd (f_X13_isBetween S a0 (0 : Int32) (3 : Int32)) fun x1 S2 => gd (x1 = 0 ∨ x1 = 1) (some (.inl x1, S2))
set_option maxHeartbeats 2000000 in
set_option maxRecDepth 100000 in
theorem t_X13_isDeck {l : Launch} (hls : l.stackTraces = false) {C : cT} (hC : CX C cX13_isDeck 1 yX13_isDeck rm_X13_isDeck) (hl : C.2.1 = l) {S0 : mS} (hE : CE C S0 (Option.some Jvm.ClassFile.FieldType.boolean) []) {o : Rs Int32} {S : mS} {a0 : Int32} (h : f_X13_isDeck S a0 = some o) : XX C 1 (QQ C (fun r : Int32 => some (.int r)) S0 o) 0 0 S 0 [(0, .int a0)] [] := by
  unfold f_X13_isDeck at h
  refine x_iload_n (pc := 0) hC 0 dX13_isDeck_0 rfl rfl ?_
  refine x_iconst (pc := 1) (v := (0 : Int32)) hC dX13_isDeck_1 (by decide) ?_
  refine x_iconst (pc := 2) (v := (3 : Int32)) hC dX13_isDeck_2 (by decide) ?_
  obtain ⟨o3, ho3, h⟩ := bd_some h
  refine x_callS (pc := 3) (As := [.int a0, .int (0 : Int32), .int (3 : Int32)]) (rest := []) hC hl (c_X13_isBetween l hls ho3) lk_RX13_50 dX13_isDeck_3 rfl rfl (Nat.le_of_ble_eq_true rfl) ⟨Nat.le_of_ble_eq_true rfl, Nat.le_of_ble_eq_true rfl⟩ ⟨(Nat.le_of_ble_eq_true rfl), (Nat.le_of_ble_eq_true rfl)⟩ ?_
  rcases o3 with ⟨x1 | E4, S2⟩
  · refine xk_i ?_
    replace h := bk_l h
    obtain ⟨g5, h⟩ := gd_some h
    exact x_zreturn (pc := 6) hC hE dX13_isDeck_6 (nf_B g5).1 (so h) (Nat.le_of_ble_eq_true rfl) (Nat.le_of_ble_eq_true rfl)
  · exact xk_r (xt_out hC hE (bk_r h) (Nat.le_of_ble_eq_true rfl) (Nat.le_of_ble_eq_true rfl))
theorem c_X13_isDeck (l : Launch) (hls : l.stackTraces = false) {S : mS} {a0 : Int32} {o : Rs Int32} (h : f_X13_isDeck S a0 = some o) : CT (fun r : Int32 => some (.int r)) l yX13_isDeck (.code yX13_isDeck cX13_isDeck 1 (Option.some Jvm.ClassFile.FieldType.boolean)) rm_X13_isDeck S [.int a0] o := ct_of (by decide +kernel) hls (Nat.le_of_ble_eq_true rfl) (fun C hl hC hE => t_X13_isDeck hls hC hl hE h)
abbrev rm_X13_isDisc : Room := { frames := 9, cells := 0, slots := 0, locals := 172 }
def f_X13_isDisc (S : mS) (a0 : Nat) (a1 : Int32) : Option (Rs Int32) :=
  gd (gK S a0 = 19) (lt9 (gR S a0 1) fun r2 => gd (gK S r2 = 5) (bd (f_Jx4a65c_size_8abf5 S r2) fun x4 S5 => lt9 (x4 - (1 : Int32)) fun x8 => bd (f_X13_isBetween S5 a1 (0 : Int32) x8) fun x9 S10 => gd (x9 = 0 ∨ x9 = 1) (some (.inl x9, S10))))
set_option maxHeartbeats 2000000 in
set_option maxRecDepth 100000 in
theorem t_X13_isDisc {l : Launch} (hls : l.stackTraces = false) {C : cT} (hC : CX C cX13_isDisc 2 yX13_isDisc rm_X13_isDisc) (hl : C.2.1 = l) {S0 : mS} (hE : CE C S0 (Option.some Jvm.ClassFile.FieldType.boolean) []) {o : Rs Int32} {S : mS} {a0 : Nat} {a1 : Int32} (h : f_X13_isDisc S a0 a1 = some o) : XX C 2 (QQ C (fun r : Int32 => some (.int r)) S0 o) 0 0 S 0 [(0, .ref a0), (1, .int a1)] [] := by
  unfold f_X13_isDisc at h
  refine x_iload_n (pc := 0) hC 1 dX13_isDisc_0 rfl rfl ?_
  refine x_iconst (pc := 1) (v := (0 : Int32)) hC dX13_isDisc_1 (by decide) ?_
  refine x_aload_n (pc := 2) hC 0 dX13_isDisc_2 rfl rfl ?_
  obtain ⟨g1, h⟩ := gd_some h
  refine x_getRv (pc := 3) (k := 1) hC fc_19 fl_RX13_10 dX13_isDisc_3 rfl g1 (fun r2 hr2 => ?_)
  replace h := lt_x hr2 h
  obtain ⟨g3, h⟩ := gd_some h
  obtain ⟨o6, ho6, h⟩ := bd_some h
  refine x_callF (pc := 6) (As := []) (rest := [.int (0 : Int32), .int a1]) hC hl (c_Jx4a65c_size_8abf5 l hls ho6) lk_RX13_54 fc_5 g3 dX13_isDisc_6 rfl rfl (Nat.le_of_ble_eq_true rfl) ⟨Nat.le_of_ble_eq_true rfl, Nat.le_of_ble_eq_true rfl⟩ ⟨(Nat.le_of_ble_eq_true rfl), (Nat.le_of_ble_eq_true rfl)⟩ ?_
  rcases o6 with ⟨x4 | E7, S5⟩
  · refine xk_i ?_
    replace h := bk_l h
    refine x_iconst (pc := 11) (v := (1 : Int32)) hC dX13_isDisc_11 (by decide) ?_
    refine x_isubv (pc := 12) hC dX13_isDisc_12 (fun x8 hx8 => ?_)
    replace h := lt_x hx8 h
    obtain ⟨o11, ho11, h⟩ := bd_some h
    refine x_callS (pc := 13) (As := [.int a1, .int (0 : Int32), .int x8]) (rest := []) hC hl (c_X13_isBetween l hls ho11) lk_RX13_50 dX13_isDisc_13 rfl rfl (Nat.le_of_ble_eq_true rfl) ⟨Nat.le_of_ble_eq_true rfl, Nat.le_of_ble_eq_true rfl⟩ ⟨(Nat.le_of_ble_eq_true rfl), (Nat.le_of_ble_eq_true rfl)⟩ ?_
    rcases o11 with ⟨x9 | E12, S10⟩
    · refine xk_i ?_
      replace h := bk_l h
      obtain ⟨g13, h⟩ := gd_some h
      exact x_zreturn (pc := 16) hC hE dX13_isDisc_16 (nf_B g13).1 (so h) (Nat.le_of_ble_eq_true rfl) (Nat.le_of_ble_eq_true rfl)
    · exact xk_r (xt_out hC hE (bk_r h) (Nat.le_of_ble_eq_true rfl) (Nat.le_of_ble_eq_true rfl))
  · exact xk_r (xt_out hC hE (bk_r h) (Nat.le_of_ble_eq_true rfl) (Nat.le_of_ble_eq_true rfl))
theorem c_X13_isDisc (l : Launch) (hls : l.stackTraces = false) {S : mS} {a0 : Nat} {a1 : Int32} {o : Rs Int32} (h : f_X13_isDisc S a0 a1 = some o) : CT (fun r : Int32 => some (.int r)) l yX13_isDisc (.code yX13_isDisc cX13_isDisc 2 (Option.some Jvm.ClassFile.FieldType.boolean)) rm_X13_isDisc S [.ref a0, .int a1] o := ct_of (by decide +kernel) hls (Nat.le_of_ble_eq_true rfl) (fun C hl hC hE => t_X13_isDisc hls hC hl hE h)
abbrev rm_X13_isEmpty : Room := { frames := 8, cells := 0, slots := 0, locals := 150 }
def f_X13_isEmpty_17  (S : mS) (s0 : Int32) : Option (Rs Int32) :=
  gd (s0 = 0 ∨ s0 = 1) (some (.inl s0, S))
set_option maxHeartbeats 2000000 in
set_option maxRecDepth 100000 in
theorem t_X13_isEmpty_17 {l : Launch} (hls : l.stackTraces = false) {C : cT} (hC : CX C cX13_isEmpty 2 yX13_isEmpty rm_X13_isEmpty) (hl : C.2.1 = l) {S0 : mS} (hE : CE C S0 (Option.some Jvm.ClassFile.FieldType.boolean) []) {o : Rs Int32} {S : mS} {s0 : Int32} (h : f_X13_isEmpty_17  S s0 = some o) : XX C 2 (QQ C (fun r : Int32 => some (.int r)) S0 o) (0) (0) S 17 [] [.int s0] := by
  unfold f_X13_isEmpty_17 at h
  obtain ⟨g1, h⟩ := gd_some h
  exact x_zreturn (pc := 17) hC hE dX13_isEmpty_17 (nf_B g1).1 (so h) (Nat.le_of_ble_eq_true rfl) (Nat.le_of_ble_eq_true rfl)
def f_X13_isEmpty (S : mS) (a0 : Nat) (a1 : Int32) : Option (Rs Int32) :=
  gd (gK S a0 = 19) (lt9 (gR S a0 2) fun r2 => gd (gK S r2 = 37) (gd (¬ (a1 < 0 ∨ gZ S r2 ≤ (a1).toNatClampNeg)) (lt9 (gR S r2 (a1).toNatClampNeg) fun r6 => gd (gK S r6 = 17) (lt9 (gR S r6 0) fun r8 => if r8 = 0 then (f_X13_isEmpty_17  S (1 : Int32)) else (f_X13_isEmpty_17  S (0 : Int32))))))
set_option maxHeartbeats 2000000 in
set_option maxRecDepth 100000 in
theorem t_X13_isEmpty {l : Launch} (hls : l.stackTraces = false) {C : cT} (hC : CX C cX13_isEmpty 2 yX13_isEmpty rm_X13_isEmpty) (hl : C.2.1 = l) {S0 : mS} (hE : CE C S0 (Option.some Jvm.ClassFile.FieldType.boolean) []) {o : Rs Int32} {S : mS} {a0 : Nat} {a1 : Int32} (h : f_X13_isEmpty S a0 a1 = some o) : XX C 2 (QQ C (fun r : Int32 => some (.int r)) S0 o) 0 0 S 0 [(0, .ref a0), (1, .int a1)] [] := by
  unfold f_X13_isEmpty at h
  refine x_aload_n (pc := 0) hC 0 dX13_isEmpty_0 rfl rfl ?_
  obtain ⟨g1, h⟩ := gd_some h
  refine x_getRv (pc := 1) (k := 2) hC fc_19 fl_RX13_19 dX13_isEmpty_1 rfl g1 (fun r2 hr2 => ?_)
  replace h := lt_x hr2 h
  refine x_iload_n (pc := 4) hC 1 dX13_isEmpty_4 rfl rfl ?_
  obtain ⟨g5, h⟩ := gd_some h
  obtain ⟨g4, h⟩ := gd_some h
  refine x_raldv (pc := 5) (t0 := 7) hC dX13_isEmpty_5 g5 (by decide) (fun _ => rfl) g4 (fun r6 hr6 => ?_)
  replace h := lt_x hr6 h
  obtain ⟨g7, h⟩ := gd_some h
  refine x_getRv (pc := 6) (k := 0) hC fc_17 fl_RX13_60 dX13_isEmpty_6 rfl g7 (fun r8 hr8 => ?_)
  replace h := lt_x hr8 h
  refine x_ifnonnull (pc := 9) hC 16 dX13_isEmpty_9 (by decide) (fun c9 => ?_) (fun c9 => ?_)
  · rw [if_neg c9] at h
    refine x_iconst (pc := 16) (v := (0 : Int32)) hC dX13_isEmpty_16 (by decide) ?_
    refine x_pick [] rfl ?_
    exact t_X13_isEmpty_17 hls hC hl hE h
  · rw [if_pos c9] at h
    refine x_iconst (pc := 12) (v := (1 : Int32)) hC dX13_isEmpty_12 (by decide) ?_
    refine x_goto (pc := 13) hC 17 dX13_isEmpty_13 (by decide) ?_
    refine x_pick [] rfl ?_
    exact t_X13_isEmpty_17 hls hC hl hE h
theorem c_X13_isEmpty (l : Launch) (hls : l.stackTraces = false) {S : mS} {a0 : Nat} {a1 : Int32} {o : Rs Int32} (h : f_X13_isEmpty S a0 a1 = some o) : CT (fun r : Int32 => some (.int r)) l yX13_isEmpty (.code yX13_isEmpty cX13_isEmpty 2 (Option.some Jvm.ClassFile.FieldType.boolean)) rm_X13_isEmpty S [.ref a0, .int a1] o := ct_of (by decide +kernel) hls (Nat.le_of_ble_eq_true rfl) (fun C hl hC hE => t_X13_isEmpty hls hC hl hE h)
abbrev rm_X13_logs : Room := { frames := 8, cells := 0, slots := 0, locals := 150 }
def f_X13_logs (S : mS) (a0 : Nat) : Option (Rs Unit) :=
  gd (gK S a0 = 19) (lt9 (gI S a0 16) fun x2 => lt9 (x2 + (1 : Int32)) fun x3 => zI (sI S a0 16 x3) fun S4 => some (.inl (), S4))
set_option maxHeartbeats 2000000 in
set_option maxRecDepth 100000 in
theorem t_X13_logs {l : Launch} (hls : l.stackTraces = false) {C : cT} (hC : CX C cX13_logs 1 yX13_logs rm_X13_logs) (hl : C.2.1 = l) {S0 : mS} (hE : CE C S0 (Option.none : Option Jvm.ClassFile.FieldType) []) {o : Rs Unit} {S : mS} {a0 : Nat} (h : f_X13_logs S a0 = some o) : XX C 1 (QQ C (fun _ : Unit => none) S0 o) 0 0 S 0 [(0, .ref a0)] [] := by
  unfold f_X13_logs at h
  refine x_aload_n (pc := 0) hC 0 dX13_logs_0 rfl rfl ?_
  refine x_dup (pc := 1) hC dX13_logs_1 rfl ?_
  obtain ⟨g1, h⟩ := gd_some h
  refine x_getIv (pc := 2) (k := 16) hC fc_19 fl_RX13_64 dX13_logs_2 rfl g1 (fun x2 hx2 => ?_)
  replace h := lt_x hx2 h
  refine x_iconst (pc := 5) (v := (1 : Int32)) hC dX13_logs_5 (by decide) ?_
  refine x_iaddv (pc := 6) hC dX13_logs_6 (fun x3 hx3 => ?_)
  replace h := lt_x hx3 h
  refine x_putIv (pc := 7) (k := 16) hC fc_19 fl_RX13_64 dX13_logs_7 rfl rfl (nf_int _) g1 (fun S4 hS4 => ?_)
  replace h := zI_x hS4 h
  have g5 : gK S4 a0 = 19 := by rw [hS4]; exact g1
  exact x_vreturn (pc := 10) hC hE dX13_logs_10 (so h) (Nat.le_of_ble_eq_true rfl) (Nat.le_of_ble_eq_true rfl)
theorem c_X13_logs (l : Launch) (hls : l.stackTraces = false) {S : mS} {a0 : Nat} {o : Rs Unit} (h : f_X13_logs S a0 = some o) : CT (fun _ : Unit => none) l yX13_logs (.code yX13_logs cX13_logs 1 (Option.none : Option Jvm.ClassFile.FieldType)) rm_X13_logs S [.ref a0] o := ct_of (by decide +kernel) hls (Nat.le_of_ble_eq_true rfl) (fun C hl hC hE => t_X13_logs hls hC hl hE h)
abbrev rm_X13_addRecord : Room := { frames := 14, cells := 1, slots := 10, locals := 282 }
def f_X13_addRecord_125  (S : mS) (a0 : Nat) (a1 : Int32) (a2 : Int32) (a3 : Int32) (a4 : Int32) (a5 : Int32) (a6 : Int32) (a7 : Int32) (s0 : Nat) (s1 : Int32) : Option (Rs Int32) :=
  gd (gK S s0 = 19) (bd (f_X13_isWrong S s0 s1) fun x2 S3 => if x2 = 0 then (gd (gK S3 a0 = 19) (lt9 (gR S3 a0 1) fun r7 => gd (gN S3 + 1 < KB) (zW (sW S3 18 0) fun S9 => lt9 (gN S3 + 1) fun r10 => bd (f_X12_init S9 r10 a1 a2 a3 a4 a5 a6 a7) fun _ S13 => gd (gK S13 r7 = 5) (bd (f_Jx4a65c_add_9ea2d S13 r7 r10) fun x17 S18 => gd (gK S18 a0 = 19) (bd (f_X13_logs S18 a0) fun _ S23 => gd (gK S23 a0 = 19) (lt9 (gR S23 a0 1) fun r27 => gd (gK S23 r27 = 5) (bd (f_Jx4a65c_size_8abf5 S23 r27) fun x29 S30 => lt9 (x29 - (1 : Int32)) fun x33 => some (.inl x33, S30)))))))) else (some (.inl (0 : Int32), S3)))
set_option maxHeartbeats 2000000 in
set_option maxRecDepth 100000 in
theorem t_X13_addRecord_125 {l : Launch} (hls : l.stackTraces = false) {C : cT} (hC : CX C cX13_addRecord 9 yX13_addRecord rm_X13_addRecord) (hl : C.2.1 = l) {S0 : mS} (hE : CE C S0 (Option.some Jvm.ClassFile.FieldType.int) []) {o : Rs Int32} {S : mS} {a0 : Nat} {a1 : Int32} {a2 : Int32} {a3 : Int32} {a4 : Int32} {a5 : Int32} {a6 : Int32} {a7 : Int32} {s0 : Nat} {s1 : Int32} (h : f_X13_addRecord_125  S a0 a1 a2 a3 a4 a5 a6 a7 s0 s1 = some o) : XX C 9 (QQ C (fun r : Int32 => some (.int r)) S0 o) (0) (0) S 125 [(0, .ref a0), (1, .int a1), (2, .int a2), (3, .int a3), (4, .int a4), (5, .int a5), (6, .int a6), (7, .int a7)] [.int s1, .ref s0] := by
  unfold f_X13_addRecord_125 at h
  obtain ⟨g1, h⟩ := gd_some h
  obtain ⟨o4, ho4, h⟩ := bd_some h
  refine x_callV (pc := 125) (As := [.int s1]) (rest := []) hC hl (c_X13_isWrong l hls ho4) lk_RX13_68 fc_19 g1 dX13_addRecord_125 rfl rfl (Nat.le_of_ble_eq_true rfl) ⟨Nat.le_of_ble_eq_true rfl, Nat.le_of_ble_eq_true rfl⟩ ⟨(Nat.le_of_ble_eq_true rfl), (Nat.le_of_ble_eq_true rfl)⟩ ?_
  rcases o4 with ⟨x2 | E5, S3⟩
  · refine xk_i ?_
    replace h := bk_l h
    refine x_if_eq (pc := 128) hC 133 dX13_addRecord_128 (by decide) (fun c34 => ?_) (fun c34 => ?_)
    · rw [if_pos c34] at h
      refine x_aload_n (pc := 133) hC 0 dX13_addRecord_133 rfl rfl ?_
      obtain ⟨g6, h⟩ := gd_some h
      refine x_getRv (pc := 134) (k := 1) hC fc_19 fl_RX13_10 dX13_addRecord_134 rfl g6 (fun r7 hr7 => ?_)
      replace h := lt_x hr7 h
      obtain ⟨g8, h⟩ := gd_some h
      refine x_newv (pc := 137) hC fc_18 fn_18 wm_1737 wm_1738 wm_67 dX13_addRecord_137 g8 (Nat.le_of_ble_eq_true rfl) (Nat.le_of_ble_eq_true rfl) (fun S9 r10 hS9 hr10 => ?_)
      replace h := zW_x hS9 h
      replace h := lt_x hr10 h
      have g11 : gK S9 r10 = 18 := by rw [hr10, hS9]; exact sW_K
      refine x_dup (pc := 140) hC dX13_addRecord_140 rfl ?_
      refine x_iload_n (pc := 141) hC 1 dX13_addRecord_141 rfl rfl ?_
      refine x_iload_n (pc := 142) hC 2 dX13_addRecord_142 rfl rfl ?_
      refine x_iload_n (pc := 143) hC 3 dX13_addRecord_143 rfl rfl ?_
      refine x_iload (pc := 144) hC 4 dX13_addRecord_144 rfl ?_
      refine x_iload (pc := 146) hC 5 dX13_addRecord_146 rfl ?_
      refine x_iload (pc := 148) hC 6 dX13_addRecord_148 rfl ?_
      refine x_iload (pc := 150) hC 7 dX13_addRecord_150 rfl ?_
      obtain ⟨o14, ho14, h⟩ := bd_some h
      refine x_callI (pc := 152) (As := [.int a1, .int a2, .int a3, .int a4, .int a5, .int a6, .int a7]) (rest := [.ref r10, .ref r7]) hC hl (c_X12_init l hls ho14) lk_RX13_74 (by rw [g11]; decide) dX13_addRecord_152 rfl rfl (Nat.le_of_ble_eq_true rfl) ⟨Nat.le_of_ble_eq_true rfl, Nat.le_of_ble_eq_true rfl⟩ ⟨(Nat.le_of_ble_eq_true rfl), (Nat.le_of_ble_eq_true rfl)⟩ ?_
      rcases o14 with ⟨_ | E15, S13⟩
      · refine xk_v ?_
        replace h := bk_l h
        obtain ⟨g16, h⟩ := gd_some h
        obtain ⟨o19, ho19, h⟩ := bd_some h
        refine x_callF (pc := 155) (As := [.ref r10]) (rest := []) hC hl (c_Jx4a65c_add_9ea2d l hls ho19) lk_RX13_77 fc_5 g16 dX13_addRecord_155 rfl rfl (Nat.le_of_ble_eq_true rfl) ⟨Nat.le_of_ble_eq_true rfl, Nat.le_of_ble_eq_true rfl⟩ ⟨(Nat.le_of_ble_eq_true rfl), (Nat.le_of_ble_eq_true rfl)⟩ ?_
        rcases o19 with ⟨x17 | E20, S18⟩
        · refine xk_i ?_
          replace h := bk_l h
          refine x_pop (pc := 160) hC dX13_addRecord_160 rfl ?_
          refine x_aload_n (pc := 161) hC 0 dX13_addRecord_161 rfl rfl ?_
          obtain ⟨g21, h⟩ := gd_some h
          obtain ⟨o24, ho24, h⟩ := bd_some h
          refine x_callV (pc := 162) (As := []) (rest := []) hC hl (c_X13_logs l hls ho24) lk_RX13_81 fc_19 g21 dX13_addRecord_162 rfl rfl (Nat.le_of_ble_eq_true rfl) ⟨Nat.le_of_ble_eq_true rfl, Nat.le_of_ble_eq_true rfl⟩ ⟨(Nat.le_of_ble_eq_true rfl), (Nat.le_of_ble_eq_true rfl)⟩ ?_
          rcases o24 with ⟨_ | E25, S23⟩
          · refine xk_v ?_
            replace h := bk_l h
            refine x_aload_n (pc := 165) hC 0 dX13_addRecord_165 rfl rfl ?_
            obtain ⟨g26, h⟩ := gd_some h
            refine x_getRv (pc := 166) (k := 1) hC fc_19 fl_RX13_10 dX13_addRecord_166 rfl g26 (fun r27 hr27 => ?_)
            replace h := lt_x hr27 h
            obtain ⟨g28, h⟩ := gd_some h
            obtain ⟨o31, ho31, h⟩ := bd_some h
            refine x_callF (pc := 169) (As := []) (rest := []) hC hl (c_Jx4a65c_size_8abf5 l hls ho31) lk_RX13_54 fc_5 g28 dX13_addRecord_169 rfl rfl (Nat.le_of_ble_eq_true rfl) ⟨Nat.le_of_ble_eq_true rfl, Nat.le_of_ble_eq_true rfl⟩ ⟨(Nat.le_of_ble_eq_true rfl), (Nat.le_of_ble_eq_true rfl)⟩ ?_
            rcases o31 with ⟨x29 | E32, S30⟩
            · refine xk_i ?_
              replace h := bk_l h
              refine x_iconst (pc := 174) (v := (1 : Int32)) hC dX13_addRecord_174 (by decide) ?_
              refine x_isubv (pc := 175) hC dX13_addRecord_175 (fun x33 hx33 => ?_)
              replace h := lt_x hx33 h
              exact x_ireturn (pc := 176) hC hE dX13_addRecord_176 (so h) (Nat.le_of_ble_eq_true rfl) (Nat.le_of_ble_eq_true rfl)
            · exact xk_r (xt_out hC hE (bk_r h) (Nat.le_of_ble_eq_true rfl) (Nat.le_of_ble_eq_true rfl))
          · exact xk_r (xt_out hC hE (bk_r h) (Nat.le_of_ble_eq_true rfl) (Nat.le_of_ble_eq_true rfl))
        · exact xk_r (xt_out hC hE (bk_r h) (Nat.le_of_ble_eq_true rfl) (Nat.le_of_ble_eq_true rfl))
      · exact xk_r (xt_out hC hE (bk_r h) (Nat.le_of_ble_eq_true rfl) (Nat.le_of_ble_eq_true rfl))
    · rw [if_neg c34] at h
      refine x_iconst (pc := 131) (v := (0 : Int32)) hC dX13_addRecord_131 (by decide) ?_
      exact x_ireturn (pc := 132) hC hE dX13_addRecord_132 (so h) (Nat.le_of_ble_eq_true rfl) (Nat.le_of_ble_eq_true rfl)
  · exact xk_r (xt_out hC hE (bk_r h) (Nat.le_of_ble_eq_true rfl) (Nat.le_of_ble_eq_true rfl))
def f_X13_addRecord_94  (S : mS) (a0 : Nat) (a1 : Int32) (a2 : Int32) (a3 : Int32) (a4 : Int32) (a5 : Int32) (a6 : Int32) (a7 : Int32) (s0 : Int32) : Option (Rs Int32) :=
  if s0 = 0 then (f_X13_addRecord_125  S a0 a1 a2 a3 a4 a5 a6 a7 a0 (1 : Int32)) else (gd (gK S a0 = 19) (lt9 (gR S a0 1) fun r2 => gd (gK S r2 = 5) (bd (f_Jx4a65c_size_8abf5 S r2) fun x4 S5 => if x4 = (12 : Int32) then (f_X13_addRecord_125  S5 a0 a1 a2 a3 a4 a5 a6 a7 a0 (2 : Int32)) else (f_X13_addRecord_125  S5 a0 a1 a2 a3 a4 a5 a6 a7 a0 (0 : Int32)))))
set_option maxHeartbeats 2000000 in
set_option maxRecDepth 100000 in
theorem t_X13_addRecord_94 {l : Launch} (hls : l.stackTraces = false) {C : cT} (hC : CX C cX13_addRecord 9 yX13_addRecord rm_X13_addRecord) (hl : C.2.1 = l) {S0 : mS} (hE : CE C S0 (Option.some Jvm.ClassFile.FieldType.int) []) {o : Rs Int32} {S : mS} {a0 : Nat} {a1 : Int32} {a2 : Int32} {a3 : Int32} {a4 : Int32} {a5 : Int32} {a6 : Int32} {a7 : Int32} {s0 : Int32} (h : f_X13_addRecord_94  S a0 a1 a2 a3 a4 a5 a6 a7 s0 = some o) : XX C 9 (QQ C (fun r : Int32 => some (.int r)) S0 o) (0) (0) S 94 [(0, .ref a0), (1, .int a1), (2, .int a2), (3, .int a3), (4, .int a4), (5, .int a5), (6, .int a6), (7, .int a7)] [.int s0] := by
  unfold f_X13_addRecord_94 at h
  refine x_istore (pc := 94) hC dX13_addRecord_94 (by decide) (by decide) rfl ?_
  refine x_aload_n (pc := 96) hC 1 dX13_addRecord_96 rfl rfl ?_
  refine x_iload (pc := 97) hC 0 dX13_addRecord_97 rfl ?_
  refine x_if_ne (pc := 99) hC 106 dX13_addRecord_99 (by decide) (fun c9 => ?_) (fun c9 => ?_)
  · rw [if_neg c9] at h
    refine x_aload_n (pc := 106) hC 1 dX13_addRecord_106 rfl rfl ?_
    obtain ⟨g1, h⟩ := gd_some h
    refine x_getRv (pc := 107) (k := 1) hC fc_19 fl_RX13_10 dX13_addRecord_107 rfl g1 (fun r2 hr2 => ?_)
    replace h := lt_x hr2 h
    obtain ⟨g3, h⟩ := gd_some h
    obtain ⟨o6, ho6, h⟩ := bd_some h
    refine x_callF (pc := 110) (As := []) (rest := [.ref a0]) hC hl (c_Jx4a65c_size_8abf5 l hls ho6) lk_RX13_54 fc_5 g3 dX13_addRecord_110 rfl rfl (Nat.le_of_ble_eq_true rfl) ⟨Nat.le_of_ble_eq_true rfl, Nat.le_of_ble_eq_true rfl⟩ ⟨(Nat.le_of_ble_eq_true rfl), (Nat.le_of_ble_eq_true rfl)⟩ ?_
    rcases o6 with ⟨x4 | E7, S5⟩
    · refine xk_i ?_
      replace h := bk_l h
      refine x_bipush (pc := 115) (v := (12 : Int32)) hC dX13_addRecord_115 (by decide) ?_
      refine x_icmp_ne (pc := 117) hC 124 dX13_addRecord_117 (by decide) (fun c8 => ?_) (fun c8 => ?_)
      · rw [if_neg c8] at h
        refine x_iconst (pc := 124) (v := (0 : Int32)) hC dX13_addRecord_124 (by decide) ?_
        refine x_pick [1, 2, 3, 4, 5, 6, 7, 8] rfl ?_
        exact t_X13_addRecord_125 hls hC hl hE h
      · rw [if_pos c8] at h
        refine x_iconst (pc := 120) (v := (2 : Int32)) hC dX13_addRecord_120 (by decide) ?_
        refine x_goto (pc := 121) hC 125 dX13_addRecord_121 (by decide) ?_
        refine x_pick [1, 2, 3, 4, 5, 6, 7, 8] rfl ?_
        exact t_X13_addRecord_125 hls hC hl hE h
    · exact xk_r (xt_out hC hE (bk_r h) (Nat.le_of_ble_eq_true rfl) (Nat.le_of_ble_eq_true rfl))
  · rw [if_pos c9] at h
    refine x_iconst (pc := 102) (v := (1 : Int32)) hC dX13_addRecord_102 (by decide) ?_
    refine x_goto (pc := 103) hC 125 dX13_addRecord_103 (by decide) ?_
    refine x_pick [1, 2, 3, 4, 5, 6, 7, 8] rfl ?_
    exact t_X13_addRecord_125 hls hC hl hE h
def f_X13_addRecord_93  (S : mS) (a0 : Nat) (a1 : Int32) (a2 : Int32) (a3 : Int32) (a4 : Int32) (a5 : Int32) (a6 : Int32) (a7 : Int32) : Option (Rs Int32) :=
  f_X13_addRecord_94  S a0 a1 a2 a3 a4 a5 a6 a7 (0 : Int32)
set_option maxHeartbeats 2000000 in
set_option maxRecDepth 100000 in
theorem t_X13_addRecord_93 {l : Launch} (hls : l.stackTraces = false) {C : cT} (hC : CX C cX13_addRecord 9 yX13_addRecord rm_X13_addRecord) (hl : C.2.1 = l) {S0 : mS} (hE : CE C S0 (Option.some Jvm.ClassFile.FieldType.int) []) {o : Rs Int32} {S : mS} {a0 : Nat} {a1 : Int32} {a2 : Int32} {a3 : Int32} {a4 : Int32} {a5 : Int32} {a6 : Int32} {a7 : Int32} (h : f_X13_addRecord_93  S a0 a1 a2 a3 a4 a5 a6 a7 = some o) : XX C 9 (QQ C (fun r : Int32 => some (.int r)) S0 o) (0) (0) S 93 [(0, .ref a0), (1, .int a1), (2, .int a2), (3, .int a3), (4, .int a4), (5, .int a5), (6, .int a6), (7, .int a7)] [] := by
  unfold f_X13_addRecord_93 at h
  refine x_iconst (pc := 93) (v := (0 : Int32)) hC dX13_addRecord_93 (by decide) ?_
  refine x_pick [0, 1, 2, 3, 4, 5, 6, 7] rfl ?_
  exact t_X13_addRecord_94 hls hC hl hE h
def f_X13_addRecord_67  (S : mS) (a0 : Nat) (a1 : Int32) (a2 : Int32) (a3 : Int32) (a4 : Int32) (a5 : Int32) (a6 : Int32) (a7 : Int32) : Option (Rs Int32) :=
  bd (f_X13_isBetween S a6 (0 : Int32) (65535 : Int32)) fun x1 S2 => if x1 = 0 then (f_X13_addRecord_93  S2 a0 a1 a2 a3 a4 a5 a6 a7) else (bd (f_X13_isBetween S2 a7 (0 : Int32) (65535 : Int32)) fun x5 S6 => if x5 = 0 then (f_X13_addRecord_93  S6 a0 a1 a2 a3 a4 a5 a6 a7) else (f_X13_addRecord_94  S6 a0 a1 a2 a3 a4 a5 a6 a7 (1 : Int32)))
set_option maxHeartbeats 2000000 in
set_option maxRecDepth 100000 in
theorem t_X13_addRecord_67 {l : Launch} (hls : l.stackTraces = false) {C : cT} (hC : CX C cX13_addRecord 9 yX13_addRecord rm_X13_addRecord) (hl : C.2.1 = l) {S0 : mS} (hE : CE C S0 (Option.some Jvm.ClassFile.FieldType.int) []) {o : Rs Int32} {S : mS} {a0 : Nat} {a1 : Int32} {a2 : Int32} {a3 : Int32} {a4 : Int32} {a5 : Int32} {a6 : Int32} {a7 : Int32} (h : f_X13_addRecord_67  S a0 a1 a2 a3 a4 a5 a6 a7 = some o) : XX C 9 (QQ C (fun r : Int32 => some (.int r)) S0 o) (0) (0) S 67 [(0, .ref a0), (1, .int a1), (2, .int a2), (3, .int a3), (4, .int a4), (5, .int a5), (6, .int a6), (7, .int a7)] [] := by
  unfold f_X13_addRecord_67 at h
  refine x_iload (pc := 67) hC 6 dX13_addRecord_67 rfl ?_
  refine x_iconst (pc := 69) (v := (0 : Int32)) hC dX13_addRecord_69 (by decide) ?_
  refine x_ldc (pc := 70) hC wm_1722 dX13_addRecord_70 ?_
  obtain ⟨o3, ho3, h⟩ := bd_some h
  refine x_callS (pc := 72) (As := [.int a6, .int (0 : Int32), .int (65535 : Int32)]) (rest := []) hC hl (c_X13_isBetween l hls ho3) lk_RX13_50 dX13_addRecord_72 rfl rfl (Nat.le_of_ble_eq_true rfl) ⟨Nat.le_of_ble_eq_true rfl, Nat.le_of_ble_eq_true rfl⟩ ⟨(Nat.le_of_ble_eq_true rfl), (Nat.le_of_ble_eq_true rfl)⟩ ?_
  rcases o3 with ⟨x1 | E4, S2⟩
  · refine xk_i ?_
    replace h := bk_l h
    refine x_if_eq (pc := 75) hC 93 dX13_addRecord_75 (by decide) (fun c10 => ?_) (fun c10 => ?_)
    · rw [if_pos c10] at h
      refine x_pick [0, 1, 2, 3, 4, 5, 6, 7] rfl ?_
      exact t_X13_addRecord_93 hls hC hl hE h
    · rw [if_neg c10] at h
      refine x_iload (pc := 78) hC 7 dX13_addRecord_78 rfl ?_
      refine x_iconst (pc := 80) (v := (0 : Int32)) hC dX13_addRecord_80 (by decide) ?_
      refine x_ldc (pc := 81) hC wm_1722 dX13_addRecord_81 ?_
      obtain ⟨o7, ho7, h⟩ := bd_some h
      refine x_callS (pc := 83) (As := [.int a7, .int (0 : Int32), .int (65535 : Int32)]) (rest := []) hC hl (c_X13_isBetween l hls ho7) lk_RX13_50 dX13_addRecord_83 rfl rfl (Nat.le_of_ble_eq_true rfl) ⟨Nat.le_of_ble_eq_true rfl, Nat.le_of_ble_eq_true rfl⟩ ⟨(Nat.le_of_ble_eq_true rfl), (Nat.le_of_ble_eq_true rfl)⟩ ?_
      rcases o7 with ⟨x5 | E8, S6⟩
      · refine xk_i ?_
        replace h := bk_l h
        refine x_if_eq (pc := 86) hC 93 dX13_addRecord_86 (by decide) (fun c9 => ?_) (fun c9 => ?_)
        · rw [if_pos c9] at h
          refine x_pick [0, 1, 2, 3, 4, 5, 6, 7] rfl ?_
          exact t_X13_addRecord_93 hls hC hl hE h
        · rw [if_neg c9] at h
          refine x_iconst (pc := 89) (v := (1 : Int32)) hC dX13_addRecord_89 (by decide) ?_
          refine x_goto (pc := 90) hC 94 dX13_addRecord_90 (by decide) ?_
          refine x_pick [0, 1, 2, 3, 4, 5, 6, 7] rfl ?_
          exact t_X13_addRecord_94 hls hC hl hE h
      · exact xk_r (xt_out hC hE (bk_r h) (Nat.le_of_ble_eq_true rfl) (Nat.le_of_ble_eq_true rfl))
  · exact xk_r (xt_out hC hE (bk_r h) (Nat.le_of_ble_eq_true rfl) (Nat.le_of_ble_eq_true rfl))
def f_X13_addRecord (S : mS) (a0 : Nat) (a1 : Int32) (a2 : Int32) (a3 : Int32) (a4 : Int32) (a5 : Int32) (a6 : Int32) (a7 : Int32) : Option (Rs Int32) :=
  bd (f_X13_isBetween S a1 (600 : Int32) (2000 : Int32)) fun x1 S2 => if x1 = 0 then (f_X13_addRecord_93  S2 a0 a1 a2 a3 a4 a5 a6 a7) else (bd (f_X13_isBetween S2 a2 (16 : Int32) (999 : Int32)) fun x5 S6 => if x5 = 0 then (f_X13_addRecord_93  S6 a0 a1 a2 a3 a4 a5 a6 a7) else (bd (f_X13_isBetween S6 a3 (0 : Int32) (23 : Int32)) fun x9 S10 => if x9 = 0 then (f_X13_addRecord_93  S10 a0 a1 a2 a3 a4 a5 a6 a7) else (bd (f_X13_isBetween S10 a4 (0 : Int32) (9 : Int32)) fun x13 S14 => if x13 = 0 then (f_X13_addRecord_93  S14 a0 a1 a2 a3 a4 a5 a6 a7) else (if a5 = (8 : Int32) then (f_X13_addRecord_67  S14 a0 a1 a2 a3 a4 a5 a6 a7) else (if a5 = (16 : Int32) then (f_X13_addRecord_67  S14 a0 a1 a2 a3 a4 a5 a6 a7) else (if a5 = (32 : Int32) then (f_X13_addRecord_67  S14 a0 a1 a2 a3 a4 a5 a6 a7) else (f_X13_addRecord_93  S14 a0 a1 a2 a3 a4 a5 a6 a7)))))))
set_option maxHeartbeats 2000000 in
set_option maxRecDepth 100000 in
theorem t_X13_addRecord {l : Launch} (hls : l.stackTraces = false) {C : cT} (hC : CX C cX13_addRecord 9 yX13_addRecord rm_X13_addRecord) (hl : C.2.1 = l) {S0 : mS} (hE : CE C S0 (Option.some Jvm.ClassFile.FieldType.int) []) {o : Rs Int32} {S : mS} {a0 : Nat} {a1 : Int32} {a2 : Int32} {a3 : Int32} {a4 : Int32} {a5 : Int32} {a6 : Int32} {a7 : Int32} (h : f_X13_addRecord S a0 a1 a2 a3 a4 a5 a6 a7 = some o) : XX C 9 (QQ C (fun r : Int32 => some (.int r)) S0 o) 0 0 S 0 [(0, .ref a0), (1, .int a1), (2, .int a2), (3, .int a3), (4, .int a4), (5, .int a5), (6, .int a6), (7, .int a7)] [] := by
  unfold f_X13_addRecord at h
  refine x_iload_n (pc := 0) hC 1 dX13_addRecord_0 rfl rfl ?_
  refine x_sipush (pc := 1) (v := (600 : Int32)) hC dX13_addRecord_1 (by decide) ?_
  refine x_sipush (pc := 4) (v := (2000 : Int32)) hC dX13_addRecord_4 (by decide) ?_
  obtain ⟨o3, ho3, h⟩ := bd_some h
  refine x_callS (pc := 7) (As := [.int a1, .int (600 : Int32), .int (2000 : Int32)]) (rest := []) hC hl (c_X13_isBetween l hls ho3) lk_RX13_50 dX13_addRecord_7 rfl rfl (Nat.le_of_ble_eq_true rfl) ⟨Nat.le_of_ble_eq_true rfl, Nat.le_of_ble_eq_true rfl⟩ ⟨(Nat.le_of_ble_eq_true rfl), (Nat.le_of_ble_eq_true rfl)⟩ ?_
  rcases o3 with ⟨x1 | E4, S2⟩
  · refine xk_i ?_
    replace h := bk_l h
    refine x_if_eq (pc := 10) hC 93 dX13_addRecord_10 (by decide) (fun c23 => ?_) (fun c23 => ?_)
    · rw [if_pos c23] at h
      refine x_pick [0, 1, 2, 3, 4, 5, 6, 7] rfl ?_
      exact t_X13_addRecord_93 hls hC hl hE h
    · rw [if_neg c23] at h
      refine x_iload_n (pc := 13) hC 2 dX13_addRecord_13 rfl rfl ?_
      refine x_bipush (pc := 14) (v := (16 : Int32)) hC dX13_addRecord_14 (by decide) ?_
      refine x_sipush (pc := 16) (v := (999 : Int32)) hC dX13_addRecord_16 (by decide) ?_
      obtain ⟨o7, ho7, h⟩ := bd_some h
      refine x_callS (pc := 19) (As := [.int a2, .int (16 : Int32), .int (999 : Int32)]) (rest := []) hC hl (c_X13_isBetween l hls ho7) lk_RX13_50 dX13_addRecord_19 rfl rfl (Nat.le_of_ble_eq_true rfl) ⟨Nat.le_of_ble_eq_true rfl, Nat.le_of_ble_eq_true rfl⟩ ⟨(Nat.le_of_ble_eq_true rfl), (Nat.le_of_ble_eq_true rfl)⟩ ?_
      rcases o7 with ⟨x5 | E8, S6⟩
      · refine xk_i ?_
        replace h := bk_l h
        refine x_if_eq (pc := 22) hC 93 dX13_addRecord_22 (by decide) (fun c22 => ?_) (fun c22 => ?_)
        · rw [if_pos c22] at h
          refine x_pick [0, 1, 2, 3, 4, 5, 6, 7] rfl ?_
          exact t_X13_addRecord_93 hls hC hl hE h
        · rw [if_neg c22] at h
          refine x_iload_n (pc := 25) hC 3 dX13_addRecord_25 rfl rfl ?_
          refine x_iconst (pc := 26) (v := (0 : Int32)) hC dX13_addRecord_26 (by decide) ?_
          refine x_bipush (pc := 27) (v := (23 : Int32)) hC dX13_addRecord_27 (by decide) ?_
          obtain ⟨o11, ho11, h⟩ := bd_some h
          refine x_callS (pc := 29) (As := [.int a3, .int (0 : Int32), .int (23 : Int32)]) (rest := []) hC hl (c_X13_isBetween l hls ho11) lk_RX13_50 dX13_addRecord_29 rfl rfl (Nat.le_of_ble_eq_true rfl) ⟨Nat.le_of_ble_eq_true rfl, Nat.le_of_ble_eq_true rfl⟩ ⟨(Nat.le_of_ble_eq_true rfl), (Nat.le_of_ble_eq_true rfl)⟩ ?_
          rcases o11 with ⟨x9 | E12, S10⟩
          · refine xk_i ?_
            replace h := bk_l h
            refine x_if_eq (pc := 32) hC 93 dX13_addRecord_32 (by decide) (fun c21 => ?_) (fun c21 => ?_)
            · rw [if_pos c21] at h
              refine x_pick [0, 1, 2, 3, 4, 5, 6, 7] rfl ?_
              exact t_X13_addRecord_93 hls hC hl hE h
            · rw [if_neg c21] at h
              refine x_iload (pc := 35) hC 4 dX13_addRecord_35 rfl ?_
              refine x_iconst (pc := 37) (v := (0 : Int32)) hC dX13_addRecord_37 (by decide) ?_
              refine x_bipush (pc := 38) (v := (9 : Int32)) hC dX13_addRecord_38 (by decide) ?_
              obtain ⟨o15, ho15, h⟩ := bd_some h
              refine x_callS (pc := 40) (As := [.int a4, .int (0 : Int32), .int (9 : Int32)]) (rest := []) hC hl (c_X13_isBetween l hls ho15) lk_RX13_50 dX13_addRecord_40 rfl rfl (Nat.le_of_ble_eq_true rfl) ⟨Nat.le_of_ble_eq_true rfl, Nat.le_of_ble_eq_true rfl⟩ ⟨(Nat.le_of_ble_eq_true rfl), (Nat.le_of_ble_eq_true rfl)⟩ ?_
              rcases o15 with ⟨x13 | E16, S14⟩
              · refine xk_i ?_
                replace h := bk_l h
                refine x_if_eq (pc := 43) hC 93 dX13_addRecord_43 (by decide) (fun c20 => ?_) (fun c20 => ?_)
                · rw [if_pos c20] at h
                  refine x_pick [0, 1, 2, 3, 4, 5, 6, 7] rfl ?_
                  exact t_X13_addRecord_93 hls hC hl hE h
                · rw [if_neg c20] at h
                  refine x_iload (pc := 46) hC 5 dX13_addRecord_46 rfl ?_
                  refine x_bipush (pc := 48) (v := (8 : Int32)) hC dX13_addRecord_48 (by decide) ?_
                  refine x_icmp_eq (pc := 50) hC 67 dX13_addRecord_50 (by decide) (fun c19 => ?_) (fun c19 => ?_)
                  · rw [if_pos c19] at h
                    refine x_pick [0, 1, 2, 3, 4, 5, 6, 7] rfl ?_
                    exact t_X13_addRecord_67 hls hC hl hE h
                  · rw [if_neg c19] at h
                    refine x_iload (pc := 53) hC 5 dX13_addRecord_53 rfl ?_
                    refine x_bipush (pc := 55) (v := (16 : Int32)) hC dX13_addRecord_55 (by decide) ?_
                    refine x_icmp_eq (pc := 57) hC 67 dX13_addRecord_57 (by decide) (fun c18 => ?_) (fun c18 => ?_)
                    · rw [if_pos c18] at h
                      refine x_pick [0, 1, 2, 3, 4, 5, 6, 7] rfl ?_
                      exact t_X13_addRecord_67 hls hC hl hE h
                    · rw [if_neg c18] at h
                      refine x_iload (pc := 60) hC 5 dX13_addRecord_60 rfl ?_
                      refine x_bipush (pc := 62) (v := (32 : Int32)) hC dX13_addRecord_62 (by decide) ?_
                      refine x_icmp_ne (pc := 64) hC 93 dX13_addRecord_64 (by decide) (fun c17 => ?_) (fun c17 => ?_)
                      · rw [if_neg c17] at h
                        refine x_pick [0, 1, 2, 3, 4, 5, 6, 7] rfl ?_
                        exact t_X13_addRecord_93 hls hC hl hE h
                      · rw [if_pos c17] at h
                        refine x_pick [0, 1, 2, 3, 4, 5, 6, 7] rfl ?_
                        exact t_X13_addRecord_67 hls hC hl hE h
              · exact xk_r (xt_out hC hE (bk_r h) (Nat.le_of_ble_eq_true rfl) (Nat.le_of_ble_eq_true rfl))
          · exact xk_r (xt_out hC hE (bk_r h) (Nat.le_of_ble_eq_true rfl) (Nat.le_of_ble_eq_true rfl))
      · exact xk_r (xt_out hC hE (bk_r h) (Nat.le_of_ble_eq_true rfl) (Nat.le_of_ble_eq_true rfl))
  · exact xk_r (xt_out hC hE (bk_r h) (Nat.le_of_ble_eq_true rfl) (Nat.le_of_ble_eq_true rfl))
theorem c_X13_addRecord (l : Launch) (hls : l.stackTraces = false) {S : mS} {a0 : Nat} {a1 : Int32} {a2 : Int32} {a3 : Int32} {a4 : Int32} {a5 : Int32} {a6 : Int32} {a7 : Int32} {o : Rs Int32} (h : f_X13_addRecord S a0 a1 a2 a3 a4 a5 a6 a7 = some o) : CT (fun r : Int32 => some (.int r)) l yX13_addRecord (.code yX13_addRecord cX13_addRecord 9 (Option.some Jvm.ClassFile.FieldType.int)) rm_X13_addRecord S [.ref a0, .int a1, .int a2, .int a3, .int a4, .int a5, .int a6, .int a7] o := ct_of (by decide +kernel) hls (Nat.le_of_ble_eq_true rfl) (fun C hl hC hE => t_X13_addRecord hls hC hl hE h)
abbrev rm_X13_isOnDeck : Room := { frames := 8, cells := 0, slots := 0, locals := 150 }
def f_X13_isOnDeck_42 (rc14 : mS → Nat → Int32 → Nat → Int32 → Int32 → Option (Rs Int32)) (S : mS) (a1 : Nat) (a3 : Nat) (a4 : Int32) (a5 : Int32) (s0 : Int32) (s1 : Int32) : Option (Rs Int32) :=
  lt9 (s0 ||| s1) fun x1 => lt9 (a5 + Int32.ofInt (1)) fun x2 => rc14 S a1 x1 a3 a4 x2
set_option maxHeartbeats 2000000 in
set_option maxRecDepth 100000 in
theorem t_X13_isOnDeck_42 {l : Launch} (hls : l.stackTraces = false) {C : cT} (hC : CX C cX13_isOnDeck 7 yX13_isOnDeck rm_X13_isOnDeck) (hl : C.2.1 = l) {S0 : mS} (hE : CE C S0 (Option.some Jvm.ClassFile.FieldType.boolean) []) {o : Rs Int32} {rc14 : mS → Nat → Int32 → Nat → Int32 → Int32 → Option (Rs Int32)} (hrc14 : ∀ (S : mS) (a1 : Nat) (a2 : Int32) (a3 : Nat) (a4 : Int32) (a5 : Int32), rc14 S a1 a2 a3 a4 a5 = some o → XX C 7 (QQ C (fun r : Int32 => some (.int r)) S0 o) (0) (0) S 14 [(1, .ref a1), (2, .int a2), (3, .ref a3), (4, .int a4), (5, .int a5)] []) {S : mS} {a1 : Nat} {a3 : Nat} {a4 : Int32} {a5 : Int32} {s0 : Int32} {s1 : Int32} (h : f_X13_isOnDeck_42 rc14 S a1 a3 a4 a5 s0 s1 = some o) : XX C 7 (QQ C (fun r : Int32 => some (.int r)) S0 o) (0) (0) S 42 [(1, .ref a1), (3, .ref a3), (4, .int a4), (5, .int a5)] [.int s1, .int s0] := by
  unfold f_X13_isOnDeck_42 at h
  refine x_iorv (pc := 42) hC dX13_isOnDeck_42 (fun x1 hx1 => ?_)
  replace h := lt_x hx1 h
  refine x_istore_n (pc := 43) hC dX13_isOnDeck_43 rfl (by decide) (by decide) rfl ?_
  obtain ⟨x2, hx2⟩ : ∃ z, z = (a5 + Int32.ofInt (1)) := ⟨_, rfl⟩
  replace h := lt_x hx2 h
  refine x_iinc (pc := 44) hC 4 dX13_isOnDeck_44 rfl hx2.symm (by decide) (by decide) rfl ?_
  refine x_goto (pc := 47) hC 14 dX13_isOnDeck_47 (by decide) ?_
  refine x_pick [2, 1, 3, 4, 0] rfl ?_
  exact hrc14 _ _ _ _ _ _ h
def f_X13_isOnDeck_14  : Nat → mS → Nat → Int32 → Nat → Int32 → Int32 → Option (Rs Int32)
  | 0, _, _, _, _, _, _ => none
  | k + 1, S, a1, a2, a3, a4, a5 => if a4 ≤ a5 then (gd (a2 = 0 ∨ a2 = 1) (some (.inl a2, S))) else (gd (gK S a3 = 37) (gd (¬ (a5 < 0 ∨ gZ S a3 ≤ (a5).toNatClampNeg)) (lt9 (gR S a3 (a5).toNatClampNeg) fun r5 => gd (gK S r5 = 17) (lt9 (gR S r5 0) fun r7 => gd (r7 < KB ∧ a1 < KB) (if r7 = a1 then (f_X13_isOnDeck_42 (f_X13_isOnDeck_14 k) S a1 a3 a4 a5 a2 (1 : Int32)) else (f_X13_isOnDeck_42 (f_X13_isOnDeck_14 k) S a1 a3 a4 a5 a2 (0 : Int32)))))))
set_option maxHeartbeats 2000000 in
set_option maxRecDepth 100000 in
theorem t_X13_isOnDeck_14 {l : Launch} (hls : l.stackTraces = false) {C : cT} (hC : CX C cX13_isOnDeck 7 yX13_isOnDeck rm_X13_isOnDeck) (hl : C.2.1 = l) {S0 : mS} (hE : CE C S0 (Option.some Jvm.ClassFile.FieldType.boolean) []) {o : Rs Int32} : ∀ (k : Nat) (S : mS) (a1 : Nat) (a2 : Int32) (a3 : Nat) (a4 : Int32) (a5 : Int32), f_X13_isOnDeck_14  k S a1 a2 a3 a4 a5 = some o → XX C 7 (QQ C (fun r : Int32 => some (.int r)) S0 o) (0) (0) S 14 [(1, .ref a1), (2, .int a2), (3, .ref a3), (4, .int a4), (5, .int a5)] [] := by
  intro k
  induction k with
  | zero => intro S a1 a2 a3 a4 a5 h; cases h
  | succ k ih =>
    intro S a1 a2 a3 a4 a5 h
    unfold f_X13_isOnDeck_14 at h
    refine x_iload (pc := 14) hC 4 dX13_isOnDeck_14 rfl ?_
    refine x_iload (pc := 16) hC 3 dX13_isOnDeck_16 rfl ?_
    refine x_icmp_ge (pc := 18) hC 50 dX13_isOnDeck_18 (by decide) (fun c11 => ?_) (fun c11 => ?_)
    · rw [if_pos c11] at h
      refine x_iload_n (pc := 50) hC 1 dX13_isOnDeck_50 rfl rfl ?_
      obtain ⟨g1, h⟩ := gd_some h
      exact x_zreturn (pc := 51) hC hE dX13_isOnDeck_51 (nf_B g1).1 (so h) (Nat.le_of_ble_eq_true rfl) (Nat.le_of_ble_eq_true rfl)
    · rw [if_neg c11] at h
      refine x_aload_n (pc := 21) hC 2 dX13_isOnDeck_21 rfl rfl ?_
      refine x_iload (pc := 22) hC 4 dX13_isOnDeck_22 rfl ?_
      obtain ⟨g4, h⟩ := gd_some h
      obtain ⟨g3, h⟩ := gd_some h
      refine x_raldv (pc := 24) (t0 := 7) hC dX13_isOnDeck_24 g4 (by decide) (fun _ => rfl) g3 (fun r5 hr5 => ?_)
      replace h := lt_x hr5 h
      refine x_astore (pc := 25) hC dX13_isOnDeck_25 (by decide) (by decide) rfl ?_
      refine x_iload_n (pc := 27) hC 2 dX13_isOnDeck_27 rfl rfl ?_
      refine x_aload (pc := 28) hC 0 dX13_isOnDeck_28 rfl ?_
      obtain ⟨g6, h⟩ := gd_some h
      refine x_getRv (pc := 30) (k := 0) hC fc_17 fl_RX13_60 dX13_isOnDeck_30 rfl g6 (fun r7 hr7 => ?_)
      replace h := lt_x hr7 h
      refine x_aload_n (pc := 33) hC 1 dX13_isOnDeck_33 rfl rfl ?_
      obtain ⟨⟨g8, g9⟩, h⟩ := gd_some h
      refine x_acmp_ne (pc := 34) hC g8 g9 41 dX13_isOnDeck_34 (by decide) (fun c10 => ?_) (fun c10 => ?_)
      · rw [if_neg c10] at h
        refine x_iconst (pc := 41) (v := (0 : Int32)) hC dX13_isOnDeck_41 (by decide) ?_
        refine x_pick [1, 3, 4, 5] rfl ?_
        exact t_X13_isOnDeck_42 hls hC hl hE (fun z0 z1 z2 z3 z4 z5 hz => ih z0 z1 z2 z3 z4 z5 hz) h
      · rw [if_pos c10] at h
        refine x_iconst (pc := 37) (v := (1 : Int32)) hC dX13_isOnDeck_37 (by decide) ?_
        refine x_goto (pc := 38) hC 42 dX13_isOnDeck_38 (by decide) ?_
        refine x_pick [1, 3, 4, 5] rfl ?_
        exact t_X13_isOnDeck_42 hls hC hl hE (fun z0 z1 z2 z3 z4 z5 hz => ih z0 z1 z2 z3 z4 z5 hz) h
def f_X13_isOnDeck (S : mS) (a0 : Nat) (a1 : Nat) : Option (Rs Int32) :=
  gd (gK S a0 = 19) (lt9 (gR S a0 2) fun r2 => gd (gK S r2 = 37) (lt9 (Int32.ofNat (gZ S r2)) fun x4 => f_X13_isOnDeck_14  16 S a1 (0 : Int32) r2 x4 (0 : Int32)))
set_option maxHeartbeats 2000000 in
set_option maxRecDepth 100000 in
theorem t_X13_isOnDeck {l : Launch} (hls : l.stackTraces = false) {C : cT} (hC : CX C cX13_isOnDeck 7 yX13_isOnDeck rm_X13_isOnDeck) (hl : C.2.1 = l) {S0 : mS} (hE : CE C S0 (Option.some Jvm.ClassFile.FieldType.boolean) []) {o : Rs Int32} {S : mS} {a0 : Nat} {a1 : Nat} (h : f_X13_isOnDeck S a0 a1 = some o) : XX C 7 (QQ C (fun r : Int32 => some (.int r)) S0 o) 0 0 S 0 [(0, .ref a0), (1, .ref a1)] [] := by
  unfold f_X13_isOnDeck at h
  refine x_iconst (pc := 0) (v := (0 : Int32)) hC dX13_isOnDeck_0 (by decide) ?_
  refine x_istore_n (pc := 1) hC dX13_isOnDeck_1 rfl (by decide) (by decide) rfl ?_
  refine x_aload_n (pc := 2) hC 1 dX13_isOnDeck_2 rfl rfl ?_
  obtain ⟨g1, h⟩ := gd_some h
  refine x_getRv (pc := 3) (k := 2) hC fc_19 fl_RX13_19 dX13_isOnDeck_3 rfl g1 (fun r2 hr2 => ?_)
  replace h := lt_x hr2 h
  refine x_astore_n (pc := 6) hC dX13_isOnDeck_6 rfl (by decide) (by decide) rfl ?_
  refine x_aload_n (pc := 7) hC 0 dX13_isOnDeck_7 rfl rfl ?_
  obtain ⟨g3, h⟩ := gd_some h
  refine x_alenv (pc := 8) (t0 := 7) hC dX13_isOnDeck_8 g3 (by decide) (fun _ => rfl) (fun x4 hx4 => ?_)
  replace h := lt_x hx4 h
  refine x_istore (pc := 9) hC dX13_isOnDeck_9 (by decide) (by decide) rfl ?_
  refine x_iconst (pc := 11) (v := (0 : Int32)) hC dX13_isOnDeck_11 (by decide) ?_
  refine x_istore (pc := 12) hC dX13_isOnDeck_12 (by decide) (by decide) rfl ?_
  refine x_pick [5, 3, 2, 1, 0] rfl ?_
  exact t_X13_isOnDeck_14 hls hC hl hE 16 _ _ _ _ _ _ h
theorem c_X13_isOnDeck (l : Launch) (hls : l.stackTraces = false) {S : mS} {a0 : Nat} {a1 : Nat} {o : Rs Int32} (h : f_X13_isOnDeck S a0 a1 = some o) : CT (fun r : Int32 => some (.int r)) l yX13_isOnDeck (.code yX13_isOnDeck cX13_isOnDeck 7 (Option.some Jvm.ClassFile.FieldType.boolean)) rm_X13_isOnDeck S [.ref a0, .ref a1] o := ct_of (by decide +kernel) hls (Nat.le_of_ble_eq_true rfl) (fun C hl hC hE => t_X13_isOnDeck hls hC hl hE h)
abbrev rm_X13_correct : Room := { frames := 11, cells := 0, slots := 0, locals := 214 }
def f_X13_correct_55  (S : mS) (a0 : Nat) (a1 : Int32) (a2 : Int32) (s0 : Nat) (s1 : Int32) : Option (Rs Int32) :=
  gd (gK S s0 = 19) (bd (f_X13_isWrong S s0 s1) fun x2 S3 => if x2 = 0 then (gd (gK S3 a0 = 19) (lt9 (gR S3 a0 1) fun r7 => gd (gK S3 r7 = 5) (bd (f_Jx4a65c_get_915e3 S3 r7 a1) fun r9 S10 => none))) else (some (.inl (0 : Int32), S3)))
set_option maxHeartbeats 2000000 in
set_option maxRecDepth 100000 in
theorem t_X13_correct_55 {l : Launch} (hls : l.stackTraces = false) {C : cT} (hC : CX C cX13_correct 4 yX13_correct rm_X13_correct) (hl : C.2.1 = l) {S0 : mS} (hE : CE C S0 (Option.some Jvm.ClassFile.FieldType.int) []) {o : Rs Int32} {S : mS} {a0 : Nat} {a1 : Int32} {a2 : Int32} {s0 : Nat} {s1 : Int32} (h : f_X13_correct_55  S a0 a1 a2 s0 s1 = some o) : XX C 4 (QQ C (fun r : Int32 => some (.int r)) S0 o) (0) (0) S 55 [(0, .ref a0), (1, .int a1), (2, .int a2)] [.int s1, .ref s0] := by
  unfold f_X13_correct_55 at h
  obtain ⟨g1, h⟩ := gd_some h
  obtain ⟨o4, ho4, h⟩ := bd_some h
  refine x_callV (pc := 55) (As := [.int s1]) (rest := []) hC hl (c_X13_isWrong l hls ho4) lk_RX13_68 fc_19 g1 dX13_correct_55 rfl rfl (Nat.le_of_ble_eq_true rfl) ⟨Nat.le_of_ble_eq_true rfl, Nat.le_of_ble_eq_true rfl⟩ ⟨(Nat.le_of_ble_eq_true rfl), (Nat.le_of_ble_eq_true rfl)⟩ ?_
  rcases o4 with ⟨x2 | E5, S3⟩
  · refine xk_i ?_
    replace h := bk_l h
    refine x_if_eq (pc := 58) hC 63 dX13_correct_58 (by decide) (fun c13 => ?_) (fun c13 => ?_)
    · rw [if_pos c13] at h
      refine x_aload_n (pc := 63) hC 0 dX13_correct_63 rfl rfl ?_
      obtain ⟨g6, h⟩ := gd_some h
      refine x_getRv (pc := 64) (k := 1) hC fc_19 fl_RX13_10 dX13_correct_64 rfl g6 (fun r7 hr7 => ?_)
      replace h := lt_x hr7 h
      refine x_iload_n (pc := 67) hC 1 dX13_correct_67 rfl rfl ?_
      obtain ⟨g8, h⟩ := gd_some h
      obtain ⟨o11, ho11, h⟩ := bd_some h
      refine x_callF (pc := 68) (As := [.int a1]) (rest := []) hC hl (c_Jx4a65c_get_915e3 l hls ho11) lk_RX13_87 fc_5 g8 dX13_correct_68 rfl rfl (Nat.le_of_ble_eq_true rfl) ⟨Nat.le_of_ble_eq_true rfl, Nat.le_of_ble_eq_true rfl⟩ ⟨(Nat.le_of_ble_eq_true rfl), (Nat.le_of_ble_eq_true rfl)⟩ ?_
      rcases o11 with ⟨r9 | E12, S10⟩
      · refine xk_a ?_
        replace h := bk_l h
        cases h
      · exact xk_r (xt_out hC hE (bk_r h) (Nat.le_of_ble_eq_true rfl) (Nat.le_of_ble_eq_true rfl))
    · rw [if_neg c13] at h
      refine x_iconst (pc := 61) (v := (0 : Int32)) hC dX13_correct_61 (by decide) ?_
      exact x_ireturn (pc := 62) hC hE dX13_correct_62 (so h) (Nat.le_of_ble_eq_true rfl) (Nat.le_of_ble_eq_true rfl)
  · exact xk_r (xt_out hC hE (bk_r h) (Nat.le_of_ble_eq_true rfl) (Nat.le_of_ble_eq_true rfl))
def f_X13_correct (S : mS) (a0 : Nat) (a1 : Int32) (a2 : Int32) : Option (Rs Int32) :=
  gd (gK S a0 = 19) (bd (f_X13_isDisc S a0 a1) fun x2 S3 => if x2 = 0 then (f_X13_correct_55  S3 a0 a1 a2 a0 (1 : Int32)) else (bd (f_X13_isBetween S3 a2 (600 : Int32) (2000 : Int32)) fun x6 S7 => if x6 = 0 then (f_X13_correct_55  S7 a0 a1 a2 a0 (2 : Int32)) else (gd (gK S7 a0 = 19) (lt9 (gR S7 a0 1) fun r11 => gd (gK S7 r11 = 5) (bd (f_Jx4a65c_get_915e3 S7 r11 a1) fun r13 S14 => none)))))
set_option maxHeartbeats 2000000 in
set_option maxRecDepth 100000 in
theorem t_X13_correct {l : Launch} (hls : l.stackTraces = false) {C : cT} (hC : CX C cX13_correct 4 yX13_correct rm_X13_correct) (hl : C.2.1 = l) {S0 : mS} (hE : CE C S0 (Option.some Jvm.ClassFile.FieldType.int) []) {o : Rs Int32} {S : mS} {a0 : Nat} {a1 : Int32} {a2 : Int32} (h : f_X13_correct S a0 a1 a2 = some o) : XX C 4 (QQ C (fun r : Int32 => some (.int r)) S0 o) 0 0 S 0 [(0, .ref a0), (1, .int a1), (2, .int a2)] [] := by
  unfold f_X13_correct at h
  refine x_aload_n (pc := 0) hC 0 dX13_correct_0 rfl rfl ?_
  refine x_aload_n (pc := 1) hC 0 dX13_correct_1 rfl rfl ?_
  refine x_iload_n (pc := 2) hC 1 dX13_correct_2 rfl rfl ?_
  obtain ⟨g1, h⟩ := gd_some h
  obtain ⟨o4, ho4, h⟩ := bd_some h
  refine x_callV (pc := 3) (As := [.int a1]) (rest := [.ref a0]) hC hl (c_X13_isDisc l hls ho4) lk_RX13_84 fc_19 g1 dX13_correct_3 rfl rfl (Nat.le_of_ble_eq_true rfl) ⟨Nat.le_of_ble_eq_true rfl, Nat.le_of_ble_eq_true rfl⟩ ⟨(Nat.le_of_ble_eq_true rfl), (Nat.le_of_ble_eq_true rfl)⟩ ?_
  rcases o4 with ⟨x2 | E5, S3⟩
  · refine xk_i ?_
    replace h := bk_l h
    refine x_if_ne (pc := 6) hC 13 dX13_correct_6 (by decide) (fun c18 => ?_) (fun c18 => ?_)
    · rw [if_neg c18] at h
      refine x_iload_n (pc := 13) hC 2 dX13_correct_13 rfl rfl ?_
      refine x_sipush (pc := 14) (v := (600 : Int32)) hC dX13_correct_14 (by decide) ?_
      refine x_sipush (pc := 17) (v := (2000 : Int32)) hC dX13_correct_17 (by decide) ?_
      obtain ⟨o8, ho8, h⟩ := bd_some h
      refine x_callS (pc := 20) (As := [.int a2, .int (600 : Int32), .int (2000 : Int32)]) (rest := [.ref a0]) hC hl (c_X13_isBetween l hls ho8) lk_RX13_50 dX13_correct_20 rfl rfl (Nat.le_of_ble_eq_true rfl) ⟨Nat.le_of_ble_eq_true rfl, Nat.le_of_ble_eq_true rfl⟩ ⟨(Nat.le_of_ble_eq_true rfl), (Nat.le_of_ble_eq_true rfl)⟩ ?_
      rcases o8 with ⟨x6 | E9, S7⟩
      · refine xk_i ?_
        replace h := bk_l h
        refine x_if_ne (pc := 23) hC 30 dX13_correct_23 (by decide) (fun c17 => ?_) (fun c17 => ?_)
        · rw [if_neg c17] at h
          refine x_aload_n (pc := 30) hC 0 dX13_correct_30 rfl rfl ?_
          refine x_aload_n (pc := 31) hC 0 dX13_correct_31 rfl rfl ?_
          obtain ⟨g10, h⟩ := gd_some h
          refine x_getRv (pc := 32) (k := 1) hC fc_19 fl_RX13_10 dX13_correct_32 rfl g10 (fun r11 hr11 => ?_)
          replace h := lt_x hr11 h
          refine x_iload_n (pc := 35) hC 1 dX13_correct_35 rfl rfl ?_
          obtain ⟨g12, h⟩ := gd_some h
          obtain ⟨o15, ho15, h⟩ := bd_some h
          refine x_callF (pc := 36) (As := [.int a1]) (rest := [.ref a0, .ref a0]) hC hl (c_Jx4a65c_get_915e3 l hls ho15) lk_RX13_87 fc_5 g12 dX13_correct_36 rfl rfl (Nat.le_of_ble_eq_true rfl) ⟨Nat.le_of_ble_eq_true rfl, Nat.le_of_ble_eq_true rfl⟩ ⟨(Nat.le_of_ble_eq_true rfl), (Nat.le_of_ble_eq_true rfl)⟩ ?_
          rcases o15 with ⟨r13 | E16, S14⟩
          · refine xk_a ?_
            replace h := bk_l h
            cases h
          · exact xk_r (xt_out hC hE (bk_r h) (Nat.le_of_ble_eq_true rfl) (Nat.le_of_ble_eq_true rfl))
        · rw [if_pos c17] at h
          refine x_iconst (pc := 26) (v := (2 : Int32)) hC dX13_correct_26 (by decide) ?_
          refine x_goto (pc := 27) hC 55 dX13_correct_27 (by decide) ?_
          refine x_pick [0, 1, 2] rfl ?_
          exact t_X13_correct_55 hls hC hl hE h
      · exact xk_r (xt_out hC hE (bk_r h) (Nat.le_of_ble_eq_true rfl) (Nat.le_of_ble_eq_true rfl))
    · rw [if_pos c18] at h
      refine x_iconst (pc := 9) (v := (1 : Int32)) hC dX13_correct_9 (by decide) ?_
      refine x_goto (pc := 10) hC 55 dX13_correct_10 (by decide) ?_
      refine x_pick [0, 1, 2] rfl ?_
      exact t_X13_correct_55 hls hC hl hE h
  · exact xk_r (xt_out hC hE (bk_r h) (Nat.le_of_ble_eq_true rfl) (Nat.le_of_ble_eq_true rfl))
theorem c_X13_correct (l : Launch) (hls : l.stackTraces = false) {S : mS} {a0 : Nat} {a1 : Int32} {a2 : Int32} {o : Rs Int32} (h : f_X13_correct S a0 a1 a2 = some o) : CT (fun r : Int32 => some (.int r)) l yX13_correct (.code yX13_correct cX13_correct 4 (Option.some Jvm.ClassFile.FieldType.int)) rm_X13_correct S [.ref a0, .int a1, .int a2] o := ct_of (by decide +kernel) hls (Nat.le_of_ble_eq_true rfl) (fun C hl hC hE => t_X13_correct hls hC hl hE h)
abbrev rm_X13_apartKeys : Room := { frames := 9, cells := 0, slots := 0, locals := 171 }
def f_X13_apartKeys_37  (S : mS) (s0 : Int32) (s1 : Int32) : Option (Rs Int32) :=
  lt9 (s0 + s1) fun x1 => some (.inl x1, S)
set_option maxHeartbeats 2000000 in
set_option maxRecDepth 100000 in
theorem t_X13_apartKeys_37 {l : Launch} (hls : l.stackTraces = false) {C : cT} (hC : CX C cX13_apartKeys 3 yX13_apartKeys rm_X13_apartKeys) (hl : C.2.1 = l) {S0 : mS} (hE : CE C S0 (Option.some Jvm.ClassFile.FieldType.int) []) {o : Rs Int32} {S : mS} {s0 : Int32} {s1 : Int32} (h : f_X13_apartKeys_37  S s0 s1 = some o) : XX C 3 (QQ C (fun r : Int32 => some (.int r)) S0 o) (0) (0) S 37 [] [.int s1, .int s0] := by
  unfold f_X13_apartKeys_37 at h
  refine x_iaddv (pc := 37) hC dX13_apartKeys_37 (fun x1 hx1 => ?_)
  replace h := lt_x hx1 h
  exact x_ireturn (pc := 38) hC hE dX13_apartKeys_38 (so h) (Nat.le_of_ble_eq_true rfl) (Nat.le_of_ble_eq_true rfl)
def f_X13_apartKeys (S : mS) (a0 : Int32) (a1 : Int32) : Option (Rs Int32) :=
  gd (¬ (12 : Int32) = 0) (lt9 (a0 - a0 / (12 : Int32) * (12 : Int32)) fun x1 => gd (¬ (12 : Int32) = 0) (lt9 (a1 - a1 / (12 : Int32) * (12 : Int32)) fun x3 => lt9 (x1 - x3) fun x5 => lt9 (if 0 ≤ x5 then x5 else 0 - x5) fun x6 => lt9 ((12 : Int32) - x6) fun x7 => lt9 (if x7 < x6 then x7 else x6) fun x8 => gd (¬ (12 : Int32) = 0) (lt9 (a0 / (12 : Int32)) fun x9 => gd (¬ (12 : Int32) = 0) (lt9 (a1 / (12 : Int32)) fun x11 => if x9 = x11 then (f_X13_apartKeys_37  S x8 (0 : Int32)) else (f_X13_apartKeys_37  S x8 (1 : Int32))))))
set_option maxHeartbeats 2000000 in
set_option maxRecDepth 100000 in
theorem t_X13_apartKeys {l : Launch} (hls : l.stackTraces = false) {C : cT} (hC : CX C cX13_apartKeys 3 yX13_apartKeys rm_X13_apartKeys) (hl : C.2.1 = l) {S0 : mS} (hE : CE C S0 (Option.some Jvm.ClassFile.FieldType.int) []) {o : Rs Int32} {S : mS} {a0 : Int32} {a1 : Int32} (h : f_X13_apartKeys S a0 a1 = some o) : XX C 3 (QQ C (fun r : Int32 => some (.int r)) S0 o) 0 0 S 0 [(0, .int a0), (1, .int a1)] [] := by
  unfold f_X13_apartKeys at h
  refine x_iload_n (pc := 0) hC 0 dX13_apartKeys_0 rfl rfl ?_
  refine x_bipush (pc := 1) (v := (12 : Int32)) hC dX13_apartKeys_1 (by decide) ?_
  obtain ⟨g2, h⟩ := gd_some h
  refine x_iremv (pc := 3) hC dX13_apartKeys_3 g2 (fun x1 hx1 => ?_)
  replace h := lt_x hx1 h
  refine x_iload_n (pc := 4) hC 1 dX13_apartKeys_4 rfl rfl ?_
  refine x_bipush (pc := 5) (v := (12 : Int32)) hC dX13_apartKeys_5 (by decide) ?_
  obtain ⟨g4, h⟩ := gd_some h
  refine x_iremv (pc := 7) hC dX13_apartKeys_7 g4 (fun x3 hx3 => ?_)
  replace h := lt_x hx3 h
  refine x_isubv (pc := 8) hC dX13_apartKeys_8 (fun x5 hx5 => ?_)
  replace h := lt_x hx5 h
  refine x_mabs (pc := 9) hC wm_1897 wm_640 wm_69 wm_641 dX13_apartKeys_9 (Nat.le_of_ble_eq_true rfl) (Nat.le_of_ble_eq_true rfl) (Nat.le_of_ble_eq_true rfl) (Nat.le_of_ble_eq_true rfl) (fun x6 hx6 => ?_)
  replace h := lt_x hx6 h
  refine x_istore_n (pc := 12) hC dX13_apartKeys_12 rfl (by decide) (by decide) rfl ?_
  refine x_iload_n (pc := 13) hC 0 dX13_apartKeys_13 rfl rfl ?_
  refine x_bipush (pc := 14) (v := (12 : Int32)) hC dX13_apartKeys_14 (by decide) ?_
  refine x_iload_n (pc := 16) hC 0 dX13_apartKeys_16 rfl rfl ?_
  refine x_isubv (pc := 17) hC dX13_apartKeys_17 (fun x7 hx7 => ?_)
  replace h := lt_x hx7 h
  refine x_mmin (pc := 18) hC wm_1898 wm_598 wm_69 wm_599 dX13_apartKeys_18 (Nat.le_of_ble_eq_true rfl) (Nat.le_of_ble_eq_true rfl) (Nat.le_of_ble_eq_true rfl) (Nat.le_of_ble_eq_true rfl) (fun x8 hx8 => ?_)
  replace h := lt_x hx8 h
  refine x_iload_n (pc := 21) hC 1 dX13_apartKeys_21 rfl rfl ?_
  refine x_bipush (pc := 22) (v := (12 : Int32)) hC dX13_apartKeys_22 (by decide) ?_
  obtain ⟨g10, h⟩ := gd_some h
  refine x_idivv (pc := 24) hC dX13_apartKeys_24 g10 (fun x9 hx9 => ?_)
  replace h := lt_x hx9 h
  refine x_iload_n (pc := 25) hC 2 dX13_apartKeys_25 rfl rfl ?_
  refine x_bipush (pc := 26) (v := (12 : Int32)) hC dX13_apartKeys_26 (by decide) ?_
  obtain ⟨g12, h⟩ := gd_some h
  refine x_idivv (pc := 28) hC dX13_apartKeys_28 g12 (fun x11 hx11 => ?_)
  replace h := lt_x hx11 h
  refine x_icmp_ne (pc := 29) hC 36 dX13_apartKeys_29 (by decide) (fun c13 => ?_) (fun c13 => ?_)
  · rw [if_neg c13] at h
    refine x_iconst (pc := 36) (v := (1 : Int32)) hC dX13_apartKeys_36 (by decide) ?_
    refine x_pick [] rfl ?_
    exact t_X13_apartKeys_37 hls hC hl hE h
  · rw [if_pos c13] at h
    refine x_iconst (pc := 32) (v := (0 : Int32)) hC dX13_apartKeys_32 (by decide) ?_
    refine x_goto (pc := 33) hC 37 dX13_apartKeys_33 (by decide) ?_
    refine x_pick [] rfl ?_
    exact t_X13_apartKeys_37 hls hC hl hE h
theorem c_X13_apartKeys (l : Launch) (hls : l.stackTraces = false) {S : mS} {a0 : Int32} {a1 : Int32} {o : Rs Int32} (h : f_X13_apartKeys S a0 a1 = some o) : CT (fun r : Int32 => some (.int r)) l yX13_apartKeys (.code yX13_apartKeys cX13_apartKeys 3 (Option.some Jvm.ClassFile.FieldType.int)) rm_X13_apartKeys S [.int a0, .int a1] o := ct_of (by decide +kernel) hls (Nat.le_of_ble_eq_true rfl) (fun C hl hC hE => t_X13_apartKeys hls hC hl hE h)
abbrev rm_X13_apart : Room := { frames := 11, cells := 0, slots := 0, locals := 214 }
def f_X13_apart_67  (S : mS) (s0 : Int32) : Option (Rs Int32) :=
  some (.inl s0, S)
set_option maxHeartbeats 2000000 in
set_option maxRecDepth 100000 in
theorem t_X13_apart_67 {l : Launch} (hls : l.stackTraces = false) {C : cT} (hC : CX C cX13_apart 3 yX13_apart rm_X13_apart) (hl : C.2.1 = l) {S0 : mS} (hE : CE C S0 (Option.some Jvm.ClassFile.FieldType.int) []) {o : Rs Int32} {S : mS} {s0 : Int32} (h : f_X13_apart_67  S s0 = some o) : XX C 3 (QQ C (fun r : Int32 => some (.int r)) S0 o) (0) (0) S 67 [] [.int s0] := by
  unfold f_X13_apart_67 at h
  exact x_ireturn (pc := 67) hC hE dX13_apart_67 (so h) (Nat.le_of_ble_eq_true rfl) (Nat.le_of_ble_eq_true rfl)
def f_X13_apart_22  (S : mS) (a0 : Nat) (a1 : Int32) (a2 : Int32) (s0 : Nat) (s1 : Int32) : Option (Rs Int32) :=
  gd (gK S s0 = 19) (bd (f_X13_isWrong S s0 s1) fun x2 S3 => if x2 = 0 then (gd (gK S3 a0 = 19) (lt9 (gR S3 a0 1) fun r7 => gd (gK S3 r7 = 5) (bd (f_Jx4a65c_get_915e3 S3 r7 a1) fun r9 S10 => none))) else (f_X13_apart_67  S3 (0 : Int32)))
set_option maxHeartbeats 2000000 in
set_option maxRecDepth 100000 in
theorem t_X13_apart_22 {l : Launch} (hls : l.stackTraces = false) {C : cT} (hC : CX C cX13_apart 3 yX13_apart rm_X13_apart) (hl : C.2.1 = l) {S0 : mS} (hE : CE C S0 (Option.some Jvm.ClassFile.FieldType.int) []) {o : Rs Int32} {S : mS} {a0 : Nat} {a1 : Int32} {a2 : Int32} {s0 : Nat} {s1 : Int32} (h : f_X13_apart_22  S a0 a1 a2 s0 s1 = some o) : XX C 3 (QQ C (fun r : Int32 => some (.int r)) S0 o) (0) (0) S 22 [(0, .ref a0), (1, .int a1), (2, .int a2)] [.int s1, .ref s0] := by
  unfold f_X13_apart_22 at h
  obtain ⟨g1, h⟩ := gd_some h
  obtain ⟨o4, ho4, h⟩ := bd_some h
  refine x_callV (pc := 22) (As := [.int s1]) (rest := []) hC hl (c_X13_isWrong l hls ho4) lk_RX13_68 fc_19 g1 dX13_apart_22 rfl rfl (Nat.le_of_ble_eq_true rfl) ⟨Nat.le_of_ble_eq_true rfl, Nat.le_of_ble_eq_true rfl⟩ ⟨(Nat.le_of_ble_eq_true rfl), (Nat.le_of_ble_eq_true rfl)⟩ ?_
  rcases o4 with ⟨x2 | E5, S3⟩
  · refine xk_i ?_
    replace h := bk_l h
    refine x_if_eq (pc := 25) hC 32 dX13_apart_25 (by decide) (fun c13 => ?_) (fun c13 => ?_)
    · rw [if_pos c13] at h
      refine x_aload_n (pc := 32) hC 0 dX13_apart_32 rfl rfl ?_
      obtain ⟨g6, h⟩ := gd_some h
      refine x_getRv (pc := 33) (k := 1) hC fc_19 fl_RX13_10 dX13_apart_33 rfl g6 (fun r7 hr7 => ?_)
      replace h := lt_x hr7 h
      refine x_iload_n (pc := 36) hC 1 dX13_apart_36 rfl rfl ?_
      obtain ⟨g8, h⟩ := gd_some h
      obtain ⟨o11, ho11, h⟩ := bd_some h
      refine x_callF (pc := 37) (As := [.int a1]) (rest := []) hC hl (c_Jx4a65c_get_915e3 l hls ho11) lk_RX13_87 fc_5 g8 dX13_apart_37 rfl rfl (Nat.le_of_ble_eq_true rfl) ⟨Nat.le_of_ble_eq_true rfl, Nat.le_of_ble_eq_true rfl⟩ ⟨(Nat.le_of_ble_eq_true rfl), (Nat.le_of_ble_eq_true rfl)⟩ ?_
      rcases o11 with ⟨r9 | E12, S10⟩
      · refine xk_a ?_
        replace h := bk_l h
        cases h
      · exact xk_r (xt_out hC hE (bk_r h) (Nat.le_of_ble_eq_true rfl) (Nat.le_of_ble_eq_true rfl))
    · rw [if_neg c13] at h
      refine x_iconst (pc := 28) (v := (0 : Int32)) hC dX13_apart_28 (by decide) ?_
      refine x_goto (pc := 29) hC 67 dX13_apart_29 (by decide) ?_
      refine x_pick [] rfl ?_
      exact t_X13_apart_67 hls hC hl hE h
  · exact xk_r (xt_out hC hE (bk_r h) (Nat.le_of_ble_eq_true rfl) (Nat.le_of_ble_eq_true rfl))
def f_X13_apart_21  (S : mS) (a0 : Nat) (a1 : Int32) (a2 : Int32) (s0 : Nat) : Option (Rs Int32) :=
  f_X13_apart_22  S a0 a1 a2 s0 (1 : Int32)
set_option maxHeartbeats 2000000 in
set_option maxRecDepth 100000 in
theorem t_X13_apart_21 {l : Launch} (hls : l.stackTraces = false) {C : cT} (hC : CX C cX13_apart 3 yX13_apart rm_X13_apart) (hl : C.2.1 = l) {S0 : mS} (hE : CE C S0 (Option.some Jvm.ClassFile.FieldType.int) []) {o : Rs Int32} {S : mS} {a0 : Nat} {a1 : Int32} {a2 : Int32} {s0 : Nat} (h : f_X13_apart_21  S a0 a1 a2 s0 = some o) : XX C 3 (QQ C (fun r : Int32 => some (.int r)) S0 o) (0) (0) S 21 [(0, .ref a0), (1, .int a1), (2, .int a2)] [.ref s0] := by
  unfold f_X13_apart_21 at h
  refine x_iconst (pc := 21) (v := (1 : Int32)) hC dX13_apart_21 (by decide) ?_
  refine x_pick [0, 1, 2] rfl ?_
  exact t_X13_apart_22 hls hC hl hE h
def f_X13_apart (S : mS) (a0 : Nat) (a1 : Int32) (a2 : Int32) : Option (Rs Int32) :=
  gd (gK S a0 = 19) (bd (f_X13_isDisc S a0 a1) fun x2 S3 => if x2 = 0 then (f_X13_apart_21  S3 a0 a1 a2 a0) else (gd (gK S3 a0 = 19) (bd (f_X13_isDisc S3 a0 a2) fun x7 S8 => if x7 = 0 then (f_X13_apart_21  S8 a0 a1 a2 a0) else (f_X13_apart_22  S8 a0 a1 a2 a0 (0 : Int32)))))
set_option maxHeartbeats 2000000 in
set_option maxRecDepth 100000 in
theorem t_X13_apart {l : Launch} (hls : l.stackTraces = false) {C : cT} (hC : CX C cX13_apart 3 yX13_apart rm_X13_apart) (hl : C.2.1 = l) {S0 : mS} (hE : CE C S0 (Option.some Jvm.ClassFile.FieldType.int) []) {o : Rs Int32} {S : mS} {a0 : Nat} {a1 : Int32} {a2 : Int32} (h : f_X13_apart S a0 a1 a2 = some o) : XX C 3 (QQ C (fun r : Int32 => some (.int r)) S0 o) 0 0 S 0 [(0, .ref a0), (1, .int a1), (2, .int a2)] [] := by
  unfold f_X13_apart at h
  refine x_aload_n (pc := 0) hC 0 dX13_apart_0 rfl rfl ?_
  refine x_aload_n (pc := 1) hC 0 dX13_apart_1 rfl rfl ?_
  refine x_iload_n (pc := 2) hC 1 dX13_apart_2 rfl rfl ?_
  obtain ⟨g1, h⟩ := gd_some h
  obtain ⟨o4, ho4, h⟩ := bd_some h
  refine x_callV (pc := 3) (As := [.int a1]) (rest := [.ref a0]) hC hl (c_X13_isDisc l hls ho4) lk_RX13_84 fc_19 g1 dX13_apart_3 rfl rfl (Nat.le_of_ble_eq_true rfl) ⟨Nat.le_of_ble_eq_true rfl, Nat.le_of_ble_eq_true rfl⟩ ⟨(Nat.le_of_ble_eq_true rfl), (Nat.le_of_ble_eq_true rfl)⟩ ?_
  rcases o4 with ⟨x2 | E5, S3⟩
  · refine xk_i ?_
    replace h := bk_l h
    refine x_if_eq (pc := 6) hC 21 dX13_apart_6 (by decide) (fun c12 => ?_) (fun c12 => ?_)
    · rw [if_pos c12] at h
      refine x_pick [0, 1, 2] rfl ?_
      exact t_X13_apart_21 hls hC hl hE h
    · rw [if_neg c12] at h
      refine x_aload_n (pc := 9) hC 0 dX13_apart_9 rfl rfl ?_
      refine x_iload_n (pc := 10) hC 2 dX13_apart_10 rfl rfl ?_
      obtain ⟨g6, h⟩ := gd_some h
      obtain ⟨o9, ho9, h⟩ := bd_some h
      refine x_callV (pc := 11) (As := [.int a2]) (rest := [.ref a0]) hC hl (c_X13_isDisc l hls ho9) lk_RX13_84 fc_19 g6 dX13_apart_11 rfl rfl (Nat.le_of_ble_eq_true rfl) ⟨Nat.le_of_ble_eq_true rfl, Nat.le_of_ble_eq_true rfl⟩ ⟨(Nat.le_of_ble_eq_true rfl), (Nat.le_of_ble_eq_true rfl)⟩ ?_
      rcases o9 with ⟨x7 | E10, S8⟩
      · refine xk_i ?_
        replace h := bk_l h
        refine x_if_eq (pc := 14) hC 21 dX13_apart_14 (by decide) (fun c11 => ?_) (fun c11 => ?_)
        · rw [if_pos c11] at h
          refine x_pick [0, 1, 2] rfl ?_
          exact t_X13_apart_21 hls hC hl hE h
        · rw [if_neg c11] at h
          refine x_iconst (pc := 17) (v := (0 : Int32)) hC dX13_apart_17 (by decide) ?_
          refine x_goto (pc := 18) hC 22 dX13_apart_18 (by decide) ?_
          refine x_pick [0, 1, 2] rfl ?_
          exact t_X13_apart_22 hls hC hl hE h
      · exact xk_r (xt_out hC hE (bk_r h) (Nat.le_of_ble_eq_true rfl) (Nat.le_of_ble_eq_true rfl))
  · exact xk_r (xt_out hC hE (bk_r h) (Nat.le_of_ble_eq_true rfl) (Nat.le_of_ble_eq_true rfl))
theorem c_X13_apart (l : Launch) (hls : l.stackTraces = false) {S : mS} {a0 : Nat} {a1 : Int32} {a2 : Int32} {o : Rs Int32} (h : f_X13_apart S a0 a1 a2 = some o) : CT (fun r : Int32 => some (.int r)) l yX13_apart (.code yX13_apart cX13_apart 3 (Option.some Jvm.ClassFile.FieldType.int)) rm_X13_apart S [.ref a0, .int a1, .int a2] o := ct_of (by decide +kernel) hls (Nat.le_of_ble_eq_true rfl) (fun C hl hC hE => t_X13_apart hls hC hl hE h)
abbrev rm_X13_ban : Room := { frames := 11, cells := 0, slots := 0, locals := 214 }
def f_X13_ban_14  (S : mS) (a0 : Nat) (a1 : Int32) (a2 : Int32) (s0 : Nat) (s1 : Int32) : Option (Rs Int32) :=
  gd (gK S s0 = 19) (bd (f_X13_isWrong S s0 s1) fun x2 S3 => if x2 = 0 then (gd (gK S3 a0 = 19) (lt9 (gR S3 a0 1) fun r7 => gd (gK S3 r7 = 5) (bd (f_Jx4a65c_get_915e3 S3 r7 a1) fun r9 S10 => none))) else (some (.inl (0 : Int32), S3)))
set_option maxHeartbeats 2000000 in
set_option maxRecDepth 100000 in
theorem t_X13_ban_14 {l : Launch} (hls : l.stackTraces = false) {C : cT} (hC : CX C cX13_ban 4 yX13_ban rm_X13_ban) (hl : C.2.1 = l) {S0 : mS} (hE : CE C S0 (Option.some Jvm.ClassFile.FieldType.boolean) []) {o : Rs Int32} {S : mS} {a0 : Nat} {a1 : Int32} {a2 : Int32} {s0 : Nat} {s1 : Int32} (h : f_X13_ban_14  S a0 a1 a2 s0 s1 = some o) : XX C 4 (QQ C (fun r : Int32 => some (.int r)) S0 o) (0) (0) S 14 [(0, .ref a0), (1, .int a1), (2, .int a2)] [.int s1, .ref s0] := by
  unfold f_X13_ban_14 at h
  obtain ⟨g1, h⟩ := gd_some h
  obtain ⟨o4, ho4, h⟩ := bd_some h
  refine x_callV (pc := 14) (As := [.int s1]) (rest := []) hC hl (c_X13_isWrong l hls ho4) lk_RX13_68 fc_19 g1 dX13_ban_14 rfl rfl (Nat.le_of_ble_eq_true rfl) ⟨Nat.le_of_ble_eq_true rfl, Nat.le_of_ble_eq_true rfl⟩ ⟨(Nat.le_of_ble_eq_true rfl), (Nat.le_of_ble_eq_true rfl)⟩ ?_
  rcases o4 with ⟨x2 | E5, S3⟩
  · refine xk_i ?_
    replace h := bk_l h
    refine x_if_eq (pc := 17) hC 22 dX13_ban_17 (by decide) (fun c13 => ?_) (fun c13 => ?_)
    · rw [if_pos c13] at h
      refine x_aload_n (pc := 22) hC 0 dX13_ban_22 rfl rfl ?_
      obtain ⟨g6, h⟩ := gd_some h
      refine x_getRv (pc := 23) (k := 1) hC fc_19 fl_RX13_10 dX13_ban_23 rfl g6 (fun r7 hr7 => ?_)
      replace h := lt_x hr7 h
      refine x_iload_n (pc := 26) hC 1 dX13_ban_26 rfl rfl ?_
      obtain ⟨g8, h⟩ := gd_some h
      obtain ⟨o11, ho11, h⟩ := bd_some h
      refine x_callF (pc := 27) (As := [.int a1]) (rest := []) hC hl (c_Jx4a65c_get_915e3 l hls ho11) lk_RX13_87 fc_5 g8 dX13_ban_27 rfl rfl (Nat.le_of_ble_eq_true rfl) ⟨Nat.le_of_ble_eq_true rfl, Nat.le_of_ble_eq_true rfl⟩ ⟨(Nat.le_of_ble_eq_true rfl), (Nat.le_of_ble_eq_true rfl)⟩ ?_
      rcases o11 with ⟨r9 | E12, S10⟩
      · refine xk_a ?_
        replace h := bk_l h
        cases h
      · exact xk_r (xt_out hC hE (bk_r h) (Nat.le_of_ble_eq_true rfl) (Nat.le_of_ble_eq_true rfl))
    · rw [if_neg c13] at h
      refine x_iconst (pc := 20) (v := (0 : Int32)) hC dX13_ban_20 (by decide) ?_
      exact x_zreturn (pc := 21) hC hE dX13_ban_21 (show NF .boolean _ from ⟨rfl, rfl⟩).1 (so h) (Nat.le_of_ble_eq_true rfl) (Nat.le_of_ble_eq_true rfl)
  · exact xk_r (xt_out hC hE (bk_r h) (Nat.le_of_ble_eq_true rfl) (Nat.le_of_ble_eq_true rfl))
def f_X13_ban (S : mS) (a0 : Nat) (a1 : Int32) (a2 : Int32) : Option (Rs Int32) :=
  gd (gK S a0 = 19) (bd (f_X13_isDisc S a0 a1) fun x2 S3 => if x2 = 0 then (f_X13_ban_14  S3 a0 a1 a2 a0 (1 : Int32)) else (f_X13_ban_14  S3 a0 a1 a2 a0 (0 : Int32)))
set_option maxHeartbeats 2000000 in
set_option maxRecDepth 100000 in
theorem t_X13_ban {l : Launch} (hls : l.stackTraces = false) {C : cT} (hC : CX C cX13_ban 4 yX13_ban rm_X13_ban) (hl : C.2.1 = l) {S0 : mS} (hE : CE C S0 (Option.some Jvm.ClassFile.FieldType.boolean) []) {o : Rs Int32} {S : mS} {a0 : Nat} {a1 : Int32} {a2 : Int32} (h : f_X13_ban S a0 a1 a2 = some o) : XX C 4 (QQ C (fun r : Int32 => some (.int r)) S0 o) 0 0 S 0 [(0, .ref a0), (1, .int a1), (2, .int a2)] [] := by
  unfold f_X13_ban at h
  refine x_aload_n (pc := 0) hC 0 dX13_ban_0 rfl rfl ?_
  refine x_aload_n (pc := 1) hC 0 dX13_ban_1 rfl rfl ?_
  refine x_iload_n (pc := 2) hC 1 dX13_ban_2 rfl rfl ?_
  obtain ⟨g1, h⟩ := gd_some h
  obtain ⟨o4, ho4, h⟩ := bd_some h
  refine x_callV (pc := 3) (As := [.int a1]) (rest := [.ref a0]) hC hl (c_X13_isDisc l hls ho4) lk_RX13_84 fc_19 g1 dX13_ban_3 rfl rfl (Nat.le_of_ble_eq_true rfl) ⟨Nat.le_of_ble_eq_true rfl, Nat.le_of_ble_eq_true rfl⟩ ⟨(Nat.le_of_ble_eq_true rfl), (Nat.le_of_ble_eq_true rfl)⟩ ?_
  rcases o4 with ⟨x2 | E5, S3⟩
  · refine xk_i ?_
    replace h := bk_l h
    refine x_if_eq (pc := 6) hC 13 dX13_ban_6 (by decide) (fun c6 => ?_) (fun c6 => ?_)
    · rw [if_pos c6] at h
      refine x_iconst (pc := 13) (v := (1 : Int32)) hC dX13_ban_13 (by decide) ?_
      refine x_pick [0, 1, 2] rfl ?_
      exact t_X13_ban_14 hls hC hl hE h
    · rw [if_neg c6] at h
      refine x_iconst (pc := 9) (v := (0 : Int32)) hC dX13_ban_9 (by decide) ?_
      refine x_goto (pc := 10) hC 14 dX13_ban_10 (by decide) ?_
      refine x_pick [0, 1, 2] rfl ?_
      exact t_X13_ban_14 hls hC hl hE h
  · exact xk_r (xt_out hC hE (bk_r h) (Nat.le_of_ble_eq_true rfl) (Nat.le_of_ble_eq_true rfl))
theorem c_X13_ban (l : Launch) (hls : l.stackTraces = false) {S : mS} {a0 : Nat} {a1 : Int32} {a2 : Int32} {o : Rs Int32} (h : f_X13_ban S a0 a1 a2 = some o) : CT (fun r : Int32 => some (.int r)) l yX13_ban (.code yX13_ban cX13_ban 4 (Option.some Jvm.ClassFile.FieldType.boolean)) rm_X13_ban S [.ref a0, .int a1, .int a2] o := ct_of (by decide +kernel) hls (Nat.le_of_ble_eq_true rfl) (fun C hl hC hE => t_X13_ban hls hC hl hE h)
abbrev rm_X13_request : Room := { frames := 11, cells := 0, slots := 0, locals := 214 }
def f_X13_request_14  (S : mS) (a0 : Nat) (a1 : Int32) (s0 : Nat) (s1 : Int32) : Option (Rs Int32) :=
  gd (gK S s0 = 19) (bd (f_X13_isWrong S s0 s1) fun x2 S3 => if x2 = 0 then (gd (gK S3 a0 = 19) (lt9 (gR S3 a0 1) fun r7 => gd (gK S3 r7 = 5) (bd (f_Jx4a65c_get_915e3 S3 r7 a1) fun r9 S10 => none))) else (some (.inl (0 : Int32), S3)))
set_option maxHeartbeats 2000000 in
set_option maxRecDepth 100000 in
theorem t_X13_request_14 {l : Launch} (hls : l.stackTraces = false) {C : cT} (hC : CX C cX13_request 3 yX13_request rm_X13_request) (hl : C.2.1 = l) {S0 : mS} (hE : CE C S0 (Option.some Jvm.ClassFile.FieldType.boolean) []) {o : Rs Int32} {S : mS} {a0 : Nat} {a1 : Int32} {s0 : Nat} {s1 : Int32} (h : f_X13_request_14  S a0 a1 s0 s1 = some o) : XX C 3 (QQ C (fun r : Int32 => some (.int r)) S0 o) (0) (0) S 14 [(0, .ref a0), (1, .int a1)] [.int s1, .ref s0] := by
  unfold f_X13_request_14 at h
  obtain ⟨g1, h⟩ := gd_some h
  obtain ⟨o4, ho4, h⟩ := bd_some h
  refine x_callV (pc := 14) (As := [.int s1]) (rest := []) hC hl (c_X13_isWrong l hls ho4) lk_RX13_68 fc_19 g1 dX13_request_14 rfl rfl (Nat.le_of_ble_eq_true rfl) ⟨Nat.le_of_ble_eq_true rfl, Nat.le_of_ble_eq_true rfl⟩ ⟨(Nat.le_of_ble_eq_true rfl), (Nat.le_of_ble_eq_true rfl)⟩ ?_
  rcases o4 with ⟨x2 | E5, S3⟩
  · refine xk_i ?_
    replace h := bk_l h
    refine x_if_eq (pc := 17) hC 22 dX13_request_17 (by decide) (fun c13 => ?_) (fun c13 => ?_)
    · rw [if_pos c13] at h
      refine x_aload_n (pc := 22) hC 0 dX13_request_22 rfl rfl ?_
      obtain ⟨g6, h⟩ := gd_some h
      refine x_getRv (pc := 23) (k := 1) hC fc_19 fl_RX13_10 dX13_request_23 rfl g6 (fun r7 hr7 => ?_)
      replace h := lt_x hr7 h
      refine x_iload_n (pc := 26) hC 1 dX13_request_26 rfl rfl ?_
      obtain ⟨g8, h⟩ := gd_some h
      obtain ⟨o11, ho11, h⟩ := bd_some h
      refine x_callF (pc := 27) (As := [.int a1]) (rest := []) hC hl (c_Jx4a65c_get_915e3 l hls ho11) lk_RX13_87 fc_5 g8 dX13_request_27 rfl rfl (Nat.le_of_ble_eq_true rfl) ⟨Nat.le_of_ble_eq_true rfl, Nat.le_of_ble_eq_true rfl⟩ ⟨(Nat.le_of_ble_eq_true rfl), (Nat.le_of_ble_eq_true rfl)⟩ ?_
      rcases o11 with ⟨r9 | E12, S10⟩
      · refine xk_a ?_
        replace h := bk_l h
        cases h
      · exact xk_r (xt_out hC hE (bk_r h) (Nat.le_of_ble_eq_true rfl) (Nat.le_of_ble_eq_true rfl))
    · rw [if_neg c13] at h
      refine x_iconst (pc := 20) (v := (0 : Int32)) hC dX13_request_20 (by decide) ?_
      exact x_zreturn (pc := 21) hC hE dX13_request_21 (show NF .boolean _ from ⟨rfl, rfl⟩).1 (so h) (Nat.le_of_ble_eq_true rfl) (Nat.le_of_ble_eq_true rfl)
  · exact xk_r (xt_out hC hE (bk_r h) (Nat.le_of_ble_eq_true rfl) (Nat.le_of_ble_eq_true rfl))
def f_X13_request (S : mS) (a0 : Nat) (a1 : Int32) : Option (Rs Int32) :=
  gd (gK S a0 = 19) (bd (f_X13_isDisc S a0 a1) fun x2 S3 => if x2 = 0 then (f_X13_request_14  S3 a0 a1 a0 (1 : Int32)) else (f_X13_request_14  S3 a0 a1 a0 (0 : Int32)))
set_option maxHeartbeats 2000000 in
set_option maxRecDepth 100000 in
theorem t_X13_request {l : Launch} (hls : l.stackTraces = false) {C : cT} (hC : CX C cX13_request 3 yX13_request rm_X13_request) (hl : C.2.1 = l) {S0 : mS} (hE : CE C S0 (Option.some Jvm.ClassFile.FieldType.boolean) []) {o : Rs Int32} {S : mS} {a0 : Nat} {a1 : Int32} (h : f_X13_request S a0 a1 = some o) : XX C 3 (QQ C (fun r : Int32 => some (.int r)) S0 o) 0 0 S 0 [(0, .ref a0), (1, .int a1)] [] := by
  unfold f_X13_request at h
  refine x_aload_n (pc := 0) hC 0 dX13_request_0 rfl rfl ?_
  refine x_aload_n (pc := 1) hC 0 dX13_request_1 rfl rfl ?_
  refine x_iload_n (pc := 2) hC 1 dX13_request_2 rfl rfl ?_
  obtain ⟨g1, h⟩ := gd_some h
  obtain ⟨o4, ho4, h⟩ := bd_some h
  refine x_callV (pc := 3) (As := [.int a1]) (rest := [.ref a0]) hC hl (c_X13_isDisc l hls ho4) lk_RX13_84 fc_19 g1 dX13_request_3 rfl rfl (Nat.le_of_ble_eq_true rfl) ⟨Nat.le_of_ble_eq_true rfl, Nat.le_of_ble_eq_true rfl⟩ ⟨(Nat.le_of_ble_eq_true rfl), (Nat.le_of_ble_eq_true rfl)⟩ ?_
  rcases o4 with ⟨x2 | E5, S3⟩
  · refine xk_i ?_
    replace h := bk_l h
    refine x_if_eq (pc := 6) hC 13 dX13_request_6 (by decide) (fun c6 => ?_) (fun c6 => ?_)
    · rw [if_pos c6] at h
      refine x_iconst (pc := 13) (v := (1 : Int32)) hC dX13_request_13 (by decide) ?_
      refine x_pick [0, 1] rfl ?_
      exact t_X13_request_14 hls hC hl hE h
    · rw [if_neg c6] at h
      refine x_iconst (pc := 9) (v := (0 : Int32)) hC dX13_request_9 (by decide) ?_
      refine x_goto (pc := 10) hC 14 dX13_request_10 (by decide) ?_
      refine x_pick [0, 1] rfl ?_
      exact t_X13_request_14 hls hC hl hE h
  · exact xk_r (xt_out hC hE (bk_r h) (Nat.le_of_ble_eq_true rfl) (Nat.le_of_ble_eq_true rfl))
theorem c_X13_request (l : Launch) (hls : l.stackTraces = false) {S : mS} {a0 : Nat} {a1 : Int32} {o : Rs Int32} (h : f_X13_request S a0 a1 = some o) : CT (fun r : Int32 => some (.int r)) l yX13_request (.code yX13_request cX13_request 3 (Option.some Jvm.ClassFile.FieldType.boolean)) rm_X13_request S [.ref a0, .int a1] o := ct_of (by decide +kernel) hls (Nat.le_of_ble_eq_true rfl) (fun C hl hC hE => t_X13_request hls hC hl hE h)
abbrev rm_X13_load : Room := { frames := 11, cells := 0, slots := 0, locals := 214 }
def f_X13_load_37  (S : mS) (a0 : Nat) (a1 : Int32) (a2 : Int32) (s0 : Nat) (s1 : Int32) : Option (Rs Int32) :=
  gd (gK S s0 = 19) (bd (f_X13_isWrong S s0 s1) fun x2 S3 => if x2 = 0 then (gd (gK S3 a0 = 19) (lt9 (gR S3 a0 2) fun r7 => gd (gK S3 r7 = 37) (gd (¬ (a1 < 0 ∨ gZ S3 r7 ≤ (a1).toNatClampNeg)) (lt9 (gR S3 r7 (a1).toNatClampNeg) fun r11 => gd (gK S3 r11 = 17) (lt9 (gI S3 r11 1) fun x13 => lt9 (gR S3 a0 2) fun r14 => gd (gK S3 r14 = 37) (gd (¬ (a1 < 0 ∨ gZ S3 r14 ≤ (a1).toNatClampNeg)) (lt9 (gR S3 r14 (a1).toNatClampNeg) fun r18 => gd (gK S3 r18 = 17) (bd (f_X11_anew S3 r18) fun _ S21 => gd (gK S21 a0 = 19) (lt9 (gR S21 a0 2) fun r25 => gd (gK S21 r25 = 37) (gd (¬ (a1 < 0 ∨ gZ S21 r25 ≤ (a1).toNatClampNeg)) (lt9 (gR S21 r25 (a1).toNatClampNeg) fun r29 => lt9 (gR S21 a0 1) fun r30 => gd (gK S21 r30 = 5) (bd (f_Jx4a65c_get_915e3 S21 r30 a2) fun r32 S33 => none)))))))))))) else (some (.inl (0 : Int32), S3)))
set_option maxHeartbeats 2000000 in
set_option maxRecDepth 100000 in
theorem t_X13_load_37 {l : Launch} (hls : l.stackTraces = false) {C : cT} (hC : CX C cX13_load 4 yX13_load rm_X13_load) (hl : C.2.1 = l) {S0 : mS} (hE : CE C S0 (Option.some Jvm.ClassFile.FieldType.int) []) {o : Rs Int32} {S : mS} {a0 : Nat} {a1 : Int32} {a2 : Int32} {s0 : Nat} {s1 : Int32} (h : f_X13_load_37  S a0 a1 a2 s0 s1 = some o) : XX C 4 (QQ C (fun r : Int32 => some (.int r)) S0 o) (0) (0) S 37 [(0, .ref a0), (1, .int a1), (2, .int a2)] [.int s1, .ref s0] := by
  unfold f_X13_load_37 at h
  obtain ⟨g1, h⟩ := gd_some h
  obtain ⟨o4, ho4, h⟩ := bd_some h
  refine x_callV (pc := 37) (As := [.int s1]) (rest := []) hC hl (c_X13_isWrong l hls ho4) lk_RX13_68 fc_19 g1 dX13_load_37 rfl rfl (Nat.le_of_ble_eq_true rfl) ⟨Nat.le_of_ble_eq_true rfl, Nat.le_of_ble_eq_true rfl⟩ ⟨(Nat.le_of_ble_eq_true rfl), (Nat.le_of_ble_eq_true rfl)⟩ ?_
  rcases o4 with ⟨x2 | E5, S3⟩
  · refine xk_i ?_
    replace h := bk_l h
    refine x_if_eq (pc := 40) hC 45 dX13_load_40 (by decide) (fun c36 => ?_) (fun c36 => ?_)
    · rw [if_pos c36] at h
      refine x_aload_n (pc := 45) hC 0 dX13_load_45 rfl rfl ?_
      obtain ⟨g6, h⟩ := gd_some h
      refine x_getRv (pc := 46) (k := 2) hC fc_19 fl_RX13_19 dX13_load_46 rfl g6 (fun r7 hr7 => ?_)
      replace h := lt_x hr7 h
      refine x_iload_n (pc := 49) hC 1 dX13_load_49 rfl rfl ?_
      obtain ⟨g10, h⟩ := gd_some h
      obtain ⟨g9, h⟩ := gd_some h
      refine x_raldv (pc := 50) (t0 := 7) hC dX13_load_50 g10 (by decide) (fun _ => rfl) g9 (fun r11 hr11 => ?_)
      replace h := lt_x hr11 h
      obtain ⟨g12, h⟩ := gd_some h
      refine x_getIv (pc := 51) (k := 1) hC fc_17 fl_RX13_127 dX13_load_51 rfl g12 (fun x13 hx13 => ?_)
      replace h := lt_x hx13 h
      refine x_istore_n (pc := 54) hC dX13_load_54 rfl (by decide) (by decide) rfl ?_
      refine x_aload_n (pc := 55) hC 1 dX13_load_55 rfl rfl ?_
      refine x_getRv (pc := 56) (k := 2) hC fc_19 fl_RX13_19 dX13_load_56 rfl g6 (fun r14 hr14 => ?_)
      replace h := lt_x hr14 h
      refine x_iload_n (pc := 59) hC 2 dX13_load_59 rfl rfl ?_
      obtain ⟨g17, h⟩ := gd_some h
      obtain ⟨g16, h⟩ := gd_some h
      refine x_raldv (pc := 60) (t0 := 7) hC dX13_load_60 g17 (by decide) (fun _ => rfl) g16 (fun r18 hr18 => ?_)
      replace h := lt_x hr18 h
      obtain ⟨g19, h⟩ := gd_some h
      obtain ⟨o22, ho22, h⟩ := bd_some h
      refine x_callV (pc := 61) (As := []) (rest := []) hC hl (c_X11_anew l hls ho22) lk_RX13_130 fc_17 g19 dX13_load_61 rfl rfl (Nat.le_of_ble_eq_true rfl) ⟨Nat.le_of_ble_eq_true rfl, Nat.le_of_ble_eq_true rfl⟩ ⟨(Nat.le_of_ble_eq_true rfl), (Nat.le_of_ble_eq_true rfl)⟩ ?_
      rcases o22 with ⟨_ | E23, S21⟩
      · refine xk_v ?_
        replace h := bk_l h
        refine x_aload_n (pc := 64) hC 1 dX13_load_64 rfl rfl ?_
        obtain ⟨g24, h⟩ := gd_some h
        refine x_getRv (pc := 65) (k := 2) hC fc_19 fl_RX13_19 dX13_load_65 rfl g24 (fun r25 hr25 => ?_)
        replace h := lt_x hr25 h
        refine x_iload_n (pc := 68) hC 2 dX13_load_68 rfl rfl ?_
        obtain ⟨g28, h⟩ := gd_some h
        obtain ⟨g27, h⟩ := gd_some h
        refine x_raldv (pc := 69) (t0 := 7) hC dX13_load_69 g28 (by decide) (fun _ => rfl) g27 (fun r29 hr29 => ?_)
        replace h := lt_x hr29 h
        refine x_aload_n (pc := 70) hC 1 dX13_load_70 rfl rfl ?_
        refine x_getRv (pc := 71) (k := 1) hC fc_19 fl_RX13_10 dX13_load_71 rfl g24 (fun r30 hr30 => ?_)
        replace h := lt_x hr30 h
        refine x_iload_n (pc := 74) hC 3 dX13_load_74 rfl rfl ?_
        obtain ⟨g31, h⟩ := gd_some h
        obtain ⟨o34, ho34, h⟩ := bd_some h
        refine x_callF (pc := 75) (As := [.int a2]) (rest := [.ref r29]) hC hl (c_Jx4a65c_get_915e3 l hls ho34) lk_RX13_87 fc_5 g31 dX13_load_75 rfl rfl (Nat.le_of_ble_eq_true rfl) ⟨Nat.le_of_ble_eq_true rfl, Nat.le_of_ble_eq_true rfl⟩ ⟨(Nat.le_of_ble_eq_true rfl), (Nat.le_of_ble_eq_true rfl)⟩ ?_
        rcases o34 with ⟨r32 | E35, S33⟩
        · refine xk_a ?_
          replace h := bk_l h
          cases h
        · exact xk_r (xt_out hC hE (bk_r h) (Nat.le_of_ble_eq_true rfl) (Nat.le_of_ble_eq_true rfl))
      · exact xk_r (xt_out hC hE (bk_r h) (Nat.le_of_ble_eq_true rfl) (Nat.le_of_ble_eq_true rfl))
    · rw [if_neg c36] at h
      refine x_iconst (pc := 43) (v := (0 : Int32)) hC dX13_load_43 (by decide) ?_
      exact x_ireturn (pc := 44) hC hE dX13_load_44 (so h) (Nat.le_of_ble_eq_true rfl) (Nat.le_of_ble_eq_true rfl)
  · exact xk_r (xt_out hC hE (bk_r h) (Nat.le_of_ble_eq_true rfl) (Nat.le_of_ble_eq_true rfl))
def f_X13_load_16  (S : mS) (a0 : Nat) (a1 : Int32) (a2 : Int32) (s0 : Nat) : Option (Rs Int32) :=
  f_X13_load_37  S a0 a1 a2 s0 (1 : Int32)
set_option maxHeartbeats 2000000 in
set_option maxRecDepth 100000 in
theorem t_X13_load_16 {l : Launch} (hls : l.stackTraces = false) {C : cT} (hC : CX C cX13_load 4 yX13_load rm_X13_load) (hl : C.2.1 = l) {S0 : mS} (hE : CE C S0 (Option.some Jvm.ClassFile.FieldType.int) []) {o : Rs Int32} {S : mS} {a0 : Nat} {a1 : Int32} {a2 : Int32} {s0 : Nat} (h : f_X13_load_16  S a0 a1 a2 s0 = some o) : XX C 4 (QQ C (fun r : Int32 => some (.int r)) S0 o) (0) (0) S 16 [(0, .ref a0), (1, .int a1), (2, .int a2)] [.ref s0] := by
  unfold f_X13_load_16 at h
  refine x_iconst (pc := 16) (v := (1 : Int32)) hC dX13_load_16 (by decide) ?_
  refine x_goto (pc := 17) hC 37 dX13_load_17 (by decide) ?_
  refine x_pick [0, 1, 2] rfl ?_
  exact t_X13_load_37 hls hC hl hE h
def f_X13_load (S : mS) (a0 : Nat) (a1 : Int32) (a2 : Int32) : Option (Rs Int32) :=
  bd (f_X13_isDeck S a1) fun x1 S2 => if x1 = 0 then (f_X13_load_16  S2 a0 a1 a2 a0) else (gd (gK S2 a0 = 19) (bd (f_X13_isDisc S2 a0 a2) fun x6 S7 => if x6 = 0 then (f_X13_load_16  S7 a0 a1 a2 a0) else (gd (gK S7 a0 = 19) (lt9 (gR S7 a0 2) fun r11 => gd (gK S7 r11 = 37) (gd (¬ (a1 < 0 ∨ gZ S7 r11 ≤ (a1).toNatClampNeg)) (lt9 (gR S7 r11 (a1).toNatClampNeg) fun r15 => gd (gK S7 r15 = 17) (lt9 (gI S7 r15 13) fun x17 => if x17 = 0 then (f_X13_load_37  S7 a0 a1 a2 a0 (0 : Int32)) else (f_X13_load_37  S7 a0 a1 a2 a0 (2 : Int32)))))))))
set_option maxHeartbeats 2000000 in
set_option maxRecDepth 100000 in
theorem t_X13_load {l : Launch} (hls : l.stackTraces = false) {C : cT} (hC : CX C cX13_load 4 yX13_load rm_X13_load) (hl : C.2.1 = l) {S0 : mS} (hE : CE C S0 (Option.some Jvm.ClassFile.FieldType.int) []) {o : Rs Int32} {S : mS} {a0 : Nat} {a1 : Int32} {a2 : Int32} (h : f_X13_load S a0 a1 a2 = some o) : XX C 4 (QQ C (fun r : Int32 => some (.int r)) S0 o) 0 0 S 0 [(0, .ref a0), (1, .int a1), (2, .int a2)] [] := by
  unfold f_X13_load at h
  refine x_aload_n (pc := 0) hC 0 dX13_load_0 rfl rfl ?_
  refine x_iload_n (pc := 1) hC 1 dX13_load_1 rfl rfl ?_
  obtain ⟨o3, ho3, h⟩ := bd_some h
  refine x_callS (pc := 2) (As := [.int a1]) (rest := [.ref a0]) hC hl (c_X13_isDeck l hls ho3) lk_RX13_121 dX13_load_2 rfl rfl (Nat.le_of_ble_eq_true rfl) ⟨Nat.le_of_ble_eq_true rfl, Nat.le_of_ble_eq_true rfl⟩ ⟨(Nat.le_of_ble_eq_true rfl), (Nat.le_of_ble_eq_true rfl)⟩ ?_
  rcases o3 with ⟨x1 | E4, S2⟩
  · refine xk_i ?_
    replace h := bk_l h
    refine x_if_eq (pc := 5) hC 16 dX13_load_5 (by decide) (fun c20 => ?_) (fun c20 => ?_)
    · rw [if_pos c20] at h
      refine x_pick [0, 1, 2] rfl ?_
      exact t_X13_load_16 hls hC hl hE h
    · rw [if_neg c20] at h
      refine x_aload_n (pc := 8) hC 0 dX13_load_8 rfl rfl ?_
      refine x_iload_n (pc := 9) hC 2 dX13_load_9 rfl rfl ?_
      obtain ⟨g5, h⟩ := gd_some h
      obtain ⟨o8, ho8, h⟩ := bd_some h
      refine x_callV (pc := 10) (As := [.int a2]) (rest := [.ref a0]) hC hl (c_X13_isDisc l hls ho8) lk_RX13_84 fc_19 g5 dX13_load_10 rfl rfl (Nat.le_of_ble_eq_true rfl) ⟨Nat.le_of_ble_eq_true rfl, Nat.le_of_ble_eq_true rfl⟩ ⟨(Nat.le_of_ble_eq_true rfl), (Nat.le_of_ble_eq_true rfl)⟩ ?_
      rcases o8 with ⟨x6 | E9, S7⟩
      · refine xk_i ?_
        replace h := bk_l h
        refine x_if_ne (pc := 13) hC 20 dX13_load_13 (by decide) (fun c19 => ?_) (fun c19 => ?_)
        · rw [if_neg c19] at h
          refine x_aload_n (pc := 20) hC 0 dX13_load_20 rfl rfl ?_
          obtain ⟨g10, h⟩ := gd_some h
          refine x_getRv (pc := 21) (k := 2) hC fc_19 fl_RX13_19 dX13_load_21 rfl g10 (fun r11 hr11 => ?_)
          replace h := lt_x hr11 h
          refine x_iload_n (pc := 24) hC 1 dX13_load_24 rfl rfl ?_
          obtain ⟨g14, h⟩ := gd_some h
          obtain ⟨g13, h⟩ := gd_some h
          refine x_raldv (pc := 25) (t0 := 7) hC dX13_load_25 g14 (by decide) (fun _ => rfl) g13 (fun r15 hr15 => ?_)
          replace h := lt_x hr15 h
          obtain ⟨g16, h⟩ := gd_some h
          refine x_getIv (pc := 26) (k := 13) hC fc_17 fl_RX13_124 dX13_load_26 rfl g16 (fun x17 hx17 => ?_)
          replace h := lt_x hx17 h
          refine x_if_eq (pc := 29) hC 36 dX13_load_29 (by decide) (fun c18 => ?_) (fun c18 => ?_)
          · rw [if_pos c18] at h
            refine x_iconst (pc := 36) (v := (0 : Int32)) hC dX13_load_36 (by decide) ?_
            refine x_pick [0, 1, 2] rfl ?_
            exact t_X13_load_37 hls hC hl hE h
          · rw [if_neg c18] at h
            refine x_iconst (pc := 32) (v := (2 : Int32)) hC dX13_load_32 (by decide) ?_
            refine x_goto (pc := 33) hC 37 dX13_load_33 (by decide) ?_
            refine x_pick [0, 1, 2] rfl ?_
            exact t_X13_load_37 hls hC hl hE h
        · rw [if_pos c19] at h
          refine x_pick [0, 1, 2] rfl ?_
          exact t_X13_load_16 hls hC hl hE h
      · exact xk_r (xt_out hC hE (bk_r h) (Nat.le_of_ble_eq_true rfl) (Nat.le_of_ble_eq_true rfl))
  · exact xk_r (xt_out hC hE (bk_r h) (Nat.le_of_ble_eq_true rfl) (Nat.le_of_ble_eq_true rfl))
theorem c_X13_load (l : Launch) (hls : l.stackTraces = false) {S : mS} {a0 : Nat} {a1 : Int32} {a2 : Int32} {o : Rs Int32} (h : f_X13_load S a0 a1 a2 = some o) : CT (fun r : Int32 => some (.int r)) l yX13_load (.code yX13_load cX13_load 4 (Option.some Jvm.ClassFile.FieldType.int)) rm_X13_load S [.ref a0, .int a1, .int a2] o := ct_of (by decide +kernel) hls (Nat.le_of_ble_eq_true rfl) (fun C hl hC hE => t_X13_load hls hC hl hE h)
abbrev rm_X13_isNoRecord : Room := { frames := 10, cells := 0, slots := 0, locals := 192 }
def f_X13_isNoRecord_25  (S : mS) (s0 : Nat) (s1 : Int32) : Option (Rs Int32) :=
  gd (gK S s0 = 19) (bd (f_X13_isWrong S s0 s1) fun x2 S3 => gd (x2 = 0 ∨ x2 = 1) (some (.inl x2, S3)))
set_option maxHeartbeats 2000000 in
set_option maxRecDepth 100000 in
theorem t_X13_isNoRecord_25 {l : Launch} (hls : l.stackTraces = false) {C : cT} (hC : CX C cX13_isNoRecord 2 yX13_isNoRecord rm_X13_isNoRecord) (hl : C.2.1 = l) {S0 : mS} (hE : CE C S0 (Option.some Jvm.ClassFile.FieldType.boolean) []) {o : Rs Int32} {S : mS} {s0 : Nat} {s1 : Int32} (h : f_X13_isNoRecord_25  S s0 s1 = some o) : XX C 2 (QQ C (fun r : Int32 => some (.int r)) S0 o) (0) (0) S 25 [] [.int s1, .ref s0] := by
  unfold f_X13_isNoRecord_25 at h
  obtain ⟨g1, h⟩ := gd_some h
  obtain ⟨o4, ho4, h⟩ := bd_some h
  refine x_callV (pc := 25) (As := [.int s1]) (rest := []) hC hl (c_X13_isWrong l hls ho4) lk_RX13_68 fc_19 g1 dX13_isNoRecord_25 rfl rfl (Nat.le_of_ble_eq_true rfl) ⟨Nat.le_of_ble_eq_true rfl, Nat.le_of_ble_eq_true rfl⟩ ⟨(Nat.le_of_ble_eq_true rfl), (Nat.le_of_ble_eq_true rfl)⟩ ?_
  rcases o4 with ⟨x2 | E5, S3⟩
  · refine xk_i ?_
    replace h := bk_l h
    obtain ⟨g6, h⟩ := gd_some h
    exact x_zreturn (pc := 28) hC hE dX13_isNoRecord_28 (nf_B g6).1 (so h) (Nat.le_of_ble_eq_true rfl) (Nat.le_of_ble_eq_true rfl)
  · exact xk_r (xt_out hC hE (bk_r h) (Nat.le_of_ble_eq_true rfl) (Nat.le_of_ble_eq_true rfl))
def f_X13_isNoRecord (S : mS) (a0 : Nat) (a1 : Int32) : Option (Rs Int32) :=
  bd (f_X13_isDeck S a1) fun x1 S2 => if x1 = 0 then (f_X13_isNoRecord_25  S2 a0 (1 : Int32)) else (gd (gK S2 a0 = 19) (bd (f_X13_isEmpty S2 a0 a1) fun x6 S7 => if x6 = 0 then (f_X13_isNoRecord_25  S7 a0 (0 : Int32)) else (f_X13_isNoRecord_25  S7 a0 (2 : Int32))))
set_option maxHeartbeats 2000000 in
set_option maxRecDepth 100000 in
theorem t_X13_isNoRecord {l : Launch} (hls : l.stackTraces = false) {C : cT} (hC : CX C cX13_isNoRecord 2 yX13_isNoRecord rm_X13_isNoRecord) (hl : C.2.1 = l) {S0 : mS} (hE : CE C S0 (Option.some Jvm.ClassFile.FieldType.boolean) []) {o : Rs Int32} {S : mS} {a0 : Nat} {a1 : Int32} (h : f_X13_isNoRecord S a0 a1 = some o) : XX C 2 (QQ C (fun r : Int32 => some (.int r)) S0 o) 0 0 S 0 [(0, .ref a0), (1, .int a1)] [] := by
  unfold f_X13_isNoRecord at h
  refine x_aload_n (pc := 0) hC 0 dX13_isNoRecord_0 rfl rfl ?_
  refine x_iload_n (pc := 1) hC 1 dX13_isNoRecord_1 rfl rfl ?_
  obtain ⟨o3, ho3, h⟩ := bd_some h
  refine x_callS (pc := 2) (As := [.int a1]) (rest := [.ref a0]) hC hl (c_X13_isDeck l hls ho3) lk_RX13_121 dX13_isNoRecord_2 rfl rfl (Nat.le_of_ble_eq_true rfl) ⟨Nat.le_of_ble_eq_true rfl, Nat.le_of_ble_eq_true rfl⟩ ⟨(Nat.le_of_ble_eq_true rfl), (Nat.le_of_ble_eq_true rfl)⟩ ?_
  rcases o3 with ⟨x1 | E4, S2⟩
  · refine xk_i ?_
    replace h := bk_l h
    refine x_if_ne (pc := 5) hC 12 dX13_isNoRecord_5 (by decide) (fun c11 => ?_) (fun c11 => ?_)
    · rw [if_neg c11] at h
      refine x_aload_n (pc := 12) hC 0 dX13_isNoRecord_12 rfl rfl ?_
      refine x_iload_n (pc := 13) hC 1 dX13_isNoRecord_13 rfl rfl ?_
      obtain ⟨g5, h⟩ := gd_some h
      obtain ⟨o8, ho8, h⟩ := bd_some h
      refine x_callV (pc := 14) (As := [.int a1]) (rest := [.ref a0]) hC hl (c_X13_isEmpty l hls ho8) lk_RX13_133 fc_19 g5 dX13_isNoRecord_14 rfl rfl (Nat.le_of_ble_eq_true rfl) ⟨Nat.le_of_ble_eq_true rfl, Nat.le_of_ble_eq_true rfl⟩ ⟨(Nat.le_of_ble_eq_true rfl), (Nat.le_of_ble_eq_true rfl)⟩ ?_
      rcases o8 with ⟨x6 | E9, S7⟩
      · refine xk_i ?_
        replace h := bk_l h
        refine x_if_eq (pc := 17) hC 24 dX13_isNoRecord_17 (by decide) (fun c10 => ?_) (fun c10 => ?_)
        · rw [if_pos c10] at h
          refine x_iconst (pc := 24) (v := (0 : Int32)) hC dX13_isNoRecord_24 (by decide) ?_
          refine x_pick [] rfl ?_
          exact t_X13_isNoRecord_25 hls hC hl hE h
        · rw [if_neg c10] at h
          refine x_iconst (pc := 20) (v := (2 : Int32)) hC dX13_isNoRecord_20 (by decide) ?_
          refine x_goto (pc := 21) hC 25 dX13_isNoRecord_21 (by decide) ?_
          refine x_pick [] rfl ?_
          exact t_X13_isNoRecord_25 hls hC hl hE h
      · exact xk_r (xt_out hC hE (bk_r h) (Nat.le_of_ble_eq_true rfl) (Nat.le_of_ble_eq_true rfl))
    · rw [if_pos c11] at h
      refine x_iconst (pc := 8) (v := (1 : Int32)) hC dX13_isNoRecord_8 (by decide) ?_
      refine x_goto (pc := 9) hC 25 dX13_isNoRecord_9 (by decide) ?_
      refine x_pick [] rfl ?_
      exact t_X13_isNoRecord_25 hls hC hl hE h
  · exact xk_r (xt_out hC hE (bk_r h) (Nat.le_of_ble_eq_true rfl) (Nat.le_of_ble_eq_true rfl))
theorem c_X13_isNoRecord (l : Launch) (hls : l.stackTraces = false) {S : mS} {a0 : Nat} {a1 : Int32} {o : Rs Int32} (h : f_X13_isNoRecord S a0 a1 = some o) : CT (fun r : Int32 => some (.int r)) l yX13_isNoRecord (.code yX13_isNoRecord cX13_isNoRecord 2 (Option.some Jvm.ClassFile.FieldType.boolean)) rm_X13_isNoRecord S [.ref a0, .int a1] o := ct_of (by decide +kernel) hls (Nat.le_of_ble_eq_true rfl) (fun C hl hC hE => t_X13_isNoRecord hls hC hl hE h)
abbrev rm_X13_play : Room := { frames := 11, cells := 0, slots := 0, locals := 213 }
def f_X13_play (S : mS) (a0 : Nat) (a1 : Int32) : Option (Rs Int32) :=
  gd (gK S a0 = 19) (bd (f_X13_isNoRecord S a0 a1) fun x2 S3 => if x2 = 0 then (gd (gK S3 a0 = 19) (bd (f_X13_logs S3 a0) fun _ S8 => gd (gK S8 a0 = 19) (lt9 (gR S8 a0 2) fun r12 => gd (gK S8 r12 = 37) (gd (¬ (a1 < 0 ∨ gZ S8 r12 ≤ (a1).toNatClampNeg)) (lt9 (gR S8 r12 (a1).toNatClampNeg) fun r16 => gd (gK S8 r16 = 17) (bd (f_X11_begins S8 r16) fun x18 S19 => gd (x18 = 0 ∨ x18 = 1) (some (.inl x18, S19)))))))) else (some (.inl (0 : Int32), S3)))
set_option maxHeartbeats 2000000 in
set_option maxRecDepth 100000 in
theorem t_X13_play {l : Launch} (hls : l.stackTraces = false) {C : cT} (hC : CX C cX13_play 2 yX13_play rm_X13_play) (hl : C.2.1 = l) {S0 : mS} (hE : CE C S0 (Option.some Jvm.ClassFile.FieldType.boolean) []) {o : Rs Int32} {S : mS} {a0 : Nat} {a1 : Int32} (h : f_X13_play S a0 a1 = some o) : XX C 2 (QQ C (fun r : Int32 => some (.int r)) S0 o) 0 0 S 0 [(0, .ref a0), (1, .int a1)] [] := by
  unfold f_X13_play at h
  refine x_aload_n (pc := 0) hC 0 dX13_play_0 rfl rfl ?_
  refine x_iload_n (pc := 1) hC 1 dX13_play_1 rfl rfl ?_
  obtain ⟨g1, h⟩ := gd_some h
  obtain ⟨o4, ho4, h⟩ := bd_some h
  refine x_callV (pc := 2) (As := [.int a1]) (rest := []) hC hl (c_X13_isNoRecord l hls ho4) lk_RX13_136 fc_19 g1 dX13_play_2 rfl rfl (Nat.le_of_ble_eq_true rfl) ⟨Nat.le_of_ble_eq_true rfl, Nat.le_of_ble_eq_true rfl⟩ ⟨(Nat.le_of_ble_eq_true rfl), (Nat.le_of_ble_eq_true rfl)⟩ ?_
  rcases o4 with ⟨x2 | E5, S3⟩
  · refine xk_i ?_
    replace h := bk_l h
    refine x_if_eq (pc := 5) hC 10 dX13_play_5 (by decide) (fun c23 => ?_) (fun c23 => ?_)
    · rw [if_pos c23] at h
      refine x_aload_n (pc := 10) hC 0 dX13_play_10 rfl rfl ?_
      obtain ⟨g6, h⟩ := gd_some h
      obtain ⟨o9, ho9, h⟩ := bd_some h
      refine x_callV (pc := 11) (As := []) (rest := []) hC hl (c_X13_logs l hls ho9) lk_RX13_81 fc_19 g6 dX13_play_11 rfl rfl (Nat.le_of_ble_eq_true rfl) ⟨Nat.le_of_ble_eq_true rfl, Nat.le_of_ble_eq_true rfl⟩ ⟨(Nat.le_of_ble_eq_true rfl), (Nat.le_of_ble_eq_true rfl)⟩ ?_
      rcases o9 with ⟨_ | E10, S8⟩
      · refine xk_v ?_
        replace h := bk_l h
        refine x_aload_n (pc := 14) hC 0 dX13_play_14 rfl rfl ?_
        obtain ⟨g11, h⟩ := gd_some h
        refine x_getRv (pc := 15) (k := 2) hC fc_19 fl_RX13_19 dX13_play_15 rfl g11 (fun r12 hr12 => ?_)
        replace h := lt_x hr12 h
        refine x_iload_n (pc := 18) hC 1 dX13_play_18 rfl rfl ?_
        obtain ⟨g15, h⟩ := gd_some h
        obtain ⟨g14, h⟩ := gd_some h
        refine x_raldv (pc := 19) (t0 := 7) hC dX13_play_19 g15 (by decide) (fun _ => rfl) g14 (fun r16 hr16 => ?_)
        replace h := lt_x hr16 h
        obtain ⟨g17, h⟩ := gd_some h
        obtain ⟨o20, ho20, h⟩ := bd_some h
        refine x_callV (pc := 20) (As := []) (rest := []) hC hl (c_X11_begins l hls ho20) lk_RX13_139 fc_17 g17 dX13_play_20 rfl rfl (Nat.le_of_ble_eq_true rfl) ⟨Nat.le_of_ble_eq_true rfl, Nat.le_of_ble_eq_true rfl⟩ ⟨(Nat.le_of_ble_eq_true rfl), (Nat.le_of_ble_eq_true rfl)⟩ ?_
        rcases o20 with ⟨x18 | E21, S19⟩
        · refine xk_i ?_
          replace h := bk_l h
          obtain ⟨g22, h⟩ := gd_some h
          exact x_zreturn (pc := 23) hC hE dX13_play_23 (nf_B g22).1 (so h) (Nat.le_of_ble_eq_true rfl) (Nat.le_of_ble_eq_true rfl)
        · exact xk_r (xt_out hC hE (bk_r h) (Nat.le_of_ble_eq_true rfl) (Nat.le_of_ble_eq_true rfl))
      · exact xk_r (xt_out hC hE (bk_r h) (Nat.le_of_ble_eq_true rfl) (Nat.le_of_ble_eq_true rfl))
    · rw [if_neg c23] at h
      refine x_iconst (pc := 8) (v := (0 : Int32)) hC dX13_play_8 (by decide) ?_
      exact x_zreturn (pc := 9) hC hE dX13_play_9 (show NF .boolean _ from ⟨rfl, rfl⟩).1 (so h) (Nat.le_of_ble_eq_true rfl) (Nat.le_of_ble_eq_true rfl)
  · exact xk_r (xt_out hC hE (bk_r h) (Nat.le_of_ble_eq_true rfl) (Nat.le_of_ble_eq_true rfl))
theorem c_X13_play (l : Launch) (hls : l.stackTraces = false) {S : mS} {a0 : Nat} {a1 : Int32} {o : Rs Int32} (h : f_X13_play S a0 a1 = some o) : CT (fun r : Int32 => some (.int r)) l yX13_play (.code yX13_play cX13_play 2 (Option.some Jvm.ClassFile.FieldType.boolean)) rm_X13_play S [.ref a0, .int a1] o := ct_of (by decide +kernel) hls (Nat.le_of_ble_eq_true rfl) (fun C hl hC hE => t_X13_play hls hC hl hE h)
abbrev rm_X13_stop : Room := { frames := 10, cells := 0, slots := 0, locals := 192 }
def f_X13_stop_13  (S : mS) (a0 : Nat) (a1 : Int32) (s0 : Nat) (s1 : Int32) : Option (Rs Int32) :=
  gd (gK S s0 = 19) (bd (f_X13_isWrong S s0 s1) fun x2 S3 => if x2 = 0 then (gd (gK S3 a0 = 19) (lt9 (gR S3 a0 2) fun r7 => gd (gK S3 r7 = 37) (gd (¬ (a1 < 0 ∨ gZ S3 r7 ≤ (a1).toNatClampNeg)) (lt9 (gR S3 r7 (a1).toNatClampNeg) fun r11 => gd (gK S3 r11 = 17) (lt9 (gI S3 r11 13) fun x13 => lt9 (gR S3 a0 2) fun r14 => gd (gK S3 r14 = 37) (gd (¬ (a1 < 0 ∨ gZ S3 r14 ≤ (a1).toNatClampNeg)) (lt9 (gR S3 r14 (a1).toNatClampNeg) fun r18 => gd (gK S3 r18 = 17) (bd (f_X11_stands S3 r18) fun _ S21 => gd (gK S21 a0 = 19) (bd (f_X13_logs S21 a0) fun _ S26 => gd (x13 = 0 ∨ x13 = 1) (some (.inl x13, S26))))))))))) else (some (.inl (0 : Int32), S3)))
set_option maxHeartbeats 2000000 in
set_option maxRecDepth 100000 in
theorem t_X13_stop_13 {l : Launch} (hls : l.stackTraces = false) {C : cT} (hC : CX C cX13_stop 3 yX13_stop rm_X13_stop) (hl : C.2.1 = l) {S0 : mS} (hE : CE C S0 (Option.some Jvm.ClassFile.FieldType.boolean) []) {o : Rs Int32} {S : mS} {a0 : Nat} {a1 : Int32} {s0 : Nat} {s1 : Int32} (h : f_X13_stop_13  S a0 a1 s0 s1 = some o) : XX C 3 (QQ C (fun r : Int32 => some (.int r)) S0 o) (0) (0) S 13 [(0, .ref a0), (1, .int a1)] [.int s1, .ref s0] := by
  unfold f_X13_stop_13 at h
  obtain ⟨g1, h⟩ := gd_some h
  obtain ⟨o4, ho4, h⟩ := bd_some h
  refine x_callV (pc := 13) (As := [.int s1]) (rest := []) hC hl (c_X13_isWrong l hls ho4) lk_RX13_68 fc_19 g1 dX13_stop_13 rfl rfl (Nat.le_of_ble_eq_true rfl) ⟨Nat.le_of_ble_eq_true rfl, Nat.le_of_ble_eq_true rfl⟩ ⟨(Nat.le_of_ble_eq_true rfl), (Nat.le_of_ble_eq_true rfl)⟩ ?_
  rcases o4 with ⟨x2 | E5, S3⟩
  · refine xk_i ?_
    replace h := bk_l h
    refine x_if_eq (pc := 16) hC 21 dX13_stop_16 (by decide) (fun c30 => ?_) (fun c30 => ?_)
    · rw [if_pos c30] at h
      refine x_aload_n (pc := 21) hC 0 dX13_stop_21 rfl rfl ?_
      obtain ⟨g6, h⟩ := gd_some h
      refine x_getRv (pc := 22) (k := 2) hC fc_19 fl_RX13_19 dX13_stop_22 rfl g6 (fun r7 hr7 => ?_)
      replace h := lt_x hr7 h
      refine x_iload_n (pc := 25) hC 1 dX13_stop_25 rfl rfl ?_
      obtain ⟨g10, h⟩ := gd_some h
      obtain ⟨g9, h⟩ := gd_some h
      refine x_raldv (pc := 26) (t0 := 7) hC dX13_stop_26 g10 (by decide) (fun _ => rfl) g9 (fun r11 hr11 => ?_)
      replace h := lt_x hr11 h
      obtain ⟨g12, h⟩ := gd_some h
      refine x_getIv (pc := 27) (k := 13) hC fc_17 fl_RX13_124 dX13_stop_27 rfl g12 (fun x13 hx13 => ?_)
      replace h := lt_x hx13 h
      refine x_istore_n (pc := 30) hC dX13_stop_30 rfl (by decide) (by decide) rfl ?_
      refine x_aload_n (pc := 31) hC 1 dX13_stop_31 rfl rfl ?_
      refine x_getRv (pc := 32) (k := 2) hC fc_19 fl_RX13_19 dX13_stop_32 rfl g6 (fun r14 hr14 => ?_)
      replace h := lt_x hr14 h
      refine x_iload_n (pc := 35) hC 2 dX13_stop_35 rfl rfl ?_
      obtain ⟨g17, h⟩ := gd_some h
      obtain ⟨g16, h⟩ := gd_some h
      refine x_raldv (pc := 36) (t0 := 7) hC dX13_stop_36 g17 (by decide) (fun _ => rfl) g16 (fun r18 hr18 => ?_)
      replace h := lt_x hr18 h
      obtain ⟨g19, h⟩ := gd_some h
      obtain ⟨o22, ho22, h⟩ := bd_some h
      refine x_callV (pc := 37) (As := []) (rest := []) hC hl (c_X11_stands l hls ho22) lk_RX13_143 fc_17 g19 dX13_stop_37 rfl rfl (Nat.le_of_ble_eq_true rfl) ⟨Nat.le_of_ble_eq_true rfl, Nat.le_of_ble_eq_true rfl⟩ ⟨(Nat.le_of_ble_eq_true rfl), (Nat.le_of_ble_eq_true rfl)⟩ ?_
      rcases o22 with ⟨_ | E23, S21⟩
      · refine xk_v ?_
        replace h := bk_l h
        refine x_aload_n (pc := 40) hC 1 dX13_stop_40 rfl rfl ?_
        obtain ⟨g24, h⟩ := gd_some h
        obtain ⟨o27, ho27, h⟩ := bd_some h
        refine x_callV (pc := 41) (As := []) (rest := []) hC hl (c_X13_logs l hls ho27) lk_RX13_81 fc_19 g24 dX13_stop_41 rfl rfl (Nat.le_of_ble_eq_true rfl) ⟨Nat.le_of_ble_eq_true rfl, Nat.le_of_ble_eq_true rfl⟩ ⟨(Nat.le_of_ble_eq_true rfl), (Nat.le_of_ble_eq_true rfl)⟩ ?_
        rcases o27 with ⟨_ | E28, S26⟩
        · refine xk_v ?_
          replace h := bk_l h
          refine x_iload_n (pc := 44) hC 0 dX13_stop_44 rfl rfl ?_
          obtain ⟨g29, h⟩ := gd_some h
          exact x_zreturn (pc := 45) hC hE dX13_stop_45 (nf_B g29).1 (so h) (Nat.le_of_ble_eq_true rfl) (Nat.le_of_ble_eq_true rfl)
        · exact xk_r (xt_out hC hE (bk_r h) (Nat.le_of_ble_eq_true rfl) (Nat.le_of_ble_eq_true rfl))
      · exact xk_r (xt_out hC hE (bk_r h) (Nat.le_of_ble_eq_true rfl) (Nat.le_of_ble_eq_true rfl))
    · rw [if_neg c30] at h
      refine x_iconst (pc := 19) (v := (0 : Int32)) hC dX13_stop_19 (by decide) ?_
      exact x_zreturn (pc := 20) hC hE dX13_stop_20 (show NF .boolean _ from ⟨rfl, rfl⟩).1 (so h) (Nat.le_of_ble_eq_true rfl) (Nat.le_of_ble_eq_true rfl)
  · exact xk_r (xt_out hC hE (bk_r h) (Nat.le_of_ble_eq_true rfl) (Nat.le_of_ble_eq_true rfl))
def f_X13_stop (S : mS) (a0 : Nat) (a1 : Int32) : Option (Rs Int32) :=
  bd (f_X13_isDeck S a1) fun x1 S2 => if x1 = 0 then (f_X13_stop_13  S2 a0 a1 a0 (1 : Int32)) else (f_X13_stop_13  S2 a0 a1 a0 (0 : Int32))
set_option maxHeartbeats 2000000 in
set_option maxRecDepth 100000 in
theorem t_X13_stop {l : Launch} (hls : l.stackTraces = false) {C : cT} (hC : CX C cX13_stop 3 yX13_stop rm_X13_stop) (hl : C.2.1 = l) {S0 : mS} (hE : CE C S0 (Option.some Jvm.ClassFile.FieldType.boolean) []) {o : Rs Int32} {S : mS} {a0 : Nat} {a1 : Int32} (h : f_X13_stop S a0 a1 = some o) : XX C 3 (QQ C (fun r : Int32 => some (.int r)) S0 o) 0 0 S 0 [(0, .ref a0), (1, .int a1)] [] := by
  unfold f_X13_stop at h
  refine x_aload_n (pc := 0) hC 0 dX13_stop_0 rfl rfl ?_
  refine x_iload_n (pc := 1) hC 1 dX13_stop_1 rfl rfl ?_
  obtain ⟨o3, ho3, h⟩ := bd_some h
  refine x_callS (pc := 2) (As := [.int a1]) (rest := [.ref a0]) hC hl (c_X13_isDeck l hls ho3) lk_RX13_121 dX13_stop_2 rfl rfl (Nat.le_of_ble_eq_true rfl) ⟨Nat.le_of_ble_eq_true rfl, Nat.le_of_ble_eq_true rfl⟩ ⟨(Nat.le_of_ble_eq_true rfl), (Nat.le_of_ble_eq_true rfl)⟩ ?_
  rcases o3 with ⟨x1 | E4, S2⟩
  · refine xk_i ?_
    replace h := bk_l h
    refine x_if_eq (pc := 5) hC 12 dX13_stop_5 (by decide) (fun c5 => ?_) (fun c5 => ?_)
    · rw [if_pos c5] at h
      refine x_iconst (pc := 12) (v := (1 : Int32)) hC dX13_stop_12 (by decide) ?_
      refine x_pick [0, 1] rfl ?_
      exact t_X13_stop_13 hls hC hl hE h
    · rw [if_neg c5] at h
      refine x_iconst (pc := 8) (v := (0 : Int32)) hC dX13_stop_8 (by decide) ?_
      refine x_goto (pc := 9) hC 13 dX13_stop_9 (by decide) ?_
      refine x_pick [0, 1] rfl ?_
      exact t_X13_stop_13 hls hC hl hE h
  · exact xk_r (xt_out hC hE (bk_r h) (Nat.le_of_ble_eq_true rfl) (Nat.le_of_ble_eq_true rfl))
theorem c_X13_stop (l : Launch) (hls : l.stackTraces = false) {S : mS} {a0 : Nat} {a1 : Int32} {o : Rs Int32} (h : f_X13_stop S a0 a1 = some o) : CT (fun r : Int32 => some (.int r)) l yX13_stop (.code yX13_stop cX13_stop 3 (Option.some Jvm.ClassFile.FieldType.boolean)) rm_X13_stop S [.ref a0, .int a1] o := ct_of (by decide +kernel) hls (Nat.le_of_ble_eq_true rfl) (fun C hl hC hE => t_X13_stop hls hC hl hE h)
abbrev rm_X13_setPitch : Room := { frames := 10, cells := 0, slots := 0, locals := 192 }
def f_X13_setPitch_30  (S : mS) (a0 : Nat) (a1 : Int32) (a2 : Int32) (s0 : Nat) (s1 : Int32) : Option (Rs Int32) :=
  gd (gK S s0 = 19) (bd (f_X13_isWrong S s0 s1) fun x2 S3 => if x2 = 0 then (gd (gK S3 a0 = 19) (lt9 (gR S3 a0 2) fun r7 => gd (gK S3 r7 = 37) (gd (¬ (a1 < 0 ∨ gZ S3 r7 ≤ (a1).toNatClampNeg)) (lt9 (gR S3 r7 (a1).toNatClampNeg) fun r11 => gd (gK S3 r11 = 17) (lt9 (gI S3 r11 2) fun x13 => lt9 (gR S3 a0 2) fun r14 => gd (gK S3 r14 = 37) (gd (¬ (a1 < 0 ∨ gZ S3 r14 ≤ (a1).toNatClampNeg)) (lt9 (gR S3 r14 (a1).toNatClampNeg) fun r18 => gd (gK S3 r18 = 17) (zI (sI S3 r18 2 a2) fun S20 => bd (f_X13_logs S20 a0) fun _ S27 => some (.inl x13, S27))))))))) else (some (.inl (0 : Int32), S3)))
set_option maxHeartbeats 2000000 in
set_option maxRecDepth 100000 in
theorem t_X13_setPitch_30 {l : Launch} (hls : l.stackTraces = false) {C : cT} (hC : CX C cX13_setPitch 4 yX13_setPitch rm_X13_setPitch) (hl : C.2.1 = l) {S0 : mS} (hE : CE C S0 (Option.some Jvm.ClassFile.FieldType.int) []) {o : Rs Int32} {S : mS} {a0 : Nat} {a1 : Int32} {a2 : Int32} {s0 : Nat} {s1 : Int32} (h : f_X13_setPitch_30  S a0 a1 a2 s0 s1 = some o) : XX C 4 (QQ C (fun r : Int32 => some (.int r)) S0 o) (0) (0) S 30 [(0, .ref a0), (1, .int a1), (2, .int a2)] [.int s1, .ref s0] := by
  unfold f_X13_setPitch_30 at h
  obtain ⟨g1, h⟩ := gd_some h
  obtain ⟨o4, ho4, h⟩ := bd_some h
  refine x_callV (pc := 30) (As := [.int s1]) (rest := []) hC hl (c_X13_isWrong l hls ho4) lk_RX13_68 fc_19 g1 dX13_setPitch_30 rfl rfl (Nat.le_of_ble_eq_true rfl) ⟨Nat.le_of_ble_eq_true rfl, Nat.le_of_ble_eq_true rfl⟩ ⟨(Nat.le_of_ble_eq_true rfl), (Nat.le_of_ble_eq_true rfl)⟩ ?_
  rcases o4 with ⟨x2 | E5, S3⟩
  · refine xk_i ?_
    replace h := bk_l h
    refine x_if_eq (pc := 33) hC 38 dX13_setPitch_33 (by decide) (fun c30 => ?_) (fun c30 => ?_)
    · rw [if_pos c30] at h
      refine x_aload_n (pc := 38) hC 0 dX13_setPitch_38 rfl rfl ?_
      obtain ⟨g6, h⟩ := gd_some h
      refine x_getRv (pc := 39) (k := 2) hC fc_19 fl_RX13_19 dX13_setPitch_39 rfl g6 (fun r7 hr7 => ?_)
      replace h := lt_x hr7 h
      refine x_iload_n (pc := 42) hC 1 dX13_setPitch_42 rfl rfl ?_
      obtain ⟨g10, h⟩ := gd_some h
      obtain ⟨g9, h⟩ := gd_some h
      refine x_raldv (pc := 43) (t0 := 7) hC dX13_setPitch_43 g10 (by decide) (fun _ => rfl) g9 (fun r11 hr11 => ?_)
      replace h := lt_x hr11 h
      obtain ⟨g12, h⟩ := gd_some h
      refine x_getIv (pc := 44) (k := 2) hC fc_17 fl_RX13_146 dX13_setPitch_44 rfl g12 (fun x13 hx13 => ?_)
      replace h := lt_x hx13 h
      refine x_istore_n (pc := 47) hC dX13_setPitch_47 rfl (by decide) (by decide) rfl ?_
      refine x_aload_n (pc := 48) hC 1 dX13_setPitch_48 rfl rfl ?_
      refine x_getRv (pc := 49) (k := 2) hC fc_19 fl_RX13_19 dX13_setPitch_49 rfl g6 (fun r14 hr14 => ?_)
      replace h := lt_x hr14 h
      refine x_iload_n (pc := 52) hC 2 dX13_setPitch_52 rfl rfl ?_
      obtain ⟨g17, h⟩ := gd_some h
      obtain ⟨g16, h⟩ := gd_some h
      refine x_raldv (pc := 53) (t0 := 7) hC dX13_setPitch_53 g17 (by decide) (fun _ => rfl) g16 (fun r18 hr18 => ?_)
      replace h := lt_x hr18 h
      refine x_iload_n (pc := 54) hC 3 dX13_setPitch_54 rfl rfl ?_
      obtain ⟨g19, h⟩ := gd_some h
      refine x_putIv (pc := 55) (k := 2) hC fc_17 fl_RX13_146 dX13_setPitch_55 rfl rfl (nf_int _) g19 (fun S20 hS20 => ?_)
      replace h := zI_x hS20 h
      have g21 : gK S20 a0 = 19 := by rw [hS20]; exact g6
      have g22 : gK S20 r7 = 37 := by rw [hS20]; exact g10
      have g23 : gK S20 r11 = 17 := by rw [hS20]; exact g12
      have g24 : gK S20 r14 = 37 := by rw [hS20]; exact g17
      have g25 : gK S20 r18 = 17 := by rw [hS20]; exact g19
      refine x_aload_n (pc := 58) hC 1 dX13_setPitch_58 rfl rfl ?_
      obtain ⟨o28, ho28, h⟩ := bd_some h
      refine x_callV (pc := 59) (As := []) (rest := []) hC hl (c_X13_logs l hls ho28) lk_RX13_81 fc_19 g21 dX13_setPitch_59 rfl rfl (Nat.le_of_ble_eq_true rfl) ⟨Nat.le_of_ble_eq_true rfl, Nat.le_of_ble_eq_true rfl⟩ ⟨(Nat.le_of_ble_eq_true rfl), (Nat.le_of_ble_eq_true rfl)⟩ ?_
      rcases o28 with ⟨_ | E29, S27⟩
      · refine xk_v ?_
        replace h := bk_l h
        refine x_iload_n (pc := 62) hC 0 dX13_setPitch_62 rfl rfl ?_
        exact x_ireturn (pc := 63) hC hE dX13_setPitch_63 (so h) (Nat.le_of_ble_eq_true rfl) (Nat.le_of_ble_eq_true rfl)
      · exact xk_r (xt_out hC hE (bk_r h) (Nat.le_of_ble_eq_true rfl) (Nat.le_of_ble_eq_true rfl))
    · rw [if_neg c30] at h
      refine x_iconst (pc := 36) (v := (0 : Int32)) hC dX13_setPitch_36 (by decide) ?_
      exact x_ireturn (pc := 37) hC hE dX13_setPitch_37 (so h) (Nat.le_of_ble_eq_true rfl) (Nat.le_of_ble_eq_true rfl)
  · exact xk_r (xt_out hC hE (bk_r h) (Nat.le_of_ble_eq_true rfl) (Nat.le_of_ble_eq_true rfl))
def f_X13_setPitch (S : mS) (a0 : Nat) (a1 : Int32) (a2 : Int32) : Option (Rs Int32) :=
  bd (f_X13_isDeck S a1) fun x1 S2 => if x1 = 0 then (f_X13_setPitch_30  S2 a0 a1 a2 a0 (1 : Int32)) else (bd (f_X13_isBetween S2 a2 (-160 : Int32) (160 : Int32)) fun x5 S6 => if x5 = 0 then (f_X13_setPitch_30  S6 a0 a1 a2 a0 (2 : Int32)) else (f_X13_setPitch_30  S6 a0 a1 a2 a0 (0 : Int32)))
set_option maxHeartbeats 2000000 in
set_option maxRecDepth 100000 in
theorem t_X13_setPitch {l : Launch} (hls : l.stackTraces = false) {C : cT} (hC : CX C cX13_setPitch 4 yX13_setPitch rm_X13_setPitch) (hl : C.2.1 = l) {S0 : mS} (hE : CE C S0 (Option.some Jvm.ClassFile.FieldType.int) []) {o : Rs Int32} {S : mS} {a0 : Nat} {a1 : Int32} {a2 : Int32} (h : f_X13_setPitch S a0 a1 a2 = some o) : XX C 4 (QQ C (fun r : Int32 => some (.int r)) S0 o) 0 0 S 0 [(0, .ref a0), (1, .int a1), (2, .int a2)] [] := by
  unfold f_X13_setPitch at h
  refine x_aload_n (pc := 0) hC 0 dX13_setPitch_0 rfl rfl ?_
  refine x_iload_n (pc := 1) hC 1 dX13_setPitch_1 rfl rfl ?_
  obtain ⟨o3, ho3, h⟩ := bd_some h
  refine x_callS (pc := 2) (As := [.int a1]) (rest := [.ref a0]) hC hl (c_X13_isDeck l hls ho3) lk_RX13_121 dX13_setPitch_2 rfl rfl (Nat.le_of_ble_eq_true rfl) ⟨Nat.le_of_ble_eq_true rfl, Nat.le_of_ble_eq_true rfl⟩ ⟨(Nat.le_of_ble_eq_true rfl), (Nat.le_of_ble_eq_true rfl)⟩ ?_
  rcases o3 with ⟨x1 | E4, S2⟩
  · refine xk_i ?_
    replace h := bk_l h
    refine x_if_ne (pc := 5) hC 12 dX13_setPitch_5 (by decide) (fun c10 => ?_) (fun c10 => ?_)
    · rw [if_neg c10] at h
      refine x_iload_n (pc := 12) hC 2 dX13_setPitch_12 rfl rfl ?_
      refine x_sipush (pc := 13) (v := (-160 : Int32)) hC dX13_setPitch_13 (by decide) ?_
      refine x_sipush (pc := 16) (v := (160 : Int32)) hC dX13_setPitch_16 (by decide) ?_
      obtain ⟨o7, ho7, h⟩ := bd_some h
      refine x_callS (pc := 19) (As := [.int a2, .int (-160 : Int32), .int (160 : Int32)]) (rest := [.ref a0]) hC hl (c_X13_isBetween l hls ho7) lk_RX13_50 dX13_setPitch_19 rfl rfl (Nat.le_of_ble_eq_true rfl) ⟨Nat.le_of_ble_eq_true rfl, Nat.le_of_ble_eq_true rfl⟩ ⟨(Nat.le_of_ble_eq_true rfl), (Nat.le_of_ble_eq_true rfl)⟩ ?_
      rcases o7 with ⟨x5 | E8, S6⟩
      · refine xk_i ?_
        replace h := bk_l h
        refine x_if_ne (pc := 22) hC 29 dX13_setPitch_22 (by decide) (fun c9 => ?_) (fun c9 => ?_)
        · rw [if_neg c9] at h
          refine x_iconst (pc := 29) (v := (0 : Int32)) hC dX13_setPitch_29 (by decide) ?_
          refine x_pick [0, 1, 2] rfl ?_
          exact t_X13_setPitch_30 hls hC hl hE h
        · rw [if_pos c9] at h
          refine x_iconst (pc := 25) (v := (2 : Int32)) hC dX13_setPitch_25 (by decide) ?_
          refine x_goto (pc := 26) hC 30 dX13_setPitch_26 (by decide) ?_
          refine x_pick [0, 1, 2] rfl ?_
          exact t_X13_setPitch_30 hls hC hl hE h
      · exact xk_r (xt_out hC hE (bk_r h) (Nat.le_of_ble_eq_true rfl) (Nat.le_of_ble_eq_true rfl))
    · rw [if_pos c10] at h
      refine x_iconst (pc := 8) (v := (1 : Int32)) hC dX13_setPitch_8 (by decide) ?_
      refine x_goto (pc := 9) hC 30 dX13_setPitch_9 (by decide) ?_
      refine x_pick [0, 1, 2] rfl ?_
      exact t_X13_setPitch_30 hls hC hl hE h
  · exact xk_r (xt_out hC hE (bk_r h) (Nat.le_of_ble_eq_true rfl) (Nat.le_of_ble_eq_true rfl))
theorem c_X13_setPitch (l : Launch) (hls : l.stackTraces = false) {S : mS} {a0 : Nat} {a1 : Int32} {a2 : Int32} {o : Rs Int32} (h : f_X13_setPitch S a0 a1 a2 = some o) : CT (fun r : Int32 => some (.int r)) l yX13_setPitch (.code yX13_setPitch cX13_setPitch 4 (Option.some Jvm.ClassFile.FieldType.int)) rm_X13_setPitch S [.ref a0, .int a1, .int a2] o := ct_of (by decide +kernel) hls (Nat.le_of_ble_eq_true rfl) (fun C hl hC hE => t_X13_setPitch hls hC hl hE h)
abbrev rm_X13_nudge : Room := { frames := 10, cells := 0, slots := 0, locals := 192 }
def f_X13_nudge_42  (S : mS) (a0 : Nat) (a1 : Int32) (a2 : Int32) (s0 : Nat) (s1 : Int32) : Option (Rs Int32) :=
  gd (gK S s0 = 19) (bd (f_X13_isWrong S s0 s1) fun x2 S3 => if x2 = 0 then (gd (gK S3 a0 = 19) (lt9 (gR S3 a0 2) fun r7 => gd (gK S3 r7 = 37) (gd (¬ (a1 < 0 ∨ gZ S3 r7 ≤ (a1).toNatClampNeg)) (lt9 (gR S3 r7 (a1).toNatClampNeg) fun r11 => gd (gK S3 r11 = 17) (lt9 (gI S3 r11 3) fun x13 => lt9 (gR S3 a0 2) fun r14 => gd (gK S3 r14 = 37) (gd (¬ (a1 < 0 ∨ gZ S3 r14 ≤ (a1).toNatClampNeg)) (lt9 (gR S3 r14 (a1).toNatClampNeg) fun r18 => gd (gK S3 r18 = 17) (zI (sI S3 r18 3 a2) fun S20 => bd (f_X13_logs S20 a0) fun _ S27 => some (.inl x13, S27))))))))) else (some (.inl (0 : Int32), S3)))
set_option maxHeartbeats 2000000 in
set_option maxRecDepth 100000 in
theorem t_X13_nudge_42 {l : Launch} (hls : l.stackTraces = false) {C : cT} (hC : CX C cX13_nudge 4 yX13_nudge rm_X13_nudge) (hl : C.2.1 = l) {S0 : mS} (hE : CE C S0 (Option.some Jvm.ClassFile.FieldType.int) []) {o : Rs Int32} {S : mS} {a0 : Nat} {a1 : Int32} {a2 : Int32} {s0 : Nat} {s1 : Int32} (h : f_X13_nudge_42  S a0 a1 a2 s0 s1 = some o) : XX C 4 (QQ C (fun r : Int32 => some (.int r)) S0 o) (0) (0) S 42 [(0, .ref a0), (1, .int a1), (2, .int a2)] [.int s1, .ref s0] := by
  unfold f_X13_nudge_42 at h
  obtain ⟨g1, h⟩ := gd_some h
  obtain ⟨o4, ho4, h⟩ := bd_some h
  refine x_callV (pc := 42) (As := [.int s1]) (rest := []) hC hl (c_X13_isWrong l hls ho4) lk_RX13_68 fc_19 g1 dX13_nudge_42 rfl rfl (Nat.le_of_ble_eq_true rfl) ⟨Nat.le_of_ble_eq_true rfl, Nat.le_of_ble_eq_true rfl⟩ ⟨(Nat.le_of_ble_eq_true rfl), (Nat.le_of_ble_eq_true rfl)⟩ ?_
  rcases o4 with ⟨x2 | E5, S3⟩
  · refine xk_i ?_
    replace h := bk_l h
    refine x_if_eq (pc := 45) hC 50 dX13_nudge_45 (by decide) (fun c30 => ?_) (fun c30 => ?_)
    · rw [if_pos c30] at h
      refine x_aload_n (pc := 50) hC 0 dX13_nudge_50 rfl rfl ?_
      obtain ⟨g6, h⟩ := gd_some h
      refine x_getRv (pc := 51) (k := 2) hC fc_19 fl_RX13_19 dX13_nudge_51 rfl g6 (fun r7 hr7 => ?_)
      replace h := lt_x hr7 h
      refine x_iload_n (pc := 54) hC 1 dX13_nudge_54 rfl rfl ?_
      obtain ⟨g10, h⟩ := gd_some h
      obtain ⟨g9, h⟩ := gd_some h
      refine x_raldv (pc := 55) (t0 := 7) hC dX13_nudge_55 g10 (by decide) (fun _ => rfl) g9 (fun r11 hr11 => ?_)
      replace h := lt_x hr11 h
      obtain ⟨g12, h⟩ := gd_some h
      refine x_getIv (pc := 56) (k := 3) hC fc_17 fl_RX13_149 dX13_nudge_56 rfl g12 (fun x13 hx13 => ?_)
      replace h := lt_x hx13 h
      refine x_istore_n (pc := 59) hC dX13_nudge_59 rfl (by decide) (by decide) rfl ?_
      refine x_aload_n (pc := 60) hC 1 dX13_nudge_60 rfl rfl ?_
      refine x_getRv (pc := 61) (k := 2) hC fc_19 fl_RX13_19 dX13_nudge_61 rfl g6 (fun r14 hr14 => ?_)
      replace h := lt_x hr14 h
      refine x_iload_n (pc := 64) hC 2 dX13_nudge_64 rfl rfl ?_
      obtain ⟨g17, h⟩ := gd_some h
      obtain ⟨g16, h⟩ := gd_some h
      refine x_raldv (pc := 65) (t0 := 7) hC dX13_nudge_65 g17 (by decide) (fun _ => rfl) g16 (fun r18 hr18 => ?_)
      replace h := lt_x hr18 h
      refine x_iload_n (pc := 66) hC 3 dX13_nudge_66 rfl rfl ?_
      obtain ⟨g19, h⟩ := gd_some h
      refine x_putIv (pc := 67) (k := 3) hC fc_17 fl_RX13_149 dX13_nudge_67 rfl rfl (nf_int _) g19 (fun S20 hS20 => ?_)
      replace h := zI_x hS20 h
      have g21 : gK S20 a0 = 19 := by rw [hS20]; exact g6
      have g22 : gK S20 r7 = 37 := by rw [hS20]; exact g10
      have g23 : gK S20 r11 = 17 := by rw [hS20]; exact g12
      have g24 : gK S20 r14 = 37 := by rw [hS20]; exact g17
      have g25 : gK S20 r18 = 17 := by rw [hS20]; exact g19
      refine x_aload_n (pc := 70) hC 1 dX13_nudge_70 rfl rfl ?_
      obtain ⟨o28, ho28, h⟩ := bd_some h
      refine x_callV (pc := 71) (As := []) (rest := []) hC hl (c_X13_logs l hls ho28) lk_RX13_81 fc_19 g21 dX13_nudge_71 rfl rfl (Nat.le_of_ble_eq_true rfl) ⟨Nat.le_of_ble_eq_true rfl, Nat.le_of_ble_eq_true rfl⟩ ⟨(Nat.le_of_ble_eq_true rfl), (Nat.le_of_ble_eq_true rfl)⟩ ?_
      rcases o28 with ⟨_ | E29, S27⟩
      · refine xk_v ?_
        replace h := bk_l h
        refine x_iload_n (pc := 74) hC 0 dX13_nudge_74 rfl rfl ?_
        exact x_ireturn (pc := 75) hC hE dX13_nudge_75 (so h) (Nat.le_of_ble_eq_true rfl) (Nat.le_of_ble_eq_true rfl)
      · exact xk_r (xt_out hC hE (bk_r h) (Nat.le_of_ble_eq_true rfl) (Nat.le_of_ble_eq_true rfl))
    · rw [if_neg c30] at h
      refine x_iconst (pc := 48) (v := (0 : Int32)) hC dX13_nudge_48 (by decide) ?_
      exact x_ireturn (pc := 49) hC hE dX13_nudge_49 (so h) (Nat.le_of_ble_eq_true rfl) (Nat.le_of_ble_eq_true rfl)
  · exact xk_r (xt_out hC hE (bk_r h) (Nat.le_of_ble_eq_true rfl) (Nat.le_of_ble_eq_true rfl))
def f_X13_nudge (S : mS) (a0 : Nat) (a1 : Int32) (a2 : Int32) : Option (Rs Int32) :=
  bd (f_X13_isDeck S a1) fun x1 S2 => if x1 = 0 then (f_X13_nudge_42  S2 a0 a1 a2 a0 (1 : Int32)) else (bd (f_X13_isBetween S2 a2 (-200 : Int32) (200 : Int32)) fun x5 S6 => if x5 = 0 then (f_X13_nudge_42  S6 a0 a1 a2 a0 (2 : Int32)) else (gd (gK S6 a0 = 19) (bd (f_X13_isEmpty S6 a0 a1) fun x10 S11 => if x10 = 0 then (f_X13_nudge_42  S11 a0 a1 a2 a0 (0 : Int32)) else (f_X13_nudge_42  S11 a0 a1 a2 a0 (3 : Int32)))))
set_option maxHeartbeats 2000000 in
set_option maxRecDepth 100000 in
theorem t_X13_nudge {l : Launch} (hls : l.stackTraces = false) {C : cT} (hC : CX C cX13_nudge 4 yX13_nudge rm_X13_nudge) (hl : C.2.1 = l) {S0 : mS} (hE : CE C S0 (Option.some Jvm.ClassFile.FieldType.int) []) {o : Rs Int32} {S : mS} {a0 : Nat} {a1 : Int32} {a2 : Int32} (h : f_X13_nudge S a0 a1 a2 = some o) : XX C 4 (QQ C (fun r : Int32 => some (.int r)) S0 o) 0 0 S 0 [(0, .ref a0), (1, .int a1), (2, .int a2)] [] := by
  unfold f_X13_nudge at h
  refine x_aload_n (pc := 0) hC 0 dX13_nudge_0 rfl rfl ?_
  refine x_iload_n (pc := 1) hC 1 dX13_nudge_1 rfl rfl ?_
  obtain ⟨o3, ho3, h⟩ := bd_some h
  refine x_callS (pc := 2) (As := [.int a1]) (rest := [.ref a0]) hC hl (c_X13_isDeck l hls ho3) lk_RX13_121 dX13_nudge_2 rfl rfl (Nat.le_of_ble_eq_true rfl) ⟨Nat.le_of_ble_eq_true rfl, Nat.le_of_ble_eq_true rfl⟩ ⟨(Nat.le_of_ble_eq_true rfl), (Nat.le_of_ble_eq_true rfl)⟩ ?_
  rcases o3 with ⟨x1 | E4, S2⟩
  · refine xk_i ?_
    replace h := bk_l h
    refine x_if_ne (pc := 5) hC 12 dX13_nudge_5 (by decide) (fun c16 => ?_) (fun c16 => ?_)
    · rw [if_neg c16] at h
      refine x_iload_n (pc := 12) hC 2 dX13_nudge_12 rfl rfl ?_
      refine x_sipush (pc := 13) (v := (-200 : Int32)) hC dX13_nudge_13 (by decide) ?_
      refine x_sipush (pc := 16) (v := (200 : Int32)) hC dX13_nudge_16 (by decide) ?_
      obtain ⟨o7, ho7, h⟩ := bd_some h
      refine x_callS (pc := 19) (As := [.int a2, .int (-200 : Int32), .int (200 : Int32)]) (rest := [.ref a0]) hC hl (c_X13_isBetween l hls ho7) lk_RX13_50 dX13_nudge_19 rfl rfl (Nat.le_of_ble_eq_true rfl) ⟨Nat.le_of_ble_eq_true rfl, Nat.le_of_ble_eq_true rfl⟩ ⟨(Nat.le_of_ble_eq_true rfl), (Nat.le_of_ble_eq_true rfl)⟩ ?_
      rcases o7 with ⟨x5 | E8, S6⟩
      · refine xk_i ?_
        replace h := bk_l h
        refine x_if_ne (pc := 22) hC 29 dX13_nudge_22 (by decide) (fun c15 => ?_) (fun c15 => ?_)
        · rw [if_neg c15] at h
          refine x_aload_n (pc := 29) hC 0 dX13_nudge_29 rfl rfl ?_
          refine x_iload_n (pc := 30) hC 1 dX13_nudge_30 rfl rfl ?_
          obtain ⟨g9, h⟩ := gd_some h
          obtain ⟨o12, ho12, h⟩ := bd_some h
          refine x_callV (pc := 31) (As := [.int a1]) (rest := [.ref a0]) hC hl (c_X13_isEmpty l hls ho12) lk_RX13_133 fc_19 g9 dX13_nudge_31 rfl rfl (Nat.le_of_ble_eq_true rfl) ⟨Nat.le_of_ble_eq_true rfl, Nat.le_of_ble_eq_true rfl⟩ ⟨(Nat.le_of_ble_eq_true rfl), (Nat.le_of_ble_eq_true rfl)⟩ ?_
          rcases o12 with ⟨x10 | E13, S11⟩
          · refine xk_i ?_
            replace h := bk_l h
            refine x_if_eq (pc := 34) hC 41 dX13_nudge_34 (by decide) (fun c14 => ?_) (fun c14 => ?_)
            · rw [if_pos c14] at h
              refine x_iconst (pc := 41) (v := (0 : Int32)) hC dX13_nudge_41 (by decide) ?_
              refine x_pick [0, 1, 2] rfl ?_
              exact t_X13_nudge_42 hls hC hl hE h
            · rw [if_neg c14] at h
              refine x_iconst (pc := 37) (v := (3 : Int32)) hC dX13_nudge_37 (by decide) ?_
              refine x_goto (pc := 38) hC 42 dX13_nudge_38 (by decide) ?_
              refine x_pick [0, 1, 2] rfl ?_
              exact t_X13_nudge_42 hls hC hl hE h
          · exact xk_r (xt_out hC hE (bk_r h) (Nat.le_of_ble_eq_true rfl) (Nat.le_of_ble_eq_true rfl))
        · rw [if_pos c15] at h
          refine x_iconst (pc := 25) (v := (2 : Int32)) hC dX13_nudge_25 (by decide) ?_
          refine x_goto (pc := 26) hC 42 dX13_nudge_26 (by decide) ?_
          refine x_pick [0, 1, 2] rfl ?_
          exact t_X13_nudge_42 hls hC hl hE h
      · exact xk_r (xt_out hC hE (bk_r h) (Nat.le_of_ble_eq_true rfl) (Nat.le_of_ble_eq_true rfl))
    · rw [if_pos c16] at h
      refine x_iconst (pc := 8) (v := (1 : Int32)) hC dX13_nudge_8 (by decide) ?_
      refine x_goto (pc := 9) hC 42 dX13_nudge_9 (by decide) ?_
      refine x_pick [0, 1, 2] rfl ?_
      exact t_X13_nudge_42 hls hC hl hE h
  · exact xk_r (xt_out hC hE (bk_r h) (Nat.le_of_ble_eq_true rfl) (Nat.le_of_ble_eq_true rfl))
theorem c_X13_nudge (l : Launch) (hls : l.stackTraces = false) {S : mS} {a0 : Nat} {a1 : Int32} {a2 : Int32} {o : Rs Int32} (h : f_X13_nudge S a0 a1 a2 = some o) : CT (fun r : Int32 => some (.int r)) l yX13_nudge (.code yX13_nudge cX13_nudge 4 (Option.some Jvm.ClassFile.FieldType.int)) rm_X13_nudge S [.ref a0, .int a1, .int a2] o := ct_of (by decide +kernel) hls (Nat.le_of_ble_eq_true rfl) (fun C hl hC hE => t_X13_nudge hls hC hl hE h)
abbrev rm_X13_brake : Room := { frames := 11, cells := 0, slots := 0, locals := 213 }
def f_X13_brake_32  (S : mS) (a0 : Nat) (a1 : Int32) : Option (Rs Int32) :=
  gd (gK S a0 = 19) (bd (f_X13_logs S a0) fun _ S3 => gd (gK S3 a0 = 19) (lt9 (gR S3 a0 2) fun r7 => gd (gK S3 r7 = 37) (gd (¬ (a1 < 0 ∨ gZ S3 r7 ≤ (a1).toNatClampNeg)) (lt9 (gR S3 r7 (a1).toNatClampNeg) fun r11 => gd (gK S3 r11 = 17) (lt9 (gI S3 r11 13) fun x13 => gd (x13 = 0 ∨ x13 = 1) (some (.inl x13, S3)))))))
set_option maxHeartbeats 2000000 in
set_option maxRecDepth 100000 in
theorem t_X13_brake_32 {l : Launch} (hls : l.stackTraces = false) {C : cT} (hC : CX C cX13_brake 2 yX13_brake rm_X13_brake) (hl : C.2.1 = l) {S0 : mS} (hE : CE C S0 (Option.some Jvm.ClassFile.FieldType.boolean) []) {o : Rs Int32} {S : mS} {a0 : Nat} {a1 : Int32} (h : f_X13_brake_32  S a0 a1 = some o) : XX C 2 (QQ C (fun r : Int32 => some (.int r)) S0 o) (0) (0) S 32 [(0, .ref a0), (1, .int a1)] [] := by
  unfold f_X13_brake_32 at h
  refine x_aload_n (pc := 32) hC 0 dX13_brake_32 rfl rfl ?_
  obtain ⟨g1, h⟩ := gd_some h
  obtain ⟨o4, ho4, h⟩ := bd_some h
  refine x_callV (pc := 33) (As := []) (rest := []) hC hl (c_X13_logs l hls ho4) lk_RX13_81 fc_19 g1 dX13_brake_33 rfl rfl (Nat.le_of_ble_eq_true rfl) ⟨Nat.le_of_ble_eq_true rfl, Nat.le_of_ble_eq_true rfl⟩ ⟨(Nat.le_of_ble_eq_true rfl), (Nat.le_of_ble_eq_true rfl)⟩ ?_
  rcases o4 with ⟨_ | E5, S3⟩
  · refine xk_v ?_
    replace h := bk_l h
    refine x_aload_n (pc := 36) hC 0 dX13_brake_36 rfl rfl ?_
    obtain ⟨g6, h⟩ := gd_some h
    refine x_getRv (pc := 37) (k := 2) hC fc_19 fl_RX13_19 dX13_brake_37 rfl g6 (fun r7 hr7 => ?_)
    replace h := lt_x hr7 h
    refine x_iload_n (pc := 40) hC 1 dX13_brake_40 rfl rfl ?_
    obtain ⟨g10, h⟩ := gd_some h
    obtain ⟨g9, h⟩ := gd_some h
    refine x_raldv (pc := 41) (t0 := 7) hC dX13_brake_41 g10 (by decide) (fun _ => rfl) g9 (fun r11 hr11 => ?_)
    replace h := lt_x hr11 h
    obtain ⟨g12, h⟩ := gd_some h
    refine x_getIv (pc := 42) (k := 13) hC fc_17 fl_RX13_124 dX13_brake_42 rfl g12 (fun x13 hx13 => ?_)
    replace h := lt_x hx13 h
    obtain ⟨g14, h⟩ := gd_some h
    exact x_zreturn (pc := 45) hC hE dX13_brake_45 (nf_B g14).1 (so h) (Nat.le_of_ble_eq_true rfl) (Nat.le_of_ble_eq_true rfl)
  · exact xk_r (xt_out hC hE (bk_r h) (Nat.le_of_ble_eq_true rfl) (Nat.le_of_ble_eq_true rfl))
def f_X13_brake (S : mS) (a0 : Nat) (a1 : Int32) : Option (Rs Int32) :=
  gd (gK S a0 = 19) (bd (f_X13_isNoRecord S a0 a1) fun x2 S3 => if x2 = 0 then (gd (gK S3 a0 = 19) (lt9 (gR S3 a0 2) fun r7 => gd (gK S3 r7 = 37) (gd (¬ (a1 < 0 ∨ gZ S3 r7 ≤ (a1).toNatClampNeg)) (lt9 (gR S3 r7 (a1).toNatClampNeg) fun r11 => gd (gK S3 r11 = 17) (lt9 (gI S3 r11 13) fun x13 => if x13 = 0 then (f_X13_brake_32  S3 a0 a1) else (lt9 (gR S3 a0 2) fun r14 => gd (gK S3 r14 = 37) (gd (¬ (a1 < 0 ∨ gZ S3 r14 ≤ (a1).toNatClampNeg)) (lt9 (gR S3 r14 (a1).toNatClampNeg) fun r18 => gd (gK S3 r18 = 17) (zI (sI S3 r18 4 (0 : Int32)) fun S20 => f_X13_brake_32  S20 a0 a1))))))))) else (some (.inl (0 : Int32), S3)))
set_option maxHeartbeats 2000000 in
set_option maxRecDepth 100000 in
theorem t_X13_brake {l : Launch} (hls : l.stackTraces = false) {C : cT} (hC : CX C cX13_brake 2 yX13_brake rm_X13_brake) (hl : C.2.1 = l) {S0 : mS} (hE : CE C S0 (Option.some Jvm.ClassFile.FieldType.boolean) []) {o : Rs Int32} {S : mS} {a0 : Nat} {a1 : Int32} (h : f_X13_brake S a0 a1 = some o) : XX C 2 (QQ C (fun r : Int32 => some (.int r)) S0 o) 0 0 S 0 [(0, .ref a0), (1, .int a1)] [] := by
  unfold f_X13_brake at h
  refine x_aload_n (pc := 0) hC 0 dX13_brake_0 rfl rfl ?_
  refine x_iload_n (pc := 1) hC 1 dX13_brake_1 rfl rfl ?_
  obtain ⟨g1, h⟩ := gd_some h
  obtain ⟨o4, ho4, h⟩ := bd_some h
  refine x_callV (pc := 2) (As := [.int a1]) (rest := []) hC hl (c_X13_isNoRecord l hls ho4) lk_RX13_136 fc_19 g1 dX13_brake_2 rfl rfl (Nat.le_of_ble_eq_true rfl) ⟨Nat.le_of_ble_eq_true rfl, Nat.le_of_ble_eq_true rfl⟩ ⟨(Nat.le_of_ble_eq_true rfl), (Nat.le_of_ble_eq_true rfl)⟩ ?_
  rcases o4 with ⟨x2 | E5, S3⟩
  · refine xk_i ?_
    replace h := bk_l h
    refine x_if_eq (pc := 5) hC 10 dX13_brake_5 (by decide) (fun c27 => ?_) (fun c27 => ?_)
    · rw [if_pos c27] at h
      refine x_aload_n (pc := 10) hC 0 dX13_brake_10 rfl rfl ?_
      obtain ⟨g6, h⟩ := gd_some h
      refine x_getRv (pc := 11) (k := 2) hC fc_19 fl_RX13_19 dX13_brake_11 rfl g6 (fun r7 hr7 => ?_)
      replace h := lt_x hr7 h
      refine x_iload_n (pc := 14) hC 1 dX13_brake_14 rfl rfl ?_
      obtain ⟨g10, h⟩ := gd_some h
      obtain ⟨g9, h⟩ := gd_some h
      refine x_raldv (pc := 15) (t0 := 7) hC dX13_brake_15 g10 (by decide) (fun _ => rfl) g9 (fun r11 hr11 => ?_)
      replace h := lt_x hr11 h
      obtain ⟨g12, h⟩ := gd_some h
      refine x_getIv (pc := 16) (k := 13) hC fc_17 fl_RX13_124 dX13_brake_16 rfl g12 (fun x13 hx13 => ?_)
      replace h := lt_x hx13 h
      refine x_if_eq (pc := 19) hC 32 dX13_brake_19 (by decide) (fun c26 => ?_) (fun c26 => ?_)
      · rw [if_pos c26] at h
        refine x_pick [0, 1] rfl ?_
        exact t_X13_brake_32 hls hC hl hE h
      · rw [if_neg c26] at h
        refine x_aload_n (pc := 22) hC 0 dX13_brake_22 rfl rfl ?_
        refine x_getRv (pc := 23) (k := 2) hC fc_19 fl_RX13_19 dX13_brake_23 rfl g6 (fun r14 hr14 => ?_)
        replace h := lt_x hr14 h
        refine x_iload_n (pc := 26) hC 1 dX13_brake_26 rfl rfl ?_
        obtain ⟨g17, h⟩ := gd_some h
        obtain ⟨g16, h⟩ := gd_some h
        refine x_raldv (pc := 27) (t0 := 7) hC dX13_brake_27 g17 (by decide) (fun _ => rfl) g16 (fun r18 hr18 => ?_)
        replace h := lt_x hr18 h
        refine x_iconst (pc := 28) (v := (0 : Int32)) hC dX13_brake_28 (by decide) ?_
        obtain ⟨g19, h⟩ := gd_some h
        refine x_putIv (pc := 29) (k := 4) hC fc_17 fl_RX13_152 dX13_brake_29 rfl rfl (nf_int _) g19 (fun S20 hS20 => ?_)
        replace h := zI_x hS20 h
        have g21 : gK S20 a0 = 19 := by rw [hS20]; exact g6
        have g22 : gK S20 r7 = 37 := by rw [hS20]; exact g10
        have g23 : gK S20 r11 = 17 := by rw [hS20]; exact g12
        have g24 : gK S20 r14 = 37 := by rw [hS20]; exact g17
        have g25 : gK S20 r18 = 17 := by rw [hS20]; exact g19
        refine x_pick [0, 1] rfl ?_
        exact t_X13_brake_32 hls hC hl hE h
    · rw [if_neg c27] at h
      refine x_iconst (pc := 8) (v := (0 : Int32)) hC dX13_brake_8 (by decide) ?_
      exact x_zreturn (pc := 9) hC hE dX13_brake_9 (show NF .boolean _ from ⟨rfl, rfl⟩).1 (so h) (Nat.le_of_ble_eq_true rfl) (Nat.le_of_ble_eq_true rfl)
  · exact xk_r (xt_out hC hE (bk_r h) (Nat.le_of_ble_eq_true rfl) (Nat.le_of_ble_eq_true rfl))
theorem c_X13_brake (l : Launch) (hls : l.stackTraces = false) {S : mS} {a0 : Nat} {a1 : Int32} {o : Rs Int32} (h : f_X13_brake S a0 a1 = some o) : CT (fun r : Int32 => some (.int r)) l yX13_brake (.code yX13_brake cX13_brake 2 (Option.some Jvm.ClassFile.FieldType.boolean)) rm_X13_brake S [.ref a0, .int a1] o := ct_of (by decide +kernel) hls (Nat.le_of_ble_eq_true rfl) (fun C hl hC hE => t_X13_brake hls hC hl hE h)
abbrev rm_X13_jump : Room := { frames := 11, cells := 0, slots := 0, locals := 213 }
def f_X13_jump_42  (S : mS) : Option (Rs Int32) :=
  some (.inl (0 : Int32), S)
set_option maxHeartbeats 2000000 in
set_option maxRecDepth 100000 in
theorem t_X13_jump_42 {l : Launch} (hls : l.stackTraces = false) {C : cT} (hC : CX C cX13_jump 4 yX13_jump rm_X13_jump) (hl : C.2.1 = l) {S0 : mS} (hE : CE C S0 (Option.some Jvm.ClassFile.FieldType.int) []) {o : Rs Int32} {S : mS} (h : f_X13_jump_42  S = some o) : XX C 4 (QQ C (fun r : Int32 => some (.int r)) S0 o) (0) (0) S 42 [] [] := by
  unfold f_X13_jump_42 at h
  refine x_iconst (pc := 42) (v := (0 : Int32)) hC dX13_jump_42 (by decide) ?_
  exact x_ireturn (pc := 43) hC hE dX13_jump_43 (so h) (Nat.le_of_ble_eq_true rfl) (Nat.le_of_ble_eq_true rfl)
def f_X13_jump_36  (S : mS) (a0 : Nat) (a1 : Int32) (a2 : Int32) (s0 : Nat) (s1 : Int32) : Option (Rs Int32) :=
  gd (gK S s0 = 19) (bd (f_X13_isWrong S s0 s1) fun x2 S3 => if x2 = 0 then (gd (gK S3 a0 = 19) (lt9 (gR S3 a0 2) fun r7 => gd (gK S3 r7 = 37) (gd (¬ (a1 < 0 ∨ gZ S3 r7 ≤ (a1).toNatClampNeg)) (lt9 (gR S3 r7 (a1).toNatClampNeg) fun r11 => gd (gK S3 r11 = 17) (bd (f_X11_beat S3 r11) fun x13 S14 => gd (gK S14 a0 = 19) (lt9 (gR S14 a0 2) fun r18 => gd (gK S14 r18 = 37) (gd (¬ (a1 < 0 ∨ gZ S14 r18 ≤ (a1).toNatClampNeg)) (lt9 (gR S14 r18 (a1).toNatClampNeg) fun r22 => lt9 ((a2).toInt64) fun x23 => lt9 (x23 * (60000000 : Int64)) fun x24 => gd (gK S14 r22 = 17) (zL (sL S14 r22 9 x24) fun S26 => bd (f_X13_logs S26 a0) fun _ S31 => some (.inl x13, S31)))))))))) else (f_X13_jump_42  S3))
set_option maxHeartbeats 2000000 in
set_option maxRecDepth 100000 in
theorem t_X13_jump_36 {l : Launch} (hls : l.stackTraces = false) {C : cT} (hC : CX C cX13_jump 4 yX13_jump rm_X13_jump) (hl : C.2.1 = l) {S0 : mS} (hE : CE C S0 (Option.some Jvm.ClassFile.FieldType.int) []) {o : Rs Int32} {S : mS} {a0 : Nat} {a1 : Int32} {a2 : Int32} {s0 : Nat} {s1 : Int32} (h : f_X13_jump_36  S a0 a1 a2 s0 s1 = some o) : XX C 4 (QQ C (fun r : Int32 => some (.int r)) S0 o) (0) (0) S 36 [(0, .ref a0), (1, .int a1), (2, .int a2)] [.int s1, .ref s0] := by
  unfold f_X13_jump_36 at h
  obtain ⟨g1, h⟩ := gd_some h
  obtain ⟨o4, ho4, h⟩ := bd_some h
  refine x_callV (pc := 36) (As := [.int s1]) (rest := []) hC hl (c_X13_isWrong l hls ho4) lk_RX13_68 fc_19 g1 dX13_jump_36 rfl rfl (Nat.le_of_ble_eq_true rfl) ⟨Nat.le_of_ble_eq_true rfl, Nat.le_of_ble_eq_true rfl⟩ ⟨(Nat.le_of_ble_eq_true rfl), (Nat.le_of_ble_eq_true rfl)⟩ ?_
  rcases o4 with ⟨x2 | E5, S3⟩
  · refine xk_i ?_
    replace h := bk_l h
    refine x_if_eq (pc := 39) hC 44 dX13_jump_39 (by decide) (fun c34 => ?_) (fun c34 => ?_)
    · rw [if_pos c34] at h
      refine x_aload_n (pc := 44) hC 0 dX13_jump_44 rfl rfl ?_
      obtain ⟨g6, h⟩ := gd_some h
      refine x_getRv (pc := 45) (k := 2) hC fc_19 fl_RX13_19 dX13_jump_45 rfl g6 (fun r7 hr7 => ?_)
      replace h := lt_x hr7 h
      refine x_iload_n (pc := 48) hC 1 dX13_jump_48 rfl rfl ?_
      obtain ⟨g10, h⟩ := gd_some h
      obtain ⟨g9, h⟩ := gd_some h
      refine x_raldv (pc := 49) (t0 := 7) hC dX13_jump_49 g10 (by decide) (fun _ => rfl) g9 (fun r11 hr11 => ?_)
      replace h := lt_x hr11 h
      obtain ⟨g12, h⟩ := gd_some h
      obtain ⟨o15, ho15, h⟩ := bd_some h
      refine x_callV (pc := 50) (As := []) (rest := []) hC hl (c_X11_beat l hls ho15) lk_RX13_158 fc_17 g12 dX13_jump_50 rfl rfl (Nat.le_of_ble_eq_true rfl) ⟨Nat.le_of_ble_eq_true rfl, Nat.le_of_ble_eq_true rfl⟩ ⟨(Nat.le_of_ble_eq_true rfl), (Nat.le_of_ble_eq_true rfl)⟩ ?_
      rcases o15 with ⟨x13 | E16, S14⟩
      · refine xk_i ?_
        replace h := bk_l h
        refine x_istore_n (pc := 53) hC dX13_jump_53 rfl (by decide) (by decide) rfl ?_
        refine x_aload_n (pc := 54) hC 1 dX13_jump_54 rfl rfl ?_
        obtain ⟨g17, h⟩ := gd_some h
        refine x_getRv (pc := 55) (k := 2) hC fc_19 fl_RX13_19 dX13_jump_55 rfl g17 (fun r18 hr18 => ?_)
        replace h := lt_x hr18 h
        refine x_iload_n (pc := 58) hC 2 dX13_jump_58 rfl rfl ?_
        obtain ⟨g21, h⟩ := gd_some h
        obtain ⟨g20, h⟩ := gd_some h
        refine x_raldv (pc := 59) (t0 := 7) hC dX13_jump_59 g21 (by decide) (fun _ => rfl) g20 (fun r22 hr22 => ?_)
        replace h := lt_x hr22 h
        refine x_iload_n (pc := 60) hC 3 dX13_jump_60 rfl rfl ?_
        refine x_i2lv (pc := 61) hC dX13_jump_61 (fun x23 hx23 => ?_)
        replace h := lt_x hx23 h
        refine x_ldc2 (pc := 62) hC wm_1968 dX13_jump_62 ?_
        refine x_lmulv (pc := 65) hC dX13_jump_65 (fun x24 hx24 => ?_)
        replace h := lt_x hx24 h
        obtain ⟨g25, h⟩ := gd_some h
        refine x_putLv (pc := 66) (k := 9) hC fc_17 fl_RX13_163 dX13_jump_66 rfl rfl rfl g25 (fun S26 hS26 => ?_)
        replace h := zL_x hS26 h
        have g27 : gK S26 a0 = 19 := by rw [hS26]; exact g17
        have g28 : gK S26 r18 = 37 := by rw [hS26]; exact g21
        have g29 : gK S26 r22 = 17 := by rw [hS26]; exact g25
        refine x_aload_n (pc := 69) hC 1 dX13_jump_69 rfl rfl ?_
        obtain ⟨o32, ho32, h⟩ := bd_some h
        refine x_callV (pc := 70) (As := []) (rest := []) hC hl (c_X13_logs l hls ho32) lk_RX13_81 fc_19 g27 dX13_jump_70 rfl rfl (Nat.le_of_ble_eq_true rfl) ⟨Nat.le_of_ble_eq_true rfl, Nat.le_of_ble_eq_true rfl⟩ ⟨(Nat.le_of_ble_eq_true rfl), (Nat.le_of_ble_eq_true rfl)⟩ ?_
        rcases o32 with ⟨_ | E33, S31⟩
        · refine xk_v ?_
          replace h := bk_l h
          refine x_iload_n (pc := 73) hC 0 dX13_jump_73 rfl rfl ?_
          exact x_ireturn (pc := 74) hC hE dX13_jump_74 (so h) (Nat.le_of_ble_eq_true rfl) (Nat.le_of_ble_eq_true rfl)
        · exact xk_r (xt_out hC hE (bk_r h) (Nat.le_of_ble_eq_true rfl) (Nat.le_of_ble_eq_true rfl))
      · exact xk_r (xt_out hC hE (bk_r h) (Nat.le_of_ble_eq_true rfl) (Nat.le_of_ble_eq_true rfl))
    · rw [if_neg c34] at h
      refine x_pick [] rfl ?_
      exact t_X13_jump_42 hls hC hl hE h
  · exact xk_r (xt_out hC hE (bk_r h) (Nat.le_of_ble_eq_true rfl) (Nat.le_of_ble_eq_true rfl))
def f_X13_jump (S : mS) (a0 : Nat) (a1 : Int32) (a2 : Int32) : Option (Rs Int32) :=
  gd (gK S a0 = 19) (bd (f_X13_isNoRecord S a0 a1) fun x2 S3 => if x2 = 0 then (gd (gK S3 a0 = 19) (lt9 (gR S3 a0 2) fun r7 => gd (gK S3 r7 = 37) (gd (¬ (a1 < 0 ∨ gZ S3 r7 ≤ (a1).toNatClampNeg)) (lt9 (gR S3 r7 (a1).toNatClampNeg) fun r11 => gd (gK S3 r11 = 17) (lt9 (gR S3 r11 0) fun r13 => gd (gK S3 r13 = 18) (lt9 (gI S3 r13 0) fun x15 => lt9 (x15 - (1 : Int32)) fun x16 => bd (f_X13_isBetween S3 a2 (0 : Int32) x16) fun x17 S18 => if x17 = 0 then (f_X13_jump_36  S18 a0 a1 a2 a0 (3 : Int32)) else (f_X13_jump_36  S18 a0 a1 a2 a0 (0 : Int32)))))))) else (f_X13_jump_42  S3))
set_option maxHeartbeats 2000000 in
set_option maxRecDepth 100000 in
theorem t_X13_jump {l : Launch} (hls : l.stackTraces = false) {C : cT} (hC : CX C cX13_jump 4 yX13_jump rm_X13_jump) (hl : C.2.1 = l) {S0 : mS} (hE : CE C S0 (Option.some Jvm.ClassFile.FieldType.int) []) {o : Rs Int32} {S : mS} {a0 : Nat} {a1 : Int32} {a2 : Int32} (h : f_X13_jump S a0 a1 a2 = some o) : XX C 4 (QQ C (fun r : Int32 => some (.int r)) S0 o) 0 0 S 0 [(0, .ref a0), (1, .int a1), (2, .int a2)] [] := by
  unfold f_X13_jump at h
  refine x_aload_n (pc := 0) hC 0 dX13_jump_0 rfl rfl ?_
  refine x_iload_n (pc := 1) hC 1 dX13_jump_1 rfl rfl ?_
  obtain ⟨g1, h⟩ := gd_some h
  obtain ⟨o4, ho4, h⟩ := bd_some h
  refine x_callV (pc := 2) (As := [.int a1]) (rest := []) hC hl (c_X13_isNoRecord l hls ho4) lk_RX13_136 fc_19 g1 dX13_jump_2 rfl rfl (Nat.le_of_ble_eq_true rfl) ⟨Nat.le_of_ble_eq_true rfl, Nat.le_of_ble_eq_true rfl⟩ ⟨(Nat.le_of_ble_eq_true rfl), (Nat.le_of_ble_eq_true rfl)⟩ ?_
  rcases o4 with ⟨x2 | E5, S3⟩
  · refine xk_i ?_
    replace h := bk_l h
    refine x_if_ne (pc := 5) hC 42 dX13_jump_5 (by decide) (fun c22 => ?_) (fun c22 => ?_)
    · rw [if_neg c22] at h
      refine x_pick [] rfl ?_
      exact t_X13_jump_42 hls hC hl hE h
    · rw [if_pos c22] at h
      refine x_aload_n (pc := 8) hC 0 dX13_jump_8 rfl rfl ?_
      refine x_iload_n (pc := 9) hC 2 dX13_jump_9 rfl rfl ?_
      refine x_iconst (pc := 10) (v := (0 : Int32)) hC dX13_jump_10 (by decide) ?_
      refine x_aload_n (pc := 11) hC 0 dX13_jump_11 rfl rfl ?_
      obtain ⟨g6, h⟩ := gd_some h
      refine x_getRv (pc := 12) (k := 2) hC fc_19 fl_RX13_19 dX13_jump_12 rfl g6 (fun r7 hr7 => ?_)
      replace h := lt_x hr7 h
      refine x_iload_n (pc := 15) hC 1 dX13_jump_15 rfl rfl ?_
      obtain ⟨g10, h⟩ := gd_some h
      obtain ⟨g9, h⟩ := gd_some h
      refine x_raldv (pc := 16) (t0 := 7) hC dX13_jump_16 g10 (by decide) (fun _ => rfl) g9 (fun r11 hr11 => ?_)
      replace h := lt_x hr11 h
      obtain ⟨g12, h⟩ := gd_some h
      refine x_getRv (pc := 17) (k := 0) hC fc_17 fl_RX13_60 dX13_jump_17 rfl g12 (fun r13 hr13 => ?_)
      replace h := lt_x hr13 h
      obtain ⟨g14, h⟩ := gd_some h
      refine x_getIv (pc := 20) (k := 0) hC fc_18 fl_RX13_155 dX13_jump_20 rfl g14 (fun x15 hx15 => ?_)
      replace h := lt_x hx15 h
      refine x_iconst (pc := 23) (v := (1 : Int32)) hC dX13_jump_23 (by decide) ?_
      refine x_isubv (pc := 24) hC dX13_jump_24 (fun x16 hx16 => ?_)
      replace h := lt_x hx16 h
      obtain ⟨o19, ho19, h⟩ := bd_some h
      refine x_callS (pc := 25) (As := [.int a2, .int (0 : Int32), .int x16]) (rest := [.ref a0]) hC hl (c_X13_isBetween l hls ho19) lk_RX13_50 dX13_jump_25 rfl rfl (Nat.le_of_ble_eq_true rfl) ⟨Nat.le_of_ble_eq_true rfl, Nat.le_of_ble_eq_true rfl⟩ ⟨(Nat.le_of_ble_eq_true rfl), (Nat.le_of_ble_eq_true rfl)⟩ ?_
      rcases o19 with ⟨x17 | E20, S18⟩
      · refine xk_i ?_
        replace h := bk_l h
        refine x_if_eq (pc := 28) hC 35 dX13_jump_28 (by decide) (fun c21 => ?_) (fun c21 => ?_)
        · rw [if_pos c21] at h
          refine x_iconst (pc := 35) (v := (3 : Int32)) hC dX13_jump_35 (by decide) ?_
          refine x_pick [0, 1, 2] rfl ?_
          exact t_X13_jump_36 hls hC hl hE h
        · rw [if_neg c21] at h
          refine x_iconst (pc := 31) (v := (0 : Int32)) hC dX13_jump_31 (by decide) ?_
          refine x_goto (pc := 32) hC 36 dX13_jump_32 (by decide) ?_
          refine x_pick [0, 1, 2] rfl ?_
          exact t_X13_jump_36 hls hC hl hE h
      · exact xk_r (xt_out hC hE (bk_r h) (Nat.le_of_ble_eq_true rfl) (Nat.le_of_ble_eq_true rfl))
  · exact xk_r (xt_out hC hE (bk_r h) (Nat.le_of_ble_eq_true rfl) (Nat.le_of_ble_eq_true rfl))
theorem c_X13_jump (l : Launch) (hls : l.stackTraces = false) {S : mS} {a0 : Nat} {a1 : Int32} {a2 : Int32} {o : Rs Int32} (h : f_X13_jump S a0 a1 a2 = some o) : CT (fun r : Int32 => some (.int r)) l yX13_jump (.code yX13_jump cX13_jump 4 (Option.some Jvm.ClassFile.FieldType.int)) rm_X13_jump S [.ref a0, .int a1, .int a2] o := ct_of (by decide +kernel) hls (Nat.le_of_ble_eq_true rfl) (fun C hl hC hE => t_X13_jump hls hC hl hE h)
abbrev rm_X13_nearest : Room := { frames := 9, cells := 0, slots := 0, locals := 173 }
def f_X13_nearest (S : mS) (a0 : Nat) : Option (Rs Int32) :=
  gd (gK S a0 = 17) (lt9 (gL S a0 9) fun x2 => lt9 (x2 + (30000000 : Int64)) fun x3 => gd (¬ (60000000 : Int64) = 0) (lt9 (x3 / (60000000 : Int64)) fun x4 => lt9 (gR S a0 0) fun r6 => gd (gK S r6 = 18) (lt9 (gI S r6 0) fun x8 => lt9 (x8 - (1 : Int32)) fun x9 => lt9 ((x9).toInt64) fun x10 => lt9 (if x10 < x4 then x10 else x4) fun x11 => lt9 ((x11).toInt32) fun x12 => some (.inl x12, S))))
set_option maxHeartbeats 2000000 in
set_option maxRecDepth 100000 in
theorem t_X13_nearest {l : Launch} (hls : l.stackTraces = false) {C : cT} (hC : CX C cX13_nearest 1 yX13_nearest rm_X13_nearest) (hl : C.2.1 = l) {S0 : mS} (hE : CE C S0 (Option.some Jvm.ClassFile.FieldType.int) []) {o : Rs Int32} {S : mS} {a0 : Nat} (h : f_X13_nearest S a0 = some o) : XX C 1 (QQ C (fun r : Int32 => some (.int r)) S0 o) 0 0 S 0 [(0, .ref a0)] [] := by
  unfold f_X13_nearest at h
  refine x_aload_n (pc := 0) hC 0 dX13_nearest_0 rfl rfl ?_
  obtain ⟨g1, h⟩ := gd_some h
  refine x_getLv (pc := 1) (k := 9) hC fc_17 fl_RX13_163 dX13_nearest_1 rfl g1 (fun x2 hx2 => ?_)
  replace h := lt_x hx2 h
  refine x_ldc2 (pc := 4) hC wm_1976 dX13_nearest_4 ?_
  refine x_laddv (pc := 7) hC dX13_nearest_7 (fun x3 hx3 => ?_)
  replace h := lt_x hx3 h
  refine x_ldc2 (pc := 8) hC wm_1968 dX13_nearest_8 ?_
  obtain ⟨g5, h⟩ := gd_some h
  refine x_ldivv (pc := 11) hC dX13_nearest_11 g5 (fun x4 hx4 => ?_)
  replace h := lt_x hx4 h
  refine x_aload_n (pc := 12) hC 0 dX13_nearest_12 rfl rfl ?_
  refine x_getRv (pc := 13) (k := 0) hC fc_17 fl_RX13_60 dX13_nearest_13 rfl g1 (fun r6 hr6 => ?_)
  replace h := lt_x hr6 h
  obtain ⟨g7, h⟩ := gd_some h
  refine x_getIv (pc := 16) (k := 0) hC fc_18 fl_RX13_155 dX13_nearest_16 rfl g7 (fun x8 hx8 => ?_)
  replace h := lt_x hx8 h
  refine x_iconst (pc := 19) (v := (1 : Int32)) hC dX13_nearest_19 (by decide) ?_
  refine x_isubv (pc := 20) hC dX13_nearest_20 (fun x9 hx9 => ?_)
  replace h := lt_x hx9 h
  refine x_i2lv (pc := 21) hC dX13_nearest_21 (fun x10 hx10 => ?_)
  replace h := lt_x hx10 h
  refine x_mmin_long (pc := 22) hC wm_1977 wm_561 wm_69 wm_562 dX13_nearest_22 (Nat.le_of_ble_eq_true rfl) (Nat.le_of_ble_eq_true rfl) (Nat.le_of_ble_eq_true rfl) (Nat.le_of_ble_eq_true rfl) (fun x11 hx11 => ?_)
  replace h := lt_x hx11 h
  refine x_l2iv (pc := 25) hC dX13_nearest_25 (fun x12 hx12 => ?_)
  replace h := lt_x hx12 h
  exact x_ireturn (pc := 26) hC hE dX13_nearest_26 (so h) (Nat.le_of_ble_eq_true rfl) (Nat.le_of_ble_eq_true rfl)
theorem c_X13_nearest (l : Launch) (hls : l.stackTraces = false) {S : mS} {a0 : Nat} {o : Rs Int32} (h : f_X13_nearest S a0 = some o) : CT (fun r : Int32 => some (.int r)) l yX13_nearest (.code yX13_nearest cX13_nearest 1 (Option.some Jvm.ClassFile.FieldType.int)) rm_X13_nearest S [.ref a0] o := ct_of (by decide +kernel) hls (Nat.le_of_ble_eq_true rfl) (fun C hl hC hE => t_X13_nearest hls hC hl hE h)
abbrev rm_X13_setCue : Room := { frames := 10, cells := 0, slots := 0, locals := 193 }
def f_X13_setCue_38  (S : mS) (a0 : Nat) (a1 : Int32) (a2 : Int32) (s0 : Nat) (s1 : Int32) : Option (Rs Int32) :=
  gd (gK S s0 = 19) (bd (f_X13_isWrong S s0 s1) fun x2 S3 => if x2 = 0 then (gd (gK S3 a0 = 19) (lt9 (gR S3 a0 2) fun r7 => gd (gK S3 r7 = 37) (gd (¬ (a1 < 0 ∨ gZ S3 r7 ≤ (a1).toNatClampNeg)) (lt9 (gR S3 r7 (a1).toNatClampNeg) fun r11 => bd (f_X13_nearest S3 r11) fun x12 S13 => gd (gK S13 a0 = 19) (lt9 (gR S13 a0 2) fun r17 => gd (gK S13 r17 = 37) (gd (¬ (a1 < 0 ∨ gZ S13 r17 ≤ (a1).toNatClampNeg)) (lt9 (gR S13 r17 (a1).toNatClampNeg) fun r21 => gd (gK S13 r21 = 17) (lt9 (gR S13 r21 7) fun r23 => gd (gK S13 r23 = 30) (gd (¬ (a2 < 0 ∨ gZ S13 r23 ≤ (a2).toNatClampNeg)) (zI (sI S13 r23 (a2).toNatClampNeg x12) fun S26 => bd (f_X13_logs S26 a0) fun _ S32 => some (.inl x12, S32))))))))))) else (some (.inl (0 : Int32), S3)))
set_option maxHeartbeats 2000000 in
set_option maxRecDepth 100000 in
theorem t_X13_setCue_38 {l : Launch} (hls : l.stackTraces = false) {C : cT} (hC : CX C cX13_setCue 4 yX13_setCue rm_X13_setCue) (hl : C.2.1 = l) {S0 : mS} (hE : CE C S0 (Option.some Jvm.ClassFile.FieldType.int) []) {o : Rs Int32} {S : mS} {a0 : Nat} {a1 : Int32} {a2 : Int32} {s0 : Nat} {s1 : Int32} (h : f_X13_setCue_38  S a0 a1 a2 s0 s1 = some o) : XX C 4 (QQ C (fun r : Int32 => some (.int r)) S0 o) (0) (0) S 38 [(0, .ref a0), (1, .int a1), (2, .int a2)] [.int s1, .ref s0] := by
  unfold f_X13_setCue_38 at h
  obtain ⟨g1, h⟩ := gd_some h
  obtain ⟨o4, ho4, h⟩ := bd_some h
  refine x_callV (pc := 38) (As := [.int s1]) (rest := []) hC hl (c_X13_isWrong l hls ho4) lk_RX13_68 fc_19 g1 dX13_setCue_38 rfl rfl (Nat.le_of_ble_eq_true rfl) ⟨Nat.le_of_ble_eq_true rfl, Nat.le_of_ble_eq_true rfl⟩ ⟨(Nat.le_of_ble_eq_true rfl), (Nat.le_of_ble_eq_true rfl)⟩ ?_
  rcases o4 with ⟨x2 | E5, S3⟩
  · refine xk_i ?_
    replace h := bk_l h
    refine x_if_eq (pc := 41) hC 46 dX13_setCue_41 (by decide) (fun c35 => ?_) (fun c35 => ?_)
    · rw [if_pos c35] at h
      refine x_aload_n (pc := 46) hC 0 dX13_setCue_46 rfl rfl ?_
      obtain ⟨g6, h⟩ := gd_some h
      refine x_getRv (pc := 47) (k := 2) hC fc_19 fl_RX13_19 dX13_setCue_47 rfl g6 (fun r7 hr7 => ?_)
      replace h := lt_x hr7 h
      refine x_iload_n (pc := 50) hC 1 dX13_setCue_50 rfl rfl ?_
      obtain ⟨g10, h⟩ := gd_some h
      obtain ⟨g9, h⟩ := gd_some h
      refine x_raldv (pc := 51) (t0 := 7) hC dX13_setCue_51 g10 (by decide) (fun _ => rfl) g9 (fun r11 hr11 => ?_)
      replace h := lt_x hr11 h
      obtain ⟨o14, ho14, h⟩ := bd_some h
      refine x_callS (pc := 52) (As := [.ref r11]) (rest := []) hC hl (c_X13_nearest l hls ho14) lk_RX13_172 dX13_setCue_52 rfl rfl (Nat.le_of_ble_eq_true rfl) ⟨Nat.le_of_ble_eq_true rfl, Nat.le_of_ble_eq_true rfl⟩ ⟨(Nat.le_of_ble_eq_true rfl), (Nat.le_of_ble_eq_true rfl)⟩ ?_
      rcases o14 with ⟨x12 | E15, S13⟩
      · refine xk_i ?_
        replace h := bk_l h
        refine x_istore_n (pc := 55) hC dX13_setCue_55 rfl (by decide) (by decide) rfl ?_
        refine x_aload_n (pc := 56) hC 1 dX13_setCue_56 rfl rfl ?_
        obtain ⟨g16, h⟩ := gd_some h
        refine x_getRv (pc := 57) (k := 2) hC fc_19 fl_RX13_19 dX13_setCue_57 rfl g16 (fun r17 hr17 => ?_)
        replace h := lt_x hr17 h
        refine x_iload_n (pc := 60) hC 2 dX13_setCue_60 rfl rfl ?_
        obtain ⟨g20, h⟩ := gd_some h
        obtain ⟨g19, h⟩ := gd_some h
        refine x_raldv (pc := 61) (t0 := 7) hC dX13_setCue_61 g20 (by decide) (fun _ => rfl) g19 (fun r21 hr21 => ?_)
        replace h := lt_x hr21 h
        obtain ⟨g22, h⟩ := gd_some h
        refine x_getRv (pc := 62) (k := 7) hC fc_17 fl_RX13_176 dX13_setCue_62 rfl g22 (fun r23 hr23 => ?_)
        replace h := lt_x hr23 h
        refine x_iload_n (pc := 65) hC 3 dX13_setCue_65 rfl rfl ?_
        refine x_iload_n (pc := 66) hC 0 dX13_setCue_66 rfl rfl ?_
        obtain ⟨g25, h⟩ := gd_some h
        obtain ⟨g24, h⟩ := gd_some h
        refine x_iastv (pc := 67) hC dX13_setCue_67 g25 g24 (fun S26 hS26 => ?_)
        replace h := zI_x hS26 h
        have g27 : gK S26 a0 = 19 := by rw [hS26]; exact g16
        have g28 : gK S26 r17 = 37 := by rw [hS26]; exact g20
        have g29 : gK S26 r21 = 17 := by rw [hS26]; exact g22
        have g30 : gK S26 r23 = 30 := by rw [hS26]; exact g25
        refine x_aload_n (pc := 68) hC 1 dX13_setCue_68 rfl rfl ?_
        obtain ⟨o33, ho33, h⟩ := bd_some h
        refine x_callV (pc := 69) (As := []) (rest := []) hC hl (c_X13_logs l hls ho33) lk_RX13_81 fc_19 g27 dX13_setCue_69 rfl rfl (Nat.le_of_ble_eq_true rfl) ⟨Nat.le_of_ble_eq_true rfl, Nat.le_of_ble_eq_true rfl⟩ ⟨(Nat.le_of_ble_eq_true rfl), (Nat.le_of_ble_eq_true rfl)⟩ ?_
        rcases o33 with ⟨_ | E34, S32⟩
        · refine xk_v ?_
          replace h := bk_l h
          refine x_iload_n (pc := 72) hC 0 dX13_setCue_72 rfl rfl ?_
          exact x_ireturn (pc := 73) hC hE dX13_setCue_73 (so h) (Nat.le_of_ble_eq_true rfl) (Nat.le_of_ble_eq_true rfl)
        · exact xk_r (xt_out hC hE (bk_r h) (Nat.le_of_ble_eq_true rfl) (Nat.le_of_ble_eq_true rfl))
      · exact xk_r (xt_out hC hE (bk_r h) (Nat.le_of_ble_eq_true rfl) (Nat.le_of_ble_eq_true rfl))
    · rw [if_neg c35] at h
      refine x_iconst (pc := 44) (v := (0 : Int32)) hC dX13_setCue_44 (by decide) ?_
      exact x_ireturn (pc := 45) hC hE dX13_setCue_45 (so h) (Nat.le_of_ble_eq_true rfl) (Nat.le_of_ble_eq_true rfl)
  · exact xk_r (xt_out hC hE (bk_r h) (Nat.le_of_ble_eq_true rfl) (Nat.le_of_ble_eq_true rfl))
def f_X13_setCue (S : mS) (a0 : Nat) (a1 : Int32) (a2 : Int32) : Option (Rs Int32) :=
  bd (f_X13_isDeck S a1) fun x1 S2 => if x1 = 0 then (f_X13_setCue_38  S2 a0 a1 a2 a0 (1 : Int32)) else (bd (f_X13_isBetween S2 a2 (0 : Int32) (3 : Int32)) fun x5 S6 => if x5 = 0 then (f_X13_setCue_38  S6 a0 a1 a2 a0 (2 : Int32)) else (gd (gK S6 a0 = 19) (bd (f_X13_isEmpty S6 a0 a1) fun x10 S11 => if x10 = 0 then (f_X13_setCue_38  S11 a0 a1 a2 a0 (0 : Int32)) else (f_X13_setCue_38  S11 a0 a1 a2 a0 (3 : Int32)))))
set_option maxHeartbeats 2000000 in
set_option maxRecDepth 100000 in
theorem t_X13_setCue {l : Launch} (hls : l.stackTraces = false) {C : cT} (hC : CX C cX13_setCue 4 yX13_setCue rm_X13_setCue) (hl : C.2.1 = l) {S0 : mS} (hE : CE C S0 (Option.some Jvm.ClassFile.FieldType.int) []) {o : Rs Int32} {S : mS} {a0 : Nat} {a1 : Int32} {a2 : Int32} (h : f_X13_setCue S a0 a1 a2 = some o) : XX C 4 (QQ C (fun r : Int32 => some (.int r)) S0 o) 0 0 S 0 [(0, .ref a0), (1, .int a1), (2, .int a2)] [] := by
  unfold f_X13_setCue at h
  refine x_aload_n (pc := 0) hC 0 dX13_setCue_0 rfl rfl ?_
  refine x_iload_n (pc := 1) hC 1 dX13_setCue_1 rfl rfl ?_
  obtain ⟨o3, ho3, h⟩ := bd_some h
  refine x_callS (pc := 2) (As := [.int a1]) (rest := [.ref a0]) hC hl (c_X13_isDeck l hls ho3) lk_RX13_121 dX13_setCue_2 rfl rfl (Nat.le_of_ble_eq_true rfl) ⟨Nat.le_of_ble_eq_true rfl, Nat.le_of_ble_eq_true rfl⟩ ⟨(Nat.le_of_ble_eq_true rfl), (Nat.le_of_ble_eq_true rfl)⟩ ?_
  rcases o3 with ⟨x1 | E4, S2⟩
  · refine xk_i ?_
    replace h := bk_l h
    refine x_if_ne (pc := 5) hC 12 dX13_setCue_5 (by decide) (fun c16 => ?_) (fun c16 => ?_)
    · rw [if_neg c16] at h
      refine x_iload_n (pc := 12) hC 2 dX13_setCue_12 rfl rfl ?_
      refine x_iconst (pc := 13) (v := (0 : Int32)) hC dX13_setCue_13 (by decide) ?_
      refine x_iconst (pc := 14) (v := (3 : Int32)) hC dX13_setCue_14 (by decide) ?_
      obtain ⟨o7, ho7, h⟩ := bd_some h
      refine x_callS (pc := 15) (As := [.int a2, .int (0 : Int32), .int (3 : Int32)]) (rest := [.ref a0]) hC hl (c_X13_isBetween l hls ho7) lk_RX13_50 dX13_setCue_15 rfl rfl (Nat.le_of_ble_eq_true rfl) ⟨Nat.le_of_ble_eq_true rfl, Nat.le_of_ble_eq_true rfl⟩ ⟨(Nat.le_of_ble_eq_true rfl), (Nat.le_of_ble_eq_true rfl)⟩ ?_
      rcases o7 with ⟨x5 | E8, S6⟩
      · refine xk_i ?_
        replace h := bk_l h
        refine x_if_ne (pc := 18) hC 25 dX13_setCue_18 (by decide) (fun c15 => ?_) (fun c15 => ?_)
        · rw [if_neg c15] at h
          refine x_aload_n (pc := 25) hC 0 dX13_setCue_25 rfl rfl ?_
          refine x_iload_n (pc := 26) hC 1 dX13_setCue_26 rfl rfl ?_
          obtain ⟨g9, h⟩ := gd_some h
          obtain ⟨o12, ho12, h⟩ := bd_some h
          refine x_callV (pc := 27) (As := [.int a1]) (rest := [.ref a0]) hC hl (c_X13_isEmpty l hls ho12) lk_RX13_133 fc_19 g9 dX13_setCue_27 rfl rfl (Nat.le_of_ble_eq_true rfl) ⟨Nat.le_of_ble_eq_true rfl, Nat.le_of_ble_eq_true rfl⟩ ⟨(Nat.le_of_ble_eq_true rfl), (Nat.le_of_ble_eq_true rfl)⟩ ?_
          rcases o12 with ⟨x10 | E13, S11⟩
          · refine xk_i ?_
            replace h := bk_l h
            refine x_if_eq (pc := 30) hC 37 dX13_setCue_30 (by decide) (fun c14 => ?_) (fun c14 => ?_)
            · rw [if_pos c14] at h
              refine x_iconst (pc := 37) (v := (0 : Int32)) hC dX13_setCue_37 (by decide) ?_
              refine x_pick [0, 1, 2] rfl ?_
              exact t_X13_setCue_38 hls hC hl hE h
            · rw [if_neg c14] at h
              refine x_iconst (pc := 33) (v := (3 : Int32)) hC dX13_setCue_33 (by decide) ?_
              refine x_goto (pc := 34) hC 38 dX13_setCue_34 (by decide) ?_
              refine x_pick [0, 1, 2] rfl ?_
              exact t_X13_setCue_38 hls hC hl hE h
          · exact xk_r (xt_out hC hE (bk_r h) (Nat.le_of_ble_eq_true rfl) (Nat.le_of_ble_eq_true rfl))
        · rw [if_pos c15] at h
          refine x_iconst (pc := 21) (v := (2 : Int32)) hC dX13_setCue_21 (by decide) ?_
          refine x_goto (pc := 22) hC 38 dX13_setCue_22 (by decide) ?_
          refine x_pick [0, 1, 2] rfl ?_
          exact t_X13_setCue_38 hls hC hl hE h
      · exact xk_r (xt_out hC hE (bk_r h) (Nat.le_of_ble_eq_true rfl) (Nat.le_of_ble_eq_true rfl))
    · rw [if_pos c16] at h
      refine x_iconst (pc := 8) (v := (1 : Int32)) hC dX13_setCue_8 (by decide) ?_
      refine x_goto (pc := 9) hC 38 dX13_setCue_9 (by decide) ?_
      refine x_pick [0, 1, 2] rfl ?_
      exact t_X13_setCue_38 hls hC hl hE h
  · exact xk_r (xt_out hC hE (bk_r h) (Nat.le_of_ble_eq_true rfl) (Nat.le_of_ble_eq_true rfl))
theorem c_X13_setCue (l : Launch) (hls : l.stackTraces = false) {S : mS} {a0 : Nat} {a1 : Int32} {a2 : Int32} {o : Rs Int32} (h : f_X13_setCue S a0 a1 a2 = some o) : CT (fun r : Int32 => some (.int r)) l yX13_setCue (.code yX13_setCue cX13_setCue 4 (Option.some Jvm.ClassFile.FieldType.int)) rm_X13_setCue S [.ref a0, .int a1, .int a2] o := ct_of (by decide +kernel) hls (Nat.le_of_ble_eq_true rfl) (fun C hl hC hE => t_X13_setCue hls hC hl hE h)
abbrev rm_X13_loops : Room := { frames := 9, cells := 0, slots := 0, locals := 170 }
def f_X13_loops (S : mS) (a0 : Nat) (a1 : Int32) : Option (Rs Int32) :=
  gd (gK S a0 = 17) (bd (f_X11_beat S a0) fun x2 S3 => lt9 ((1 : Int32) <<< (a1 &&& 31)) fun x6 => lt9 (x2 + x6) fun x7 => gd (gK S3 a0 = 17) (lt9 (gR S3 a0 0) fun r9 => gd (gK S3 r9 = 18) (lt9 (gI S3 r9 0) fun x11 => if x7 ≤ x11 then (lt9 ((x7).toInt64) fun x12 => lt9 (x12 * (60000000 : Int64)) fun x13 => zL (sL S3 a0 11 x13) fun S14 => lt9 ((1 : Int32) <<< (a1 &&& 31)) fun x17 => lt9 ((x17).toInt64) fun x18 => lt9 (x18 * (60000000 : Int64)) fun x19 => zL (sL S14 a0 12 x19) fun S20 => some (.inl (1 : Int32), S20)) else (some (.inl (0 : Int32), S3)))))
set_option maxHeartbeats 2000000 in
set_option maxRecDepth 100000 in
theorem t_X13_loops {l : Launch} (hls : l.stackTraces = false) {C : cT} (hC : CX C cX13_loops 3 yX13_loops rm_X13_loops) (hl : C.2.1 = l) {S0 : mS} (hE : CE C S0 (Option.some Jvm.ClassFile.FieldType.boolean) []) {o : Rs Int32} {S : mS} {a0 : Nat} {a1 : Int32} (h : f_X13_loops S a0 a1 = some o) : XX C 3 (QQ C (fun r : Int32 => some (.int r)) S0 o) 0 0 S 0 [(0, .ref a0), (1, .int a1)] [] := by
  unfold f_X13_loops at h
  refine x_aload_n (pc := 0) hC 0 dX13_loops_0 rfl rfl ?_
  obtain ⟨g1, h⟩ := gd_some h
  obtain ⟨o4, ho4, h⟩ := bd_some h
  refine x_callV (pc := 1) (As := []) (rest := []) hC hl (c_X11_beat l hls ho4) lk_RX13_158 fc_17 g1 dX13_loops_1 rfl rfl (Nat.le_of_ble_eq_true rfl) ⟨Nat.le_of_ble_eq_true rfl, Nat.le_of_ble_eq_true rfl⟩ ⟨(Nat.le_of_ble_eq_true rfl), (Nat.le_of_ble_eq_true rfl)⟩ ?_
  rcases o4 with ⟨x2 | E5, S3⟩
  · refine xk_i ?_
    replace h := bk_l h
    refine x_iconst (pc := 4) (v := (1 : Int32)) hC dX13_loops_4 (by decide) ?_
    refine x_iload_n (pc := 5) hC 1 dX13_loops_5 rfl rfl ?_
    refine x_ishlv (pc := 6) hC dX13_loops_6 (fun x6 hx6 => ?_)
    replace h := lt_x hx6 h
    refine x_iaddv (pc := 7) hC dX13_loops_7 (fun x7 hx7 => ?_)
    replace h := lt_x hx7 h
    refine x_istore_n (pc := 8) hC dX13_loops_8 rfl (by decide) (by decide) rfl ?_
    refine x_iload_n (pc := 9) hC 0 dX13_loops_9 rfl rfl ?_
    refine x_aload_n (pc := 10) hC 1 dX13_loops_10 rfl rfl ?_
    obtain ⟨g8, h⟩ := gd_some h
    refine x_getRv (pc := 11) (k := 0) hC fc_17 fl_RX13_60 dX13_loops_11 rfl g8 (fun r9 hr9 => ?_)
    replace h := lt_x hr9 h
    obtain ⟨g10, h⟩ := gd_some h
    refine x_getIv (pc := 14) (k := 0) hC fc_18 fl_RX13_155 dX13_loops_14 rfl g10 (fun x11 hx11 => ?_)
    replace h := lt_x hx11 h
    refine x_icmp_le (pc := 17) hC 22 dX13_loops_17 (by decide) (fun c23 => ?_) (fun c23 => ?_)
    · rw [if_pos c23] at h
      refine x_aload_n (pc := 22) hC 1 dX13_loops_22 rfl rfl ?_
      refine x_iload_n (pc := 23) hC 0 dX13_loops_23 rfl rfl ?_
      refine x_i2lv (pc := 24) hC dX13_loops_24 (fun x12 hx12 => ?_)
      replace h := lt_x hx12 h
      refine x_ldc2 (pc := 25) hC wm_1968 dX13_loops_25 ?_
      refine x_lmulv (pc := 28) hC dX13_loops_28 (fun x13 hx13 => ?_)
      replace h := lt_x hx13 h
      refine x_putLv (pc := 29) (k := 11) hC fc_17 fl_RX13_179 dX13_loops_29 rfl rfl rfl g8 (fun S14 hS14 => ?_)
      replace h := zL_x hS14 h
      have g15 : gK S14 a0 = 17 := by rw [hS14]; exact g8
      have g16 : gK S14 r9 = 18 := by rw [hS14]; exact g10
      refine x_aload_n (pc := 32) hC 1 dX13_loops_32 rfl rfl ?_
      refine x_iconst (pc := 33) (v := (1 : Int32)) hC dX13_loops_33 (by decide) ?_
      refine x_iload_n (pc := 34) hC 2 dX13_loops_34 rfl rfl ?_
      refine x_ishlv (pc := 35) hC dX13_loops_35 (fun x17 hx17 => ?_)
      replace h := lt_x hx17 h
      refine x_i2lv (pc := 36) hC dX13_loops_36 (fun x18 hx18 => ?_)
      replace h := lt_x hx18 h
      refine x_ldc2 (pc := 37) hC wm_1968 dX13_loops_37 ?_
      refine x_lmulv (pc := 40) hC dX13_loops_40 (fun x19 hx19 => ?_)
      replace h := lt_x hx19 h
      refine x_putLv (pc := 41) (k := 12) hC fc_17 fl_RX13_182 dX13_loops_41 rfl rfl rfl g15 (fun S20 hS20 => ?_)
      replace h := zL_x hS20 h
      have g21 : gK S20 a0 = 17 := by rw [hS20]; exact g15
      have g22 : gK S20 r9 = 18 := by rw [hS20]; exact g16
      refine x_iconst (pc := 44) (v := (1 : Int32)) hC dX13_loops_44 (by decide) ?_
      exact x_zreturn (pc := 45) hC hE dX13_loops_45 (show NF .boolean _ from ⟨rfl, rfl⟩).1 (so h) (Nat.le_of_ble_eq_true rfl) (Nat.le_of_ble_eq_true rfl)
    · rw [if_neg c23] at h
      refine x_iconst (pc := 20) (v := (0 : Int32)) hC dX13_loops_20 (by decide) ?_
      exact x_zreturn (pc := 21) hC hE dX13_loops_21 (show NF .boolean _ from ⟨rfl, rfl⟩).1 (so h) (Nat.le_of_ble_eq_true rfl) (Nat.le_of_ble_eq_true rfl)
  · exact xk_r (xt_out hC hE (bk_r h) (Nat.le_of_ble_eq_true rfl) (Nat.le_of_ble_eq_true rfl))
theorem c_X13_loops (l : Launch) (hls : l.stackTraces = false) {S : mS} {a0 : Nat} {a1 : Int32} {o : Rs Int32} (h : f_X13_loops S a0 a1 = some o) : CT (fun r : Int32 => some (.int r)) l yX13_loops (.code yX13_loops cX13_loops 3 (Option.some Jvm.ClassFile.FieldType.boolean)) rm_X13_loops S [.ref a0, .int a1] o := ct_of (by decide +kernel) hls (Nat.le_of_ble_eq_true rfl) (fun C hl hC hE => t_X13_loops hls hC hl hE h)
abbrev rm_X13_loop : Room := { frames := 10, cells := 0, slots := 0, locals := 192 }
def f_X13_loop_66  (S : mS) (a0 : Nat) (a1 : Int32) (s0 : Nat) (s1 : Int32) : Option (Rs Int32) :=
  gd (gK S s0 = 19) (bd (f_X13_isWrong S s0 s1) fun x2 S3 => if x2 = 0 then (gd (gK S3 a0 = 19) (bd (f_X13_logs S3 a0) fun _ S8 => gd (gK S8 a0 = 19) (lt9 (gR S8 a0 2) fun r12 => gd (gK S8 r12 = 37) (gd (¬ (a1 < 0 ∨ gZ S8 r12 ≤ (a1).toNatClampNeg)) (lt9 (gR S8 r12 (a1).toNatClampNeg) fun r16 => gd (gK S8 r16 = 17) (lt9 (gL S8 r16 11) fun x18 => gd (¬ (60000000 : Int64) = 0) (lt9 (x18 / (60000000 : Int64)) fun x19 => lt9 ((x19).toInt32) fun x21 => some (.inl x21, S8)))))))) else (some (.inl (0 : Int32), S3)))
set_option maxHeartbeats 2000000 in
set_option maxRecDepth 100000 in
theorem t_X13_loop_66 {l : Launch} (hls : l.stackTraces = false) {C : cT} (hC : CX C cX13_loop 3 yX13_loop rm_X13_loop) (hl : C.2.1 = l) {S0 : mS} (hE : CE C S0 (Option.some Jvm.ClassFile.FieldType.int) []) {o : Rs Int32} {S : mS} {a0 : Nat} {a1 : Int32} {s0 : Nat} {s1 : Int32} (h : f_X13_loop_66  S a0 a1 s0 s1 = some o) : XX C 3 (QQ C (fun r : Int32 => some (.int r)) S0 o) (0) (0) S 66 [(0, .ref a0), (1, .int a1)] [.int s1, .ref s0] := by
  unfold f_X13_loop_66 at h
  obtain ⟨g1, h⟩ := gd_some h
  obtain ⟨o4, ho4, h⟩ := bd_some h
  refine x_callV (pc := 66) (As := [.int s1]) (rest := []) hC hl (c_X13_isWrong l hls ho4) lk_RX13_68 fc_19 g1 dX13_loop_66 rfl rfl (Nat.le_of_ble_eq_true rfl) ⟨Nat.le_of_ble_eq_true rfl, Nat.le_of_ble_eq_true rfl⟩ ⟨(Nat.le_of_ble_eq_true rfl), (Nat.le_of_ble_eq_true rfl)⟩ ?_
  rcases o4 with ⟨x2 | E5, S3⟩
  · refine xk_i ?_
    replace h := bk_l h
    refine x_if_eq (pc := 69) hC 74 dX13_loop_69 (by decide) (fun c22 => ?_) (fun c22 => ?_)
    · rw [if_pos c22] at h
      refine x_aload_n (pc := 74) hC 0 dX13_loop_74 rfl rfl ?_
      obtain ⟨g6, h⟩ := gd_some h
      obtain ⟨o9, ho9, h⟩ := bd_some h
      refine x_callV (pc := 75) (As := []) (rest := []) hC hl (c_X13_logs l hls ho9) lk_RX13_81 fc_19 g6 dX13_loop_75 rfl rfl (Nat.le_of_ble_eq_true rfl) ⟨Nat.le_of_ble_eq_true rfl, Nat.le_of_ble_eq_true rfl⟩ ⟨(Nat.le_of_ble_eq_true rfl), (Nat.le_of_ble_eq_true rfl)⟩ ?_
      rcases o9 with ⟨_ | E10, S8⟩
      · refine xk_v ?_
        replace h := bk_l h
        refine x_aload_n (pc := 78) hC 0 dX13_loop_78 rfl rfl ?_
        obtain ⟨g11, h⟩ := gd_some h
        refine x_getRv (pc := 79) (k := 2) hC fc_19 fl_RX13_19 dX13_loop_79 rfl g11 (fun r12 hr12 => ?_)
        replace h := lt_x hr12 h
        refine x_iload_n (pc := 82) hC 1 dX13_loop_82 rfl rfl ?_
        obtain ⟨g15, h⟩ := gd_some h
        obtain ⟨g14, h⟩ := gd_some h
        refine x_raldv (pc := 83) (t0 := 7) hC dX13_loop_83 g15 (by decide) (fun _ => rfl) g14 (fun r16 hr16 => ?_)
        replace h := lt_x hr16 h
        obtain ⟨g17, h⟩ := gd_some h
        refine x_getLv (pc := 84) (k := 11) hC fc_17 fl_RX13_179 dX13_loop_84 rfl g17 (fun x18 hx18 => ?_)
        replace h := lt_x hx18 h
        refine x_ldc2 (pc := 87) hC wm_1968 dX13_loop_87 ?_
        obtain ⟨g20, h⟩ := gd_some h
        refine x_ldivv (pc := 90) hC dX13_loop_90 g20 (fun x19 hx19 => ?_)
        replace h := lt_x hx19 h
        refine x_l2iv (pc := 91) hC dX13_loop_91 (fun x21 hx21 => ?_)
        replace h := lt_x hx21 h
        exact x_ireturn (pc := 92) hC hE dX13_loop_92 (so h) (Nat.le_of_ble_eq_true rfl) (Nat.le_of_ble_eq_true rfl)
      · exact xk_r (xt_out hC hE (bk_r h) (Nat.le_of_ble_eq_true rfl) (Nat.le_of_ble_eq_true rfl))
    · rw [if_neg c22] at h
      refine x_iconst (pc := 72) (v := (0 : Int32)) hC dX13_loop_72 (by decide) ?_
      exact x_ireturn (pc := 73) hC hE dX13_loop_73 (so h) (Nat.le_of_ble_eq_true rfl) (Nat.le_of_ble_eq_true rfl)
  · exact xk_r (xt_out hC hE (bk_r h) (Nat.le_of_ble_eq_true rfl) (Nat.le_of_ble_eq_true rfl))
def f_X13_loop_39  (S : mS) (a0 : Nat) (a1 : Int32) (a2 : Int32) (s0 : Nat) (s1 : Int32) : Option (Rs Int32) :=
  gd (gK S s0 = 19) (bd (f_X13_isWrong S s0 s1) fun x2 S3 => if x2 = 0 then (gd (gK S3 a0 = 19) (lt9 (gR S3 a0 2) fun r7 => gd (gK S3 r7 = 37) (gd (¬ (a1 < 0 ∨ gZ S3 r7 ≤ (a1).toNatClampNeg)) (lt9 (gR S3 r7 (a1).toNatClampNeg) fun r11 => bd (f_X13_loops S3 r11 a2) fun x12 S13 => if x12 = 0 then (f_X13_loop_66  S13 a0 a1 a0 (4 : Int32)) else (f_X13_loop_66  S13 a0 a1 a0 (0 : Int32)))))) else (some (.inl (0 : Int32), S3)))
set_option maxHeartbeats 2000000 in
set_option maxRecDepth 100000 in
theorem t_X13_loop_39 {l : Launch} (hls : l.stackTraces = false) {C : cT} (hC : CX C cX13_loop 3 yX13_loop rm_X13_loop) (hl : C.2.1 = l) {S0 : mS} (hE : CE C S0 (Option.some Jvm.ClassFile.FieldType.int) []) {o : Rs Int32} {S : mS} {a0 : Nat} {a1 : Int32} {a2 : Int32} {s0 : Nat} {s1 : Int32} (h : f_X13_loop_39  S a0 a1 a2 s0 s1 = some o) : XX C 3 (QQ C (fun r : Int32 => some (.int r)) S0 o) (0) (0) S 39 [(0, .ref a0), (1, .int a1), (2, .int a2)] [.int s1, .ref s0] := by
  unfold f_X13_loop_39 at h
  obtain ⟨g1, h⟩ := gd_some h
  obtain ⟨o4, ho4, h⟩ := bd_some h
  refine x_callV (pc := 39) (As := [.int s1]) (rest := []) hC hl (c_X13_isWrong l hls ho4) lk_RX13_68 fc_19 g1 dX13_loop_39 rfl rfl (Nat.le_of_ble_eq_true rfl) ⟨Nat.le_of_ble_eq_true rfl, Nat.le_of_ble_eq_true rfl⟩ ⟨(Nat.le_of_ble_eq_true rfl), (Nat.le_of_ble_eq_true rfl)⟩ ?_
  rcases o4 with ⟨x2 | E5, S3⟩
  · refine xk_i ?_
    replace h := bk_l h
    refine x_if_eq (pc := 42) hC 47 dX13_loop_42 (by decide) (fun c17 => ?_) (fun c17 => ?_)
    · rw [if_pos c17] at h
      refine x_aload_n (pc := 47) hC 0 dX13_loop_47 rfl rfl ?_
      refine x_aload_n (pc := 48) hC 0 dX13_loop_48 rfl rfl ?_
      obtain ⟨g6, h⟩ := gd_some h
      refine x_getRv (pc := 49) (k := 2) hC fc_19 fl_RX13_19 dX13_loop_49 rfl g6 (fun r7 hr7 => ?_)
      replace h := lt_x hr7 h
      refine x_iload_n (pc := 52) hC 1 dX13_loop_52 rfl rfl ?_
      obtain ⟨g10, h⟩ := gd_some h
      obtain ⟨g9, h⟩ := gd_some h
      refine x_raldv (pc := 53) (t0 := 7) hC dX13_loop_53 g10 (by decide) (fun _ => rfl) g9 (fun r11 hr11 => ?_)
      replace h := lt_x hr11 h
      refine x_iload_n (pc := 54) hC 2 dX13_loop_54 rfl rfl ?_
      obtain ⟨o14, ho14, h⟩ := bd_some h
      refine x_callS (pc := 55) (As := [.ref r11, .int a2]) (rest := [.ref a0]) hC hl (c_X13_loops l hls ho14) lk_RX13_185 dX13_loop_55 rfl rfl (Nat.le_of_ble_eq_true rfl) ⟨Nat.le_of_ble_eq_true rfl, Nat.le_of_ble_eq_true rfl⟩ ⟨(Nat.le_of_ble_eq_true rfl), (Nat.le_of_ble_eq_true rfl)⟩ ?_
      rcases o14 with ⟨x12 | E15, S13⟩
      · refine xk_i ?_
        replace h := bk_l h
        refine x_if_eq (pc := 58) hC 65 dX13_loop_58 (by decide) (fun c16 => ?_) (fun c16 => ?_)
        · rw [if_pos c16] at h
          refine x_iconst (pc := 65) (v := (4 : Int32)) hC dX13_loop_65 (by decide) ?_
          refine x_pick [0, 1] rfl ?_
          exact t_X13_loop_66 hls hC hl hE h
        · rw [if_neg c16] at h
          refine x_iconst (pc := 61) (v := (0 : Int32)) hC dX13_loop_61 (by decide) ?_
          refine x_goto (pc := 62) hC 66 dX13_loop_62 (by decide) ?_
          refine x_pick [0, 1] rfl ?_
          exact t_X13_loop_66 hls hC hl hE h
      · exact xk_r (xt_out hC hE (bk_r h) (Nat.le_of_ble_eq_true rfl) (Nat.le_of_ble_eq_true rfl))
    · rw [if_neg c17] at h
      refine x_iconst (pc := 45) (v := (0 : Int32)) hC dX13_loop_45 (by decide) ?_
      exact x_ireturn (pc := 46) hC hE dX13_loop_46 (so h) (Nat.le_of_ble_eq_true rfl) (Nat.le_of_ble_eq_true rfl)
  · exact xk_r (xt_out hC hE (bk_r h) (Nat.le_of_ble_eq_true rfl) (Nat.le_of_ble_eq_true rfl))
def f_X13_loop (S : mS) (a0 : Nat) (a1 : Int32) (a2 : Int32) : Option (Rs Int32) :=
  bd (f_X13_isDeck S a1) fun x1 S2 => if x1 = 0 then (f_X13_loop_39  S2 a0 a1 a2 a0 (1 : Int32)) else (bd (f_X13_isBetween S2 a2 (0 : Int32) (6 : Int32)) fun x5 S6 => if x5 = 0 then (f_X13_loop_39  S6 a0 a1 a2 a0 (2 : Int32)) else (gd (gK S6 a0 = 19) (bd (f_X13_isEmpty S6 a0 a1) fun x10 S11 => if x10 = 0 then (f_X13_loop_39  S11 a0 a1 a2 a0 (0 : Int32)) else (f_X13_loop_39  S11 a0 a1 a2 a0 (3 : Int32)))))
set_option maxHeartbeats 2000000 in
set_option maxRecDepth 100000 in
theorem t_X13_loop {l : Launch} (hls : l.stackTraces = false) {C : cT} (hC : CX C cX13_loop 3 yX13_loop rm_X13_loop) (hl : C.2.1 = l) {S0 : mS} (hE : CE C S0 (Option.some Jvm.ClassFile.FieldType.int) []) {o : Rs Int32} {S : mS} {a0 : Nat} {a1 : Int32} {a2 : Int32} (h : f_X13_loop S a0 a1 a2 = some o) : XX C 3 (QQ C (fun r : Int32 => some (.int r)) S0 o) 0 0 S 0 [(0, .ref a0), (1, .int a1), (2, .int a2)] [] := by
  unfold f_X13_loop at h
  refine x_aload_n (pc := 0) hC 0 dX13_loop_0 rfl rfl ?_
  refine x_iload_n (pc := 1) hC 1 dX13_loop_1 rfl rfl ?_
  obtain ⟨o3, ho3, h⟩ := bd_some h
  refine x_callS (pc := 2) (As := [.int a1]) (rest := [.ref a0]) hC hl (c_X13_isDeck l hls ho3) lk_RX13_121 dX13_loop_2 rfl rfl (Nat.le_of_ble_eq_true rfl) ⟨Nat.le_of_ble_eq_true rfl, Nat.le_of_ble_eq_true rfl⟩ ⟨(Nat.le_of_ble_eq_true rfl), (Nat.le_of_ble_eq_true rfl)⟩ ?_
  rcases o3 with ⟨x1 | E4, S2⟩
  · refine xk_i ?_
    replace h := bk_l h
    refine x_if_ne (pc := 5) hC 12 dX13_loop_5 (by decide) (fun c16 => ?_) (fun c16 => ?_)
    · rw [if_neg c16] at h
      refine x_iload_n (pc := 12) hC 2 dX13_loop_12 rfl rfl ?_
      refine x_iconst (pc := 13) (v := (0 : Int32)) hC dX13_loop_13 (by decide) ?_
      refine x_bipush (pc := 14) (v := (6 : Int32)) hC dX13_loop_14 (by decide) ?_
      obtain ⟨o7, ho7, h⟩ := bd_some h
      refine x_callS (pc := 16) (As := [.int a2, .int (0 : Int32), .int (6 : Int32)]) (rest := [.ref a0]) hC hl (c_X13_isBetween l hls ho7) lk_RX13_50 dX13_loop_16 rfl rfl (Nat.le_of_ble_eq_true rfl) ⟨Nat.le_of_ble_eq_true rfl, Nat.le_of_ble_eq_true rfl⟩ ⟨(Nat.le_of_ble_eq_true rfl), (Nat.le_of_ble_eq_true rfl)⟩ ?_
      rcases o7 with ⟨x5 | E8, S6⟩
      · refine xk_i ?_
        replace h := bk_l h
        refine x_if_ne (pc := 19) hC 26 dX13_loop_19 (by decide) (fun c15 => ?_) (fun c15 => ?_)
        · rw [if_neg c15] at h
          refine x_aload_n (pc := 26) hC 0 dX13_loop_26 rfl rfl ?_
          refine x_iload_n (pc := 27) hC 1 dX13_loop_27 rfl rfl ?_
          obtain ⟨g9, h⟩ := gd_some h
          obtain ⟨o12, ho12, h⟩ := bd_some h
          refine x_callV (pc := 28) (As := [.int a1]) (rest := [.ref a0]) hC hl (c_X13_isEmpty l hls ho12) lk_RX13_133 fc_19 g9 dX13_loop_28 rfl rfl (Nat.le_of_ble_eq_true rfl) ⟨Nat.le_of_ble_eq_true rfl, Nat.le_of_ble_eq_true rfl⟩ ⟨(Nat.le_of_ble_eq_true rfl), (Nat.le_of_ble_eq_true rfl)⟩ ?_
          rcases o12 with ⟨x10 | E13, S11⟩
          · refine xk_i ?_
            replace h := bk_l h
            refine x_if_eq (pc := 31) hC 38 dX13_loop_31 (by decide) (fun c14 => ?_) (fun c14 => ?_)
            · rw [if_pos c14] at h
              refine x_iconst (pc := 38) (v := (0 : Int32)) hC dX13_loop_38 (by decide) ?_
              refine x_pick [0, 1, 2] rfl ?_
              exact t_X13_loop_39 hls hC hl hE h
            · rw [if_neg c14] at h
              refine x_iconst (pc := 34) (v := (3 : Int32)) hC dX13_loop_34 (by decide) ?_
              refine x_goto (pc := 35) hC 39 dX13_loop_35 (by decide) ?_
              refine x_pick [0, 1, 2] rfl ?_
              exact t_X13_loop_39 hls hC hl hE h
          · exact xk_r (xt_out hC hE (bk_r h) (Nat.le_of_ble_eq_true rfl) (Nat.le_of_ble_eq_true rfl))
        · rw [if_pos c15] at h
          refine x_iconst (pc := 22) (v := (2 : Int32)) hC dX13_loop_22 (by decide) ?_
          refine x_goto (pc := 23) hC 39 dX13_loop_23 (by decide) ?_
          refine x_pick [0, 1, 2] rfl ?_
          exact t_X13_loop_39 hls hC hl hE h
      · exact xk_r (xt_out hC hE (bk_r h) (Nat.le_of_ble_eq_true rfl) (Nat.le_of_ble_eq_true rfl))
    · rw [if_pos c16] at h
      refine x_iconst (pc := 8) (v := (1 : Int32)) hC dX13_loop_8 (by decide) ?_
      refine x_goto (pc := 9) hC 39 dX13_loop_9 (by decide) ?_
      refine x_pick [0, 1, 2] rfl ?_
      exact t_X13_loop_39 hls hC hl hE h
  · exact xk_r (xt_out hC hE (bk_r h) (Nat.le_of_ble_eq_true rfl) (Nat.le_of_ble_eq_true rfl))
theorem c_X13_loop (l : Launch) (hls : l.stackTraces = false) {S : mS} {a0 : Nat} {a1 : Int32} {a2 : Int32} {o : Rs Int32} (h : f_X13_loop S a0 a1 a2 = some o) : CT (fun r : Int32 => some (.int r)) l yX13_loop (.code yX13_loop cX13_loop 3 (Option.some Jvm.ClassFile.FieldType.int)) rm_X13_loop S [.ref a0, .int a1, .int a2] o := ct_of (by decide +kernel) hls (Nat.le_of_ble_eq_true rfl) (fun C hl hC hE => t_X13_loop hls hC hl hE h)
abbrev rm_X13_out : Room := { frames := 10, cells := 0, slots := 0, locals := 192 }
def f_X13_out_40  (S : mS) (a0 : Nat) (a1 : Int32) (s0 : Int32) : Option (Rs Int32) :=
  gd (gK S a0 = 19) (lt9 (gR S a0 2) fun r2 => gd (gK S r2 = 37) (gd (¬ (a1 < 0 ∨ gZ S r2 ≤ (a1).toNatClampNeg)) (lt9 (gR S r2 (a1).toNatClampNeg) fun r6 => gd (gK S r6 = 17) (zL (sL S r6 12 (0 : Int64)) fun S8 => bd (f_X13_logs S8 a0) fun _ S13 => gd (s0 = 0 ∨ s0 = 1) (some (.inl s0, S13))))))
set_option maxHeartbeats 2000000 in
set_option maxRecDepth 100000 in
theorem t_X13_out_40 {l : Launch} (hls : l.stackTraces = false) {C : cT} (hC : CX C cX13_out 3 yX13_out rm_X13_out) (hl : C.2.1 = l) {S0 : mS} (hE : CE C S0 (Option.some Jvm.ClassFile.FieldType.boolean) []) {o : Rs Int32} {S : mS} {a0 : Nat} {a1 : Int32} {s0 : Int32} (h : f_X13_out_40  S a0 a1 s0 = some o) : XX C 3 (QQ C (fun r : Int32 => some (.int r)) S0 o) (0) (0) S 40 [(0, .ref a0), (1, .int a1)] [.int s0] := by
  unfold f_X13_out_40 at h
  refine x_istore_n (pc := 40) hC dX13_out_40 rfl (by decide) (by decide) rfl ?_
  refine x_aload_n (pc := 41) hC 1 dX13_out_41 rfl rfl ?_
  obtain ⟨g1, h⟩ := gd_some h
  refine x_getRv (pc := 42) (k := 2) hC fc_19 fl_RX13_19 dX13_out_42 rfl g1 (fun r2 hr2 => ?_)
  replace h := lt_x hr2 h
  refine x_iload_n (pc := 45) hC 2 dX13_out_45 rfl rfl ?_
  obtain ⟨g5, h⟩ := gd_some h
  obtain ⟨g4, h⟩ := gd_some h
  refine x_raldv (pc := 46) (t0 := 7) hC dX13_out_46 g5 (by decide) (fun _ => rfl) g4 (fun r6 hr6 => ?_)
  replace h := lt_x hr6 h
  refine x_lconst (pc := 47) (v := (0 : Int64)) hC dX13_out_47 (by decide) ?_
  obtain ⟨g7, h⟩ := gd_some h
  refine x_putLv (pc := 48) (k := 12) hC fc_17 fl_RX13_182 dX13_out_48 rfl rfl rfl g7 (fun S8 hS8 => ?_)
  replace h := zL_x hS8 h
  have g9 : gK S8 a0 = 19 := by rw [hS8]; exact g1
  have g10 : gK S8 r2 = 37 := by rw [hS8]; exact g5
  have g11 : gK S8 r6 = 17 := by rw [hS8]; exact g7
  refine x_aload_n (pc := 51) hC 1 dX13_out_51 rfl rfl ?_
  obtain ⟨o14, ho14, h⟩ := bd_some h
  refine x_callV (pc := 52) (As := []) (rest := []) hC hl (c_X13_logs l hls ho14) lk_RX13_81 fc_19 g9 dX13_out_52 rfl rfl (Nat.le_of_ble_eq_true rfl) ⟨Nat.le_of_ble_eq_true rfl, Nat.le_of_ble_eq_true rfl⟩ ⟨(Nat.le_of_ble_eq_true rfl), (Nat.le_of_ble_eq_true rfl)⟩ ?_
  rcases o14 with ⟨_ | E15, S13⟩
  · refine xk_v ?_
    replace h := bk_l h
    refine x_iload_n (pc := 55) hC 0 dX13_out_55 rfl rfl ?_
    obtain ⟨g16, h⟩ := gd_some h
    exact x_zreturn (pc := 56) hC hE dX13_out_56 (nf_B g16).1 (so h) (Nat.le_of_ble_eq_true rfl) (Nat.le_of_ble_eq_true rfl)
  · exact xk_r (xt_out hC hE (bk_r h) (Nat.le_of_ble_eq_true rfl) (Nat.le_of_ble_eq_true rfl))
def f_X13_out_13  (S : mS) (a0 : Nat) (a1 : Int32) (s0 : Nat) (s1 : Int32) : Option (Rs Int32) :=
  gd (gK S s0 = 19) (bd (f_X13_isWrong S s0 s1) fun x2 S3 => if x2 = 0 then (gd (gK S3 a0 = 19) (lt9 (gR S3 a0 2) fun r7 => gd (gK S3 r7 = 37) (gd (¬ (a1 < 0 ∨ gZ S3 r7 ≤ (a1).toNatClampNeg)) (lt9 (gR S3 r7 (a1).toNatClampNeg) fun r11 => gd (gK S3 r11 = 17) (lt9 (gL S3 r11 12) fun x13 => lt9 (lg_cmp x13 (0 : Int64)) fun x14 => if x14 ≤ 0 then (f_X13_out_40  S3 a0 a1 (0 : Int32)) else (f_X13_out_40  S3 a0 a1 (1 : Int32))))))) else (some (.inl (0 : Int32), S3)))
set_option maxHeartbeats 2000000 in
set_option maxRecDepth 100000 in
theorem t_X13_out_13 {l : Launch} (hls : l.stackTraces = false) {C : cT} (hC : CX C cX13_out 3 yX13_out rm_X13_out) (hl : C.2.1 = l) {S0 : mS} (hE : CE C S0 (Option.some Jvm.ClassFile.FieldType.boolean) []) {o : Rs Int32} {S : mS} {a0 : Nat} {a1 : Int32} {s0 : Nat} {s1 : Int32} (h : f_X13_out_13  S a0 a1 s0 s1 = some o) : XX C 3 (QQ C (fun r : Int32 => some (.int r)) S0 o) (0) (0) S 13 [(0, .ref a0), (1, .int a1)] [.int s1, .ref s0] := by
  unfold f_X13_out_13 at h
  obtain ⟨g1, h⟩ := gd_some h
  obtain ⟨o4, ho4, h⟩ := bd_some h
  refine x_callV (pc := 13) (As := [.int s1]) (rest := []) hC hl (c_X13_isWrong l hls ho4) lk_RX13_68 fc_19 g1 dX13_out_13 rfl rfl (Nat.le_of_ble_eq_true rfl) ⟨Nat.le_of_ble_eq_true rfl, Nat.le_of_ble_eq_true rfl⟩ ⟨(Nat.le_of_ble_eq_true rfl), (Nat.le_of_ble_eq_true rfl)⟩ ?_
  rcases o4 with ⟨x2 | E5, S3⟩
  · refine xk_i ?_
    replace h := bk_l h
    refine x_if_eq (pc := 16) hC 21 dX13_out_16 (by decide) (fun c16 => ?_) (fun c16 => ?_)
    · rw [if_pos c16] at h
      refine x_aload_n (pc := 21) hC 0 dX13_out_21 rfl rfl ?_
      obtain ⟨g6, h⟩ := gd_some h
      refine x_getRv (pc := 22) (k := 2) hC fc_19 fl_RX13_19 dX13_out_22 rfl g6 (fun r7 hr7 => ?_)
      replace h := lt_x hr7 h
      refine x_iload_n (pc := 25) hC 1 dX13_out_25 rfl rfl ?_
      obtain ⟨g10, h⟩ := gd_some h
      obtain ⟨g9, h⟩ := gd_some h
      refine x_raldv (pc := 26) (t0 := 7) hC dX13_out_26 g10 (by decide) (fun _ => rfl) g9 (fun r11 hr11 => ?_)
      replace h := lt_x hr11 h
      obtain ⟨g12, h⟩ := gd_some h
      refine x_getLv (pc := 27) (k := 12) hC fc_17 fl_RX13_182 dX13_out_27 rfl g12 (fun x13 hx13 => ?_)
      replace h := lt_x hx13 h
      refine x_lconst (pc := 30) (v := (0 : Int64)) hC dX13_out_30 (by decide) ?_
      refine x_lcmpv (pc := 31) hC dX13_out_31 (fun x14 hx14 => ?_)
      replace h := lt_x hx14 h
      refine x_if_le (pc := 32) hC 39 dX13_out_32 (by decide) (fun c15 => ?_) (fun c15 => ?_)
      · rw [if_pos c15] at h
        refine x_iconst (pc := 39) (v := (0 : Int32)) hC dX13_out_39 (by decide) ?_
        refine x_pick [0, 1] rfl ?_
        exact t_X13_out_40 hls hC hl hE h
      · rw [if_neg c15] at h
        refine x_iconst (pc := 35) (v := (1 : Int32)) hC dX13_out_35 (by decide) ?_
        refine x_goto (pc := 36) hC 40 dX13_out_36 (by decide) ?_
        refine x_pick [0, 1] rfl ?_
        exact t_X13_out_40 hls hC hl hE h
    · rw [if_neg c16] at h
      refine x_iconst (pc := 19) (v := (0 : Int32)) hC dX13_out_19 (by decide) ?_
      exact x_zreturn (pc := 20) hC hE dX13_out_20 (show NF .boolean _ from ⟨rfl, rfl⟩).1 (so h) (Nat.le_of_ble_eq_true rfl) (Nat.le_of_ble_eq_true rfl)
  · exact xk_r (xt_out hC hE (bk_r h) (Nat.le_of_ble_eq_true rfl) (Nat.le_of_ble_eq_true rfl))
def f_X13_out (S : mS) (a0 : Nat) (a1 : Int32) : Option (Rs Int32) :=
  bd (f_X13_isDeck S a1) fun x1 S2 => if x1 = 0 then (f_X13_out_13  S2 a0 a1 a0 (1 : Int32)) else (f_X13_out_13  S2 a0 a1 a0 (0 : Int32))
set_option maxHeartbeats 2000000 in
set_option maxRecDepth 100000 in
theorem t_X13_out {l : Launch} (hls : l.stackTraces = false) {C : cT} (hC : CX C cX13_out 3 yX13_out rm_X13_out) (hl : C.2.1 = l) {S0 : mS} (hE : CE C S0 (Option.some Jvm.ClassFile.FieldType.boolean) []) {o : Rs Int32} {S : mS} {a0 : Nat} {a1 : Int32} (h : f_X13_out S a0 a1 = some o) : XX C 3 (QQ C (fun r : Int32 => some (.int r)) S0 o) 0 0 S 0 [(0, .ref a0), (1, .int a1)] [] := by
  unfold f_X13_out at h
  refine x_aload_n (pc := 0) hC 0 dX13_out_0 rfl rfl ?_
  refine x_iload_n (pc := 1) hC 1 dX13_out_1 rfl rfl ?_
  obtain ⟨o3, ho3, h⟩ := bd_some h
  refine x_callS (pc := 2) (As := [.int a1]) (rest := [.ref a0]) hC hl (c_X13_isDeck l hls ho3) lk_RX13_121 dX13_out_2 rfl rfl (Nat.le_of_ble_eq_true rfl) ⟨Nat.le_of_ble_eq_true rfl, Nat.le_of_ble_eq_true rfl⟩ ⟨(Nat.le_of_ble_eq_true rfl), (Nat.le_of_ble_eq_true rfl)⟩ ?_
  rcases o3 with ⟨x1 | E4, S2⟩
  · refine xk_i ?_
    replace h := bk_l h
    refine x_if_eq (pc := 5) hC 12 dX13_out_5 (by decide) (fun c5 => ?_) (fun c5 => ?_)
    · rw [if_pos c5] at h
      refine x_iconst (pc := 12) (v := (1 : Int32)) hC dX13_out_12 (by decide) ?_
      refine x_pick [0, 1] rfl ?_
      exact t_X13_out_13 hls hC hl hE h
    · rw [if_neg c5] at h
      refine x_iconst (pc := 8) (v := (0 : Int32)) hC dX13_out_8 (by decide) ?_
      refine x_goto (pc := 9) hC 13 dX13_out_9 (by decide) ?_
      refine x_pick [0, 1] rfl ?_
      exact t_X13_out_13 hls hC hl hE h
  · exact xk_r (xt_out hC hE (bk_r h) (Nat.le_of_ble_eq_true rfl) (Nat.le_of_ble_eq_true rfl))
theorem c_X13_out (l : Launch) (hls : l.stackTraces = false) {S : mS} {a0 : Nat} {a1 : Int32} {o : Rs Int32} (h : f_X13_out S a0 a1 = some o) : CT (fun r : Int32 => some (.int r)) l yX13_out (.code yX13_out cX13_out 3 (Option.some Jvm.ClassFile.FieldType.boolean)) rm_X13_out S [.ref a0, .int a1] o := ct_of (by decide +kernel) hls (Nat.le_of_ble_eq_true rfl) (fun C hl hC hE => t_X13_out hls hC hl hE h)
abbrev rm_X13_slips : Room := { frames := 8, cells := 0, slots := 0, locals := 150 }
def f_X13_slips_37  (S : mS) (a0 : Nat) (a1 : Int32) (a2 : Int32) : Option (Rs Int32) :=
  gd (gK S a0 = 17) (gd (a1 = 0 ∨ a1 = 1) (zI (sI S a0 14 a1) fun S3 => gd (a2 = 0 ∨ a2 = 1) (some (.inl a2, S3))))
set_option maxHeartbeats 2000000 in
set_option maxRecDepth 100000 in
theorem t_X13_slips_37 {l : Launch} (hls : l.stackTraces = false) {C : cT} (hC : CX C cX13_slips 3 yX13_slips rm_X13_slips) (hl : C.2.1 = l) {S0 : mS} (hE : CE C S0 (Option.some Jvm.ClassFile.FieldType.boolean) []) {o : Rs Int32} {S : mS} {a0 : Nat} {a1 : Int32} {a2 : Int32} (h : f_X13_slips_37  S a0 a1 a2 = some o) : XX C 3 (QQ C (fun r : Int32 => some (.int r)) S0 o) (0) (0) S 37 [(0, .ref a0), (1, .int a1), (2, .int a2)] [] := by
  unfold f_X13_slips_37 at h
  refine x_aload_n (pc := 37) hC 0 dX13_slips_37 rfl rfl ?_
  refine x_iload_n (pc := 38) hC 1 dX13_slips_38 rfl rfl ?_
  obtain ⟨g1, h⟩ := gd_some h
  obtain ⟨g2, h⟩ := gd_some h
  refine x_putIv (pc := 39) (k := 14) hC fc_17 fl_RX13_189 dX13_slips_39 rfl rfl (nf_B g2) g1 (fun S3 hS3 => ?_)
  replace h := zI_x hS3 h
  have g4 : gK S3 a0 = 17 := by rw [hS3]; exact g1
  refine x_iload_n (pc := 42) hC 2 dX13_slips_42 rfl rfl ?_
  obtain ⟨g5, h⟩ := gd_some h
  exact x_zreturn (pc := 43) hC hE dX13_slips_43 (nf_B g5).1 (so h) (Nat.le_of_ble_eq_true rfl) (Nat.le_of_ble_eq_true rfl)
def f_X13_slips_21  (S : mS) (a0 : Nat) (a1 : Int32) (a2 : Int32) : Option (Rs Int32) :=
  if a1 = 0 then (if a2 = 0 then (f_X13_slips_37  S a0 a1 a2) else (gd (gK S a0 = 17) (lt9 (gL S a0 10) fun x2 => zL (sL S a0 9 x2) fun S3 => f_X13_slips_37  S3 a0 a1 a2))) else (f_X13_slips_37  S a0 a1 a2)
set_option maxHeartbeats 2000000 in
set_option maxRecDepth 100000 in
theorem t_X13_slips_21 {l : Launch} (hls : l.stackTraces = false) {C : cT} (hC : CX C cX13_slips 3 yX13_slips rm_X13_slips) (hl : C.2.1 = l) {S0 : mS} (hE : CE C S0 (Option.some Jvm.ClassFile.FieldType.boolean) []) {o : Rs Int32} {S : mS} {a0 : Nat} {a1 : Int32} {a2 : Int32} (h : f_X13_slips_21  S a0 a1 a2 = some o) : XX C 3 (QQ C (fun r : Int32 => some (.int r)) S0 o) (0) (0) S 21 [(0, .ref a0), (1, .int a1), (2, .int a2)] [] := by
  unfold f_X13_slips_21 at h
  refine x_iload_n (pc := 21) hC 1 dX13_slips_21 rfl rfl ?_
  refine x_if_ne (pc := 22) hC 37 dX13_slips_22 (by decide) (fun c6 => ?_) (fun c6 => ?_)
  · rw [if_neg c6] at h
    refine x_pick [0, 1, 2] rfl ?_
    exact t_X13_slips_37 hls hC hl hE h
  · rw [if_pos c6] at h
    refine x_iload_n (pc := 25) hC 2 dX13_slips_25 rfl rfl ?_
    refine x_if_eq (pc := 26) hC 37 dX13_slips_26 (by decide) (fun c5 => ?_) (fun c5 => ?_)
    · rw [if_pos c5] at h
      refine x_pick [0, 1, 2] rfl ?_
      exact t_X13_slips_37 hls hC hl hE h
    · rw [if_neg c5] at h
      refine x_aload_n (pc := 29) hC 0 dX13_slips_29 rfl rfl ?_
      refine x_aload_n (pc := 30) hC 0 dX13_slips_30 rfl rfl ?_
      obtain ⟨g1, h⟩ := gd_some h
      refine x_getLv (pc := 31) (k := 10) hC fc_17 fl_RX13_192 dX13_slips_31 rfl g1 (fun x2 hx2 => ?_)
      replace h := lt_x hx2 h
      refine x_putLv (pc := 34) (k := 9) hC fc_17 fl_RX13_163 dX13_slips_34 rfl rfl rfl g1 (fun S3 hS3 => ?_)
      replace h := zL_x hS3 h
      have g4 : gK S3 a0 = 17 := by rw [hS3]; exact g1
      refine x_pick [0, 1, 2] rfl ?_
      exact t_X13_slips_37 hls hC hl hE h
def f_X13_slips (S : mS) (a0 : Nat) (a1 : Int32) : Option (Rs Int32) :=
  gd (gK S a0 = 17) (lt9 (gI S a0 14) fun x2 => if a1 = 0 then (f_X13_slips_21  S a0 a1 x2) else (if x2 = 0 then (lt9 (gL S a0 9) fun x3 => zL (sL S a0 10 x3) fun S4 => f_X13_slips_21  S4 a0 a1 x2) else (f_X13_slips_21  S a0 a1 x2)))
set_option maxHeartbeats 2000000 in
set_option maxRecDepth 100000 in
theorem t_X13_slips {l : Launch} (hls : l.stackTraces = false) {C : cT} (hC : CX C cX13_slips 3 yX13_slips rm_X13_slips) (hl : C.2.1 = l) {S0 : mS} (hE : CE C S0 (Option.some Jvm.ClassFile.FieldType.boolean) []) {o : Rs Int32} {S : mS} {a0 : Nat} {a1 : Int32} (h : f_X13_slips S a0 a1 = some o) : XX C 3 (QQ C (fun r : Int32 => some (.int r)) S0 o) 0 0 S 0 [(0, .ref a0), (1, .int a1)] [] := by
  unfold f_X13_slips at h
  refine x_aload_n (pc := 0) hC 0 dX13_slips_0 rfl rfl ?_
  obtain ⟨g1, h⟩ := gd_some h
  refine x_getIv (pc := 1) (k := 14) hC fc_17 fl_RX13_189 dX13_slips_1 rfl g1 (fun x2 hx2 => ?_)
  replace h := lt_x hx2 h
  refine x_istore_n (pc := 4) hC dX13_slips_4 rfl (by decide) (by decide) rfl ?_
  refine x_iload_n (pc := 5) hC 2 dX13_slips_5 rfl rfl ?_
  refine x_if_eq (pc := 6) hC 21 dX13_slips_6 (by decide) (fun c7 => ?_) (fun c7 => ?_)
  · rw [if_pos c7] at h
    refine x_pick [1, 2, 0] rfl ?_
    exact t_X13_slips_21 hls hC hl hE h
  · rw [if_neg c7] at h
    refine x_iload_n (pc := 9) hC 0 dX13_slips_9 rfl rfl ?_
    refine x_if_ne (pc := 10) hC 21 dX13_slips_10 (by decide) (fun c6 => ?_) (fun c6 => ?_)
    · rw [if_neg c6] at h
      refine x_pick [1, 2, 0] rfl ?_
      exact t_X13_slips_21 hls hC hl hE h
    · rw [if_pos c6] at h
      refine x_aload_n (pc := 13) hC 1 dX13_slips_13 rfl rfl ?_
      refine x_aload_n (pc := 14) hC 1 dX13_slips_14 rfl rfl ?_
      refine x_getLv (pc := 15) (k := 9) hC fc_17 fl_RX13_163 dX13_slips_15 rfl g1 (fun x3 hx3 => ?_)
      replace h := lt_x hx3 h
      refine x_putLv (pc := 18) (k := 10) hC fc_17 fl_RX13_192 dX13_slips_18 rfl rfl rfl g1 (fun S4 hS4 => ?_)
      replace h := zL_x hS4 h
      have g5 : gK S4 a0 = 17 := by rw [hS4]; exact g1
      refine x_pick [1, 2, 0] rfl ?_
      exact t_X13_slips_21 hls hC hl hE h
theorem c_X13_slips (l : Launch) (hls : l.stackTraces = false) {S : mS} {a0 : Nat} {a1 : Int32} {o : Rs Int32} (h : f_X13_slips S a0 a1 = some o) : CT (fun r : Int32 => some (.int r)) l yX13_slips (.code yX13_slips cX13_slips 3 (Option.some Jvm.ClassFile.FieldType.boolean)) rm_X13_slips S [.ref a0, .int a1] o := ct_of (by decide +kernel) hls (Nat.le_of_ble_eq_true rfl) (fun C hl hC hE => t_X13_slips hls hC hl hE h)
abbrev rm_X13_slip : Room := { frames := 11, cells := 0, slots := 0, locals := 213 }
def f_X13_slip (S : mS) (a0 : Nat) (a1 : Int32) (a2 : Int32) : Option (Rs Int32) :=
  gd (gK S a0 = 19) (bd (f_X13_isNoRecord S a0 a1) fun x2 S3 => if x2 = 0 then (gd (gK S3 a0 = 19) (bd (f_X13_logs S3 a0) fun _ S8 => gd (gK S8 a0 = 19) (lt9 (gR S8 a0 2) fun r12 => gd (gK S8 r12 = 37) (gd (¬ (a1 < 0 ∨ gZ S8 r12 ≤ (a1).toNatClampNeg)) (lt9 (gR S8 r12 (a1).toNatClampNeg) fun r16 => bd (f_X13_slips S8 r16 a2) fun x17 S18 => gd (x17 = 0 ∨ x17 = 1) (some (.inl x17, S18))))))) else (some (.inl (0 : Int32), S3)))
set_option maxHeartbeats 2000000 in
set_option maxRecDepth 100000 in
theorem t_X13_slip {l : Launch} (hls : l.stackTraces = false) {C : cT} (hC : CX C cX13_slip 3 yX13_slip rm_X13_slip) (hl : C.2.1 = l) {S0 : mS} (hE : CE C S0 (Option.some Jvm.ClassFile.FieldType.boolean) []) {o : Rs Int32} {S : mS} {a0 : Nat} {a1 : Int32} {a2 : Int32} (h : f_X13_slip S a0 a1 a2 = some o) : XX C 3 (QQ C (fun r : Int32 => some (.int r)) S0 o) 0 0 S 0 [(0, .ref a0), (1, .int a1), (2, .int a2)] [] := by
  unfold f_X13_slip at h
  refine x_aload_n (pc := 0) hC 0 dX13_slip_0 rfl rfl ?_
  refine x_iload_n (pc := 1) hC 1 dX13_slip_1 rfl rfl ?_
  obtain ⟨g1, h⟩ := gd_some h
  obtain ⟨o4, ho4, h⟩ := bd_some h
  refine x_callV (pc := 2) (As := [.int a1]) (rest := []) hC hl (c_X13_isNoRecord l hls ho4) lk_RX13_136 fc_19 g1 dX13_slip_2 rfl rfl (Nat.le_of_ble_eq_true rfl) ⟨Nat.le_of_ble_eq_true rfl, Nat.le_of_ble_eq_true rfl⟩ ⟨(Nat.le_of_ble_eq_true rfl), (Nat.le_of_ble_eq_true rfl)⟩ ?_
  rcases o4 with ⟨x2 | E5, S3⟩
  · refine xk_i ?_
    replace h := bk_l h
    refine x_if_eq (pc := 5) hC 10 dX13_slip_5 (by decide) (fun c22 => ?_) (fun c22 => ?_)
    · rw [if_pos c22] at h
      refine x_aload_n (pc := 10) hC 0 dX13_slip_10 rfl rfl ?_
      obtain ⟨g6, h⟩ := gd_some h
      obtain ⟨o9, ho9, h⟩ := bd_some h
      refine x_callV (pc := 11) (As := []) (rest := []) hC hl (c_X13_logs l hls ho9) lk_RX13_81 fc_19 g6 dX13_slip_11 rfl rfl (Nat.le_of_ble_eq_true rfl) ⟨Nat.le_of_ble_eq_true rfl, Nat.le_of_ble_eq_true rfl⟩ ⟨(Nat.le_of_ble_eq_true rfl), (Nat.le_of_ble_eq_true rfl)⟩ ?_
      rcases o9 with ⟨_ | E10, S8⟩
      · refine xk_v ?_
        replace h := bk_l h
        refine x_aload_n (pc := 14) hC 0 dX13_slip_14 rfl rfl ?_
        obtain ⟨g11, h⟩ := gd_some h
        refine x_getRv (pc := 15) (k := 2) hC fc_19 fl_RX13_19 dX13_slip_15 rfl g11 (fun r12 hr12 => ?_)
        replace h := lt_x hr12 h
        refine x_iload_n (pc := 18) hC 1 dX13_slip_18 rfl rfl ?_
        obtain ⟨g15, h⟩ := gd_some h
        obtain ⟨g14, h⟩ := gd_some h
        refine x_raldv (pc := 19) (t0 := 7) hC dX13_slip_19 g15 (by decide) (fun _ => rfl) g14 (fun r16 hr16 => ?_)
        replace h := lt_x hr16 h
        refine x_iload_n (pc := 20) hC 2 dX13_slip_20 rfl rfl ?_
        obtain ⟨o19, ho19, h⟩ := bd_some h
        refine x_callS (pc := 21) (As := [.ref r16, .int a2]) (rest := []) hC hl (c_X13_slips l hls ho19) lk_RX13_195 dX13_slip_21 rfl rfl (Nat.le_of_ble_eq_true rfl) ⟨Nat.le_of_ble_eq_true rfl, Nat.le_of_ble_eq_true rfl⟩ ⟨(Nat.le_of_ble_eq_true rfl), (Nat.le_of_ble_eq_true rfl)⟩ ?_
        rcases o19 with ⟨x17 | E20, S18⟩
        · refine xk_i ?_
          replace h := bk_l h
          obtain ⟨g21, h⟩ := gd_some h
          exact x_zreturn (pc := 24) hC hE dX13_slip_24 (nf_B g21).1 (so h) (Nat.le_of_ble_eq_true rfl) (Nat.le_of_ble_eq_true rfl)
        · exact xk_r (xt_out hC hE (bk_r h) (Nat.le_of_ble_eq_true rfl) (Nat.le_of_ble_eq_true rfl))
      · exact xk_r (xt_out hC hE (bk_r h) (Nat.le_of_ble_eq_true rfl) (Nat.le_of_ble_eq_true rfl))
    · rw [if_neg c22] at h
      refine x_iconst (pc := 8) (v := (0 : Int32)) hC dX13_slip_8 (by decide) ?_
      exact x_zreturn (pc := 9) hC hE dX13_slip_9 (show NF .boolean _ from ⟨rfl, rfl⟩).1 (so h) (Nat.le_of_ble_eq_true rfl) (Nat.le_of_ble_eq_true rfl)
  · exact xk_r (xt_out hC hE (bk_r h) (Nat.le_of_ble_eq_true rfl) (Nat.le_of_ble_eq_true rfl))
theorem c_X13_slip (l : Launch) (hls : l.stackTraces = false) {S : mS} {a0 : Nat} {a1 : Int32} {a2 : Int32} {o : Rs Int32} (h : f_X13_slip S a0 a1 a2 = some o) : CT (fun r : Int32 => some (.int r)) l yX13_slip (.code yX13_slip cX13_slip 3 (Option.some Jvm.ClassFile.FieldType.boolean)) rm_X13_slip S [.ref a0, .int a1, .int a2] o := ct_of (by decide +kernel) hls (Nat.le_of_ble_eq_true rfl) (fun C hl hC hE => t_X13_slip hls hC hl hE h)
abbrev rm_X13_place : Room := { frames := 11, cells := 0, slots := 0, locals := 213 }
def f_X13_place_21  (S : mS) (s0 : Int64) : Option (Rs Int64) :=
  some (.inl s0, S)
set_option maxHeartbeats 2000000 in
set_option maxRecDepth 100000 in
theorem t_X13_place_21 {l : Launch} (hls : l.stackTraces = false) {C : cT} (hC : CX C cX13_place 2 yX13_place rm_X13_place) (hl : C.2.1 = l) {S0 : mS} (hE : CE C S0 (Option.some Jvm.ClassFile.FieldType.long) []) {o : Rs Int64} {S : mS} {s0 : Int64} (h : f_X13_place_21  S s0 = some o) : XX C 2 (QQ C (fun r : Int64 => some (.long r)) S0 o) (0) (0) S 21 [] [.long s0] := by
  unfold f_X13_place_21 at h
  exact x_lreturn (pc := 21) hC hE dX13_place_21 (so h) (Nat.le_of_ble_eq_true rfl) (Nat.le_of_ble_eq_true rfl)
def f_X13_place (S : mS) (a0 : Nat) (a1 : Int32) : Option (Rs Int64) :=
  gd (gK S a0 = 19) (bd (f_X13_isNoRecord S a0 a1) fun x2 S3 => if x2 = 0 then (gd (gK S3 a0 = 19) (lt9 (gR S3 a0 2) fun r7 => gd (gK S3 r7 = 37) (gd (¬ (a1 < 0 ∨ gZ S3 r7 ≤ (a1).toNatClampNeg)) (lt9 (gR S3 r7 (a1).toNatClampNeg) fun r11 => gd (gK S3 r11 = 17) (lt9 (gL S3 r11 9) fun x13 => f_X13_place_21  S3 x13))))) else (f_X13_place_21  S3 (0 : Int64)))
set_option maxHeartbeats 2000000 in
set_option maxRecDepth 100000 in
theorem t_X13_place {l : Launch} (hls : l.stackTraces = false) {C : cT} (hC : CX C cX13_place 2 yX13_place rm_X13_place) (hl : C.2.1 = l) {S0 : mS} (hE : CE C S0 (Option.some Jvm.ClassFile.FieldType.long) []) {o : Rs Int64} {S : mS} {a0 : Nat} {a1 : Int32} (h : f_X13_place S a0 a1 = some o) : XX C 2 (QQ C (fun r : Int64 => some (.long r)) S0 o) 0 0 S 0 [(0, .ref a0), (1, .int a1)] [] := by
  unfold f_X13_place at h
  refine x_aload_n (pc := 0) hC 0 dX13_place_0 rfl rfl ?_
  refine x_iload_n (pc := 1) hC 1 dX13_place_1 rfl rfl ?_
  obtain ⟨g1, h⟩ := gd_some h
  obtain ⟨o4, ho4, h⟩ := bd_some h
  refine x_callV (pc := 2) (As := [.int a1]) (rest := []) hC hl (c_X13_isNoRecord l hls ho4) lk_RX13_136 fc_19 g1 dX13_place_2 rfl rfl (Nat.le_of_ble_eq_true rfl) ⟨Nat.le_of_ble_eq_true rfl, Nat.le_of_ble_eq_true rfl⟩ ⟨(Nat.le_of_ble_eq_true rfl), (Nat.le_of_ble_eq_true rfl)⟩ ?_
  rcases o4 with ⟨x2 | E5, S3⟩
  · refine xk_i ?_
    replace h := bk_l h
    refine x_if_eq (pc := 5) hC 12 dX13_place_5 (by decide) (fun c14 => ?_) (fun c14 => ?_)
    · rw [if_pos c14] at h
      refine x_aload_n (pc := 12) hC 0 dX13_place_12 rfl rfl ?_
      obtain ⟨g6, h⟩ := gd_some h
      refine x_getRv (pc := 13) (k := 2) hC fc_19 fl_RX13_19 dX13_place_13 rfl g6 (fun r7 hr7 => ?_)
      replace h := lt_x hr7 h
      refine x_iload_n (pc := 16) hC 1 dX13_place_16 rfl rfl ?_
      obtain ⟨g10, h⟩ := gd_some h
      obtain ⟨g9, h⟩ := gd_some h
      refine x_raldv (pc := 17) (t0 := 7) hC dX13_place_17 g10 (by decide) (fun _ => rfl) g9 (fun r11 hr11 => ?_)
      replace h := lt_x hr11 h
      obtain ⟨g12, h⟩ := gd_some h
      refine x_getLv (pc := 18) (k := 9) hC fc_17 fl_RX13_163 dX13_place_18 rfl g12 (fun x13 hx13 => ?_)
      replace h := lt_x hx13 h
      refine x_pick [] rfl ?_
      exact t_X13_place_21 hls hC hl hE h
    · rw [if_neg c14] at h
      refine x_lconst (pc := 8) (v := (0 : Int64)) hC dX13_place_8 (by decide) ?_
      refine x_goto (pc := 9) hC 21 dX13_place_9 (by decide) ?_
      refine x_pick [] rfl ?_
      exact t_X13_place_21 hls hC hl hE h
  · exact xk_r (xt_out hC hE (bk_r h) (Nat.le_of_ble_eq_true rfl) (Nat.le_of_ble_eq_true rfl))
theorem c_X13_place (l : Launch) (hls : l.stackTraces = false) {S : mS} {a0 : Nat} {a1 : Int32} {o : Rs Int64} (h : f_X13_place S a0 a1 = some o) : CT (fun r : Int64 => some (.long r)) l yX13_place (.code yX13_place cX13_place 2 (Option.some Jvm.ClassFile.FieldType.long)) rm_X13_place S [.ref a0, .int a1] o := ct_of (by decide +kernel) hls (Nat.le_of_ble_eq_true rfl) (fun C hl hC hE => t_X13_place hls hC hl hE h)
abbrev rm_X13_tempo : Room := { frames := 11, cells := 0, slots := 0, locals := 213 }
def f_X13_tempo_38  (S : mS) (s0 : Int32) : Option (Rs Int32) :=
  some (.inl s0, S)
set_option maxHeartbeats 2000000 in
set_option maxRecDepth 100000 in
theorem t_X13_tempo_38 {l : Launch} (hls : l.stackTraces = false) {C : cT} (hC : CX C cX13_tempo 2 yX13_tempo rm_X13_tempo) (hl : C.2.1 = l) {S0 : mS} (hE : CE C S0 (Option.some Jvm.ClassFile.FieldType.int) []) {o : Rs Int32} {S : mS} {s0 : Int32} (h : f_X13_tempo_38  S s0 = some o) : XX C 2 (QQ C (fun r : Int32 => some (.int r)) S0 o) (0) (0) S 38 [] [.int s0] := by
  unfold f_X13_tempo_38 at h
  exact x_ireturn (pc := 38) hC hE dX13_tempo_38 (so h) (Nat.le_of_ble_eq_true rfl) (Nat.le_of_ble_eq_true rfl)
def f_X13_tempo (S : mS) (a0 : Nat) (a1 : Int32) : Option (Rs Int32) :=
  gd (gK S a0 = 19) (bd (f_X13_isNoRecord S a0 a1) fun x2 S3 => if x2 = 0 then (gd (gK S3 a0 = 19) (lt9 (gR S3 a0 2) fun r7 => gd (gK S3 r7 = 37) (gd (¬ (a1 < 0 ∨ gZ S3 r7 ≤ (a1).toNatClampNeg)) (lt9 (gR S3 r7 (a1).toNatClampNeg) fun r11 => gd (gK S3 r11 = 17) (lt9 (gR S3 r11 0) fun r13 => gd (gK S3 r13 = 18) (lt9 (gI S3 r13 6) fun x15 => lt9 (gR S3 a0 2) fun r16 => gd (gK S3 r16 = 37) (gd (¬ (a1 < 0 ∨ gZ S3 r16 ≤ (a1).toNatClampNeg)) (lt9 (gR S3 r16 (a1).toNatClampNeg) fun r20 => gd (gK S3 r20 = 17) (lt9 (gI S3 r20 2) fun x22 => lt9 ((1000 : Int32) + x22) fun x23 => lt9 (x15 * x23) fun x24 => f_X13_tempo_38  S3 x24))))))))) else (f_X13_tempo_38  S3 (0 : Int32)))
set_option maxHeartbeats 2000000 in
set_option maxRecDepth 100000 in
theorem t_X13_tempo {l : Launch} (hls : l.stackTraces = false) {C : cT} (hC : CX C cX13_tempo 2 yX13_tempo rm_X13_tempo) (hl : C.2.1 = l) {S0 : mS} (hE : CE C S0 (Option.some Jvm.ClassFile.FieldType.int) []) {o : Rs Int32} {S : mS} {a0 : Nat} {a1 : Int32} (h : f_X13_tempo S a0 a1 = some o) : XX C 2 (QQ C (fun r : Int32 => some (.int r)) S0 o) 0 0 S 0 [(0, .ref a0), (1, .int a1)] [] := by
  unfold f_X13_tempo at h
  refine x_aload_n (pc := 0) hC 0 dX13_tempo_0 rfl rfl ?_
  refine x_iload_n (pc := 1) hC 1 dX13_tempo_1 rfl rfl ?_
  obtain ⟨g1, h⟩ := gd_some h
  obtain ⟨o4, ho4, h⟩ := bd_some h
  refine x_callV (pc := 2) (As := [.int a1]) (rest := []) hC hl (c_X13_isNoRecord l hls ho4) lk_RX13_136 fc_19 g1 dX13_tempo_2 rfl rfl (Nat.le_of_ble_eq_true rfl) ⟨Nat.le_of_ble_eq_true rfl, Nat.le_of_ble_eq_true rfl⟩ ⟨(Nat.le_of_ble_eq_true rfl), (Nat.le_of_ble_eq_true rfl)⟩ ?_
  rcases o4 with ⟨x2 | E5, S3⟩
  · refine xk_i ?_
    replace h := bk_l h
    refine x_if_eq (pc := 5) hC 12 dX13_tempo_5 (by decide) (fun c25 => ?_) (fun c25 => ?_)
    · rw [if_pos c25] at h
      refine x_aload_n (pc := 12) hC 0 dX13_tempo_12 rfl rfl ?_
      obtain ⟨g6, h⟩ := gd_some h
      refine x_getRv (pc := 13) (k := 2) hC fc_19 fl_RX13_19 dX13_tempo_13 rfl g6 (fun r7 hr7 => ?_)
      replace h := lt_x hr7 h
      refine x_iload_n (pc := 16) hC 1 dX13_tempo_16 rfl rfl ?_
      obtain ⟨g10, h⟩ := gd_some h
      obtain ⟨g9, h⟩ := gd_some h
      refine x_raldv (pc := 17) (t0 := 7) hC dX13_tempo_17 g10 (by decide) (fun _ => rfl) g9 (fun r11 hr11 => ?_)
      replace h := lt_x hr11 h
      obtain ⟨g12, h⟩ := gd_some h
      refine x_getRv (pc := 18) (k := 0) hC fc_17 fl_RX13_60 dX13_tempo_18 rfl g12 (fun r13 hr13 => ?_)
      replace h := lt_x hr13 h
      obtain ⟨g14, h⟩ := gd_some h
      refine x_getIv (pc := 21) (k := 6) hC fc_18 fl_RX13_95 dX13_tempo_21 rfl g14 (fun x15 hx15 => ?_)
      replace h := lt_x hx15 h
      refine x_sipush (pc := 24) (v := (1000 : Int32)) hC dX13_tempo_24 (by decide) ?_
      refine x_aload_n (pc := 27) hC 0 dX13_tempo_27 rfl rfl ?_
      refine x_getRv (pc := 28) (k := 2) hC fc_19 fl_RX13_19 dX13_tempo_28 rfl g6 (fun r16 hr16 => ?_)
      replace h := lt_x hr16 h
      refine x_iload_n (pc := 31) hC 1 dX13_tempo_31 rfl rfl ?_
      obtain ⟨g19, h⟩ := gd_some h
      obtain ⟨g18, h⟩ := gd_some h
      refine x_raldv (pc := 32) (t0 := 7) hC dX13_tempo_32 g19 (by decide) (fun _ => rfl) g18 (fun r20 hr20 => ?_)
      replace h := lt_x hr20 h
      obtain ⟨g21, h⟩ := gd_some h
      refine x_getIv (pc := 33) (k := 2) hC fc_17 fl_RX13_146 dX13_tempo_33 rfl g21 (fun x22 hx22 => ?_)
      replace h := lt_x hx22 h
      refine x_iaddv (pc := 36) hC dX13_tempo_36 (fun x23 hx23 => ?_)
      replace h := lt_x hx23 h
      refine x_imulv (pc := 37) hC dX13_tempo_37 (fun x24 hx24 => ?_)
      replace h := lt_x hx24 h
      refine x_pick [] rfl ?_
      exact t_X13_tempo_38 hls hC hl hE h
    · rw [if_neg c25] at h
      refine x_iconst (pc := 8) (v := (0 : Int32)) hC dX13_tempo_8 (by decide) ?_
      refine x_goto (pc := 9) hC 38 dX13_tempo_9 (by decide) ?_
      refine x_pick [] rfl ?_
      exact t_X13_tempo_38 hls hC hl hE h
  · exact xk_r (xt_out hC hE (bk_r h) (Nat.le_of_ble_eq_true rfl) (Nat.le_of_ble_eq_true rfl))
theorem c_X13_tempo (l : Launch) (hls : l.stackTraces = false) {S : mS} {a0 : Nat} {a1 : Int32} {o : Rs Int32} (h : f_X13_tempo S a0 a1 = some o) : CT (fun r : Int32 => some (.int r)) l yX13_tempo (.code yX13_tempo cX13_tempo 2 (Option.some Jvm.ClassFile.FieldType.int)) rm_X13_tempo S [.ref a0, .int a1] o := ct_of (by decide +kernel) hls (Nat.le_of_ble_eq_true rfl) (fun C hl hC hE => t_X13_tempo hls hC hl hE h)
abbrev rm_X13_plays : Room := { frames := 10, cells := 0, slots := 0, locals := 192 }
def f_X13_plays_36  (S : mS) (s0 : Int32) : Option (Rs Int32) :=
  gd (s0 = 0 ∨ s0 = 1) (some (.inl s0, S))
set_option maxHeartbeats 2000000 in
set_option maxRecDepth 100000 in
theorem t_X13_plays_36 {l : Launch} (hls : l.stackTraces = false) {C : cT} (hC : CX C cX13_plays 2 yX13_plays rm_X13_plays) (hl : C.2.1 = l) {S0 : mS} (hE : CE C S0 (Option.some Jvm.ClassFile.FieldType.boolean) []) {o : Rs Int32} {S : mS} {s0 : Int32} (h : f_X13_plays_36  S s0 = some o) : XX C 2 (QQ C (fun r : Int32 => some (.int r)) S0 o) (0) (0) S 36 [] [.int s0] := by
  unfold f_X13_plays_36 at h
  obtain ⟨g1, h⟩ := gd_some h
  exact x_zreturn (pc := 36) hC hE dX13_plays_36 (nf_B g1).1 (so h) (Nat.le_of_ble_eq_true rfl) (Nat.le_of_ble_eq_true rfl)
def f_X13_plays_35  (S : mS) : Option (Rs Int32) :=
  f_X13_plays_36  S (0 : Int32)
set_option maxHeartbeats 2000000 in
set_option maxRecDepth 100000 in
theorem t_X13_plays_35 {l : Launch} (hls : l.stackTraces = false) {C : cT} (hC : CX C cX13_plays 2 yX13_plays rm_X13_plays) (hl : C.2.1 = l) {S0 : mS} (hE : CE C S0 (Option.some Jvm.ClassFile.FieldType.boolean) []) {o : Rs Int32} {S : mS} (h : f_X13_plays_35  S = some o) : XX C 2 (QQ C (fun r : Int32 => some (.int r)) S0 o) (0) (0) S 35 [] [] := by
  unfold f_X13_plays_35 at h
  refine x_iconst (pc := 35) (v := (0 : Int32)) hC dX13_plays_35 (by decide) ?_
  refine x_pick [] rfl ?_
  exact t_X13_plays_36 hls hC hl hE h
def f_X13_plays_13  (S : mS) (a0 : Nat) (a1 : Int32) (s0 : Nat) (s1 : Int32) : Option (Rs Int32) :=
  gd (gK S s0 = 19) (bd (f_X13_isWrong S s0 s1) fun x2 S3 => if x2 = 0 then (gd (gK S3 a0 = 19) (lt9 (gR S3 a0 2) fun r7 => gd (gK S3 r7 = 37) (gd (¬ (a1 < 0 ∨ gZ S3 r7 ≤ (a1).toNatClampNeg)) (lt9 (gR S3 r7 (a1).toNatClampNeg) fun r11 => gd (gK S3 r11 = 17) (lt9 (gI S3 r11 13) fun x13 => if x13 = 0 then (f_X13_plays_35  S3) else (f_X13_plays_36  S3 (1 : Int32))))))) else (f_X13_plays_35  S3))
set_option maxHeartbeats 2000000 in
set_option maxRecDepth 100000 in
theorem t_X13_plays_13 {l : Launch} (hls : l.stackTraces = false) {C : cT} (hC : CX C cX13_plays 2 yX13_plays rm_X13_plays) (hl : C.2.1 = l) {S0 : mS} (hE : CE C S0 (Option.some Jvm.ClassFile.FieldType.boolean) []) {o : Rs Int32} {S : mS} {a0 : Nat} {a1 : Int32} {s0 : Nat} {s1 : Int32} (h : f_X13_plays_13  S a0 a1 s0 s1 = some o) : XX C 2 (QQ C (fun r : Int32 => some (.int r)) S0 o) (0) (0) S 13 [(0, .ref a0), (1, .int a1)] [.int s1, .ref s0] := by
  unfold f_X13_plays_13 at h
  obtain ⟨g1, h⟩ := gd_some h
  obtain ⟨o4, ho4, h⟩ := bd_some h
  refine x_callV (pc := 13) (As := [.int s1]) (rest := []) hC hl (c_X13_isWrong l hls ho4) lk_RX13_68 fc_19 g1 dX13_plays_13 rfl rfl (Nat.le_of_ble_eq_true rfl) ⟨Nat.le_of_ble_eq_true rfl, Nat.le_of_ble_eq_true rfl⟩ ⟨(Nat.le_of_ble_eq_true rfl), (Nat.le_of_ble_eq_true rfl)⟩ ?_
  rcases o4 with ⟨x2 | E5, S3⟩
  · refine xk_i ?_
    replace h := bk_l h
    refine x_if_ne (pc := 16) hC 35 dX13_plays_16 (by decide) (fun c15 => ?_) (fun c15 => ?_)
    · rw [if_neg c15] at h
      refine x_pick [] rfl ?_
      exact t_X13_plays_35 hls hC hl hE h
    · rw [if_pos c15] at h
      refine x_aload_n (pc := 19) hC 0 dX13_plays_19 rfl rfl ?_
      obtain ⟨g6, h⟩ := gd_some h
      refine x_getRv (pc := 20) (k := 2) hC fc_19 fl_RX13_19 dX13_plays_20 rfl g6 (fun r7 hr7 => ?_)
      replace h := lt_x hr7 h
      refine x_iload_n (pc := 23) hC 1 dX13_plays_23 rfl rfl ?_
      obtain ⟨g10, h⟩ := gd_some h
      obtain ⟨g9, h⟩ := gd_some h
      refine x_raldv (pc := 24) (t0 := 7) hC dX13_plays_24 g10 (by decide) (fun _ => rfl) g9 (fun r11 hr11 => ?_)
      replace h := lt_x hr11 h
      obtain ⟨g12, h⟩ := gd_some h
      refine x_getIv (pc := 25) (k := 13) hC fc_17 fl_RX13_124 dX13_plays_25 rfl g12 (fun x13 hx13 => ?_)
      replace h := lt_x hx13 h
      refine x_if_eq (pc := 28) hC 35 dX13_plays_28 (by decide) (fun c14 => ?_) (fun c14 => ?_)
      · rw [if_pos c14] at h
        refine x_pick [] rfl ?_
        exact t_X13_plays_35 hls hC hl hE h
      · rw [if_neg c14] at h
        refine x_iconst (pc := 31) (v := (1 : Int32)) hC dX13_plays_31 (by decide) ?_
        refine x_goto (pc := 32) hC 36 dX13_plays_32 (by decide) ?_
        refine x_pick [] rfl ?_
        exact t_X13_plays_36 hls hC hl hE h
  · exact xk_r (xt_out hC hE (bk_r h) (Nat.le_of_ble_eq_true rfl) (Nat.le_of_ble_eq_true rfl))
def f_X13_plays (S : mS) (a0 : Nat) (a1 : Int32) : Option (Rs Int32) :=
  bd (f_X13_isDeck S a1) fun x1 S2 => if x1 = 0 then (f_X13_plays_13  S2 a0 a1 a0 (1 : Int32)) else (f_X13_plays_13  S2 a0 a1 a0 (0 : Int32))
set_option maxHeartbeats 2000000 in
set_option maxRecDepth 100000 in
theorem t_X13_plays {l : Launch} (hls : l.stackTraces = false) {C : cT} (hC : CX C cX13_plays 2 yX13_plays rm_X13_plays) (hl : C.2.1 = l) {S0 : mS} (hE : CE C S0 (Option.some Jvm.ClassFile.FieldType.boolean) []) {o : Rs Int32} {S : mS} {a0 : Nat} {a1 : Int32} (h : f_X13_plays S a0 a1 = some o) : XX C 2 (QQ C (fun r : Int32 => some (.int r)) S0 o) 0 0 S 0 [(0, .ref a0), (1, .int a1)] [] := by
  unfold f_X13_plays at h
  refine x_aload_n (pc := 0) hC 0 dX13_plays_0 rfl rfl ?_
  refine x_iload_n (pc := 1) hC 1 dX13_plays_1 rfl rfl ?_
  obtain ⟨o3, ho3, h⟩ := bd_some h
  refine x_callS (pc := 2) (As := [.int a1]) (rest := [.ref a0]) hC hl (c_X13_isDeck l hls ho3) lk_RX13_121 dX13_plays_2 rfl rfl (Nat.le_of_ble_eq_true rfl) ⟨Nat.le_of_ble_eq_true rfl, Nat.le_of_ble_eq_true rfl⟩ ⟨(Nat.le_of_ble_eq_true rfl), (Nat.le_of_ble_eq_true rfl)⟩ ?_
  rcases o3 with ⟨x1 | E4, S2⟩
  · refine xk_i ?_
    replace h := bk_l h
    refine x_if_eq (pc := 5) hC 12 dX13_plays_5 (by decide) (fun c5 => ?_) (fun c5 => ?_)
    · rw [if_pos c5] at h
      refine x_iconst (pc := 12) (v := (1 : Int32)) hC dX13_plays_12 (by decide) ?_
      refine x_pick [0, 1] rfl ?_
      exact t_X13_plays_13 hls hC hl hE h
    · rw [if_neg c5] at h
      refine x_iconst (pc := 8) (v := (0 : Int32)) hC dX13_plays_8 (by decide) ?_
      refine x_goto (pc := 9) hC 13 dX13_plays_9 (by decide) ?_
      refine x_pick [0, 1] rfl ?_
      exact t_X13_plays_13 hls hC hl hE h
  · exact xk_r (xt_out hC hE (bk_r h) (Nat.le_of_ble_eq_true rfl) (Nat.le_of_ble_eq_true rfl))
theorem c_X13_plays (l : Launch) (hls : l.stackTraces = false) {S : mS} {a0 : Nat} {a1 : Int32} {o : Rs Int32} (h : f_X13_plays S a0 a1 = some o) : CT (fun r : Int32 => some (.int r)) l yX13_plays (.code yX13_plays cX13_plays 2 (Option.some Jvm.ClassFile.FieldType.boolean)) rm_X13_plays S [.ref a0, .int a1] o := ct_of (by decide +kernel) hls (Nat.le_of_ble_eq_true rfl) (fun C hl hC hE => t_X13_plays hls hC hl hE h)
abbrev rm_X13_on : Room := { frames := 11, cells := 0, slots := 0, locals := 213 }
def f_X13_on_21  (S : mS) (s0 : Int32) : Option (Rs Int32) :=
  some (.inl s0, S)
set_option maxHeartbeats 2000000 in
set_option maxRecDepth 100000 in
theorem t_X13_on_21 {l : Launch} (hls : l.stackTraces = false) {C : cT} (hC : CX C cX13_on 2 yX13_on rm_X13_on) (hl : C.2.1 = l) {S0 : mS} (hE : CE C S0 (Option.some Jvm.ClassFile.FieldType.int) []) {o : Rs Int32} {S : mS} {s0 : Int32} (h : f_X13_on_21  S s0 = some o) : XX C 2 (QQ C (fun r : Int32 => some (.int r)) S0 o) (0) (0) S 21 [] [.int s0] := by
  unfold f_X13_on_21 at h
  exact x_ireturn (pc := 21) hC hE dX13_on_21 (so h) (Nat.le_of_ble_eq_true rfl) (Nat.le_of_ble_eq_true rfl)
def f_X13_on (S : mS) (a0 : Nat) (a1 : Int32) : Option (Rs Int32) :=
  gd (gK S a0 = 19) (bd (f_X13_isNoRecord S a0 a1) fun x2 S3 => if x2 = 0 then (gd (gK S3 a0 = 19) (lt9 (gR S3 a0 2) fun r7 => gd (gK S3 r7 = 37) (gd (¬ (a1 < 0 ∨ gZ S3 r7 ≤ (a1).toNatClampNeg)) (lt9 (gR S3 r7 (a1).toNatClampNeg) fun r11 => gd (gK S3 r11 = 17) (lt9 (gI S3 r11 1) fun x13 => f_X13_on_21  S3 x13))))) else (f_X13_on_21  S3 (0 : Int32)))
set_option maxHeartbeats 2000000 in
set_option maxRecDepth 100000 in
theorem t_X13_on {l : Launch} (hls : l.stackTraces = false) {C : cT} (hC : CX C cX13_on 2 yX13_on rm_X13_on) (hl : C.2.1 = l) {S0 : mS} (hE : CE C S0 (Option.some Jvm.ClassFile.FieldType.int) []) {o : Rs Int32} {S : mS} {a0 : Nat} {a1 : Int32} (h : f_X13_on S a0 a1 = some o) : XX C 2 (QQ C (fun r : Int32 => some (.int r)) S0 o) 0 0 S 0 [(0, .ref a0), (1, .int a1)] [] := by
  unfold f_X13_on at h
  refine x_aload_n (pc := 0) hC 0 dX13_on_0 rfl rfl ?_
  refine x_iload_n (pc := 1) hC 1 dX13_on_1 rfl rfl ?_
  obtain ⟨g1, h⟩ := gd_some h
  obtain ⟨o4, ho4, h⟩ := bd_some h
  refine x_callV (pc := 2) (As := [.int a1]) (rest := []) hC hl (c_X13_isNoRecord l hls ho4) lk_RX13_136 fc_19 g1 dX13_on_2 rfl rfl (Nat.le_of_ble_eq_true rfl) ⟨Nat.le_of_ble_eq_true rfl, Nat.le_of_ble_eq_true rfl⟩ ⟨(Nat.le_of_ble_eq_true rfl), (Nat.le_of_ble_eq_true rfl)⟩ ?_
  rcases o4 with ⟨x2 | E5, S3⟩
  · refine xk_i ?_
    replace h := bk_l h
    refine x_if_eq (pc := 5) hC 12 dX13_on_5 (by decide) (fun c14 => ?_) (fun c14 => ?_)
    · rw [if_pos c14] at h
      refine x_aload_n (pc := 12) hC 0 dX13_on_12 rfl rfl ?_
      obtain ⟨g6, h⟩ := gd_some h
      refine x_getRv (pc := 13) (k := 2) hC fc_19 fl_RX13_19 dX13_on_13 rfl g6 (fun r7 hr7 => ?_)
      replace h := lt_x hr7 h
      refine x_iload_n (pc := 16) hC 1 dX13_on_16 rfl rfl ?_
      obtain ⟨g10, h⟩ := gd_some h
      obtain ⟨g9, h⟩ := gd_some h
      refine x_raldv (pc := 17) (t0 := 7) hC dX13_on_17 g10 (by decide) (fun _ => rfl) g9 (fun r11 hr11 => ?_)
      replace h := lt_x hr11 h
      obtain ⟨g12, h⟩ := gd_some h
      refine x_getIv (pc := 18) (k := 1) hC fc_17 fl_RX13_127 dX13_on_18 rfl g12 (fun x13 hx13 => ?_)
      replace h := lt_x hx13 h
      refine x_pick [] rfl ?_
      exact t_X13_on_21 hls hC hl hE h
    · rw [if_neg c14] at h
      refine x_iconst (pc := 8) (v := (0 : Int32)) hC dX13_on_8 (by decide) ?_
      refine x_goto (pc := 9) hC 21 dX13_on_9 (by decide) ?_
      refine x_pick [] rfl ?_
      exact t_X13_on_21 hls hC hl hE h
  · exact xk_r (xt_out hC hE (bk_r h) (Nat.le_of_ble_eq_true rfl) (Nat.le_of_ble_eq_true rfl))
theorem c_X13_on (l : Launch) (hls : l.stackTraces = false) {S : mS} {a0 : Nat} {a1 : Int32} {o : Rs Int32} (h : f_X13_on S a0 a1 = some o) : CT (fun r : Int32 => some (.int r)) l yX13_on (.code yX13_on cX13_on 2 (Option.some Jvm.ClassFile.FieldType.int)) rm_X13_on S [.ref a0, .int a1] o := ct_of (by decide +kernel) hls (Nat.le_of_ble_eq_true rfl) (fun C hl hC hE => t_X13_on hls hC hl hE h)
abbrev rm_X13_setFader : Room := { frames := 10, cells := 0, slots := 0, locals := 192 }
def f_X13_setFader_27  (S : mS) (a0 : Nat) (a1 : Int32) (a2 : Int32) (s0 : Nat) (s1 : Int32) : Option (Rs Int32) :=
  gd (gK S s0 = 19) (bd (f_X13_isWrong S s0 s1) fun x2 S3 => if x2 = 0 then (gd (gK S3 a0 = 19) (lt9 (gR S3 a0 2) fun r7 => gd (gK S3 r7 = 37) (gd (¬ (a1 < 0 ∨ gZ S3 r7 ≤ (a1).toNatClampNeg)) (lt9 (gR S3 r7 (a1).toNatClampNeg) fun r11 => gd (gK S3 r11 = 17) (lt9 (gI S3 r11 5) fun x13 => lt9 (gR S3 a0 2) fun r14 => gd (gK S3 r14 = 37) (gd (¬ (a1 < 0 ∨ gZ S3 r14 ≤ (a1).toNatClampNeg)) (lt9 (gR S3 r14 (a1).toNatClampNeg) fun r18 => gd (gK S3 r18 = 17) (zI (sI S3 r18 5 a2) fun S20 => bd (f_X13_logs S20 a0) fun _ S27 => some (.inl x13, S27))))))))) else (some (.inl (0 : Int32), S3)))
set_option maxHeartbeats 2000000 in
set_option maxRecDepth 100000 in
theorem t_X13_setFader_27 {l : Launch} (hls : l.stackTraces = false) {C : cT} (hC : CX C cX13_setFader 4 yX13_setFader rm_X13_setFader) (hl : C.2.1 = l) {S0 : mS} (hE : CE C S0 (Option.some Jvm.ClassFile.FieldType.int) []) {o : Rs Int32} {S : mS} {a0 : Nat} {a1 : Int32} {a2 : Int32} {s0 : Nat} {s1 : Int32} (h : f_X13_setFader_27  S a0 a1 a2 s0 s1 = some o) : XX C 4 (QQ C (fun r : Int32 => some (.int r)) S0 o) (0) (0) S 27 [(0, .ref a0), (1, .int a1), (2, .int a2)] [.int s1, .ref s0] := by
  unfold f_X13_setFader_27 at h
  obtain ⟨g1, h⟩ := gd_some h
  obtain ⟨o4, ho4, h⟩ := bd_some h
  refine x_callV (pc := 27) (As := [.int s1]) (rest := []) hC hl (c_X13_isWrong l hls ho4) lk_RX13_68 fc_19 g1 dX13_setFader_27 rfl rfl (Nat.le_of_ble_eq_true rfl) ⟨Nat.le_of_ble_eq_true rfl, Nat.le_of_ble_eq_true rfl⟩ ⟨(Nat.le_of_ble_eq_true rfl), (Nat.le_of_ble_eq_true rfl)⟩ ?_
  rcases o4 with ⟨x2 | E5, S3⟩
  · refine xk_i ?_
    replace h := bk_l h
    refine x_if_eq (pc := 30) hC 35 dX13_setFader_30 (by decide) (fun c30 => ?_) (fun c30 => ?_)
    · rw [if_pos c30] at h
      refine x_aload_n (pc := 35) hC 0 dX13_setFader_35 rfl rfl ?_
      obtain ⟨g6, h⟩ := gd_some h
      refine x_getRv (pc := 36) (k := 2) hC fc_19 fl_RX13_19 dX13_setFader_36 rfl g6 (fun r7 hr7 => ?_)
      replace h := lt_x hr7 h
      refine x_iload_n (pc := 39) hC 1 dX13_setFader_39 rfl rfl ?_
      obtain ⟨g10, h⟩ := gd_some h
      obtain ⟨g9, h⟩ := gd_some h
      refine x_raldv (pc := 40) (t0 := 7) hC dX13_setFader_40 g10 (by decide) (fun _ => rfl) g9 (fun r11 hr11 => ?_)
      replace h := lt_x hr11 h
      obtain ⟨g12, h⟩ := gd_some h
      refine x_getIv (pc := 41) (k := 5) hC fc_17 fl_RX13_199 dX13_setFader_41 rfl g12 (fun x13 hx13 => ?_)
      replace h := lt_x hx13 h
      refine x_istore_n (pc := 44) hC dX13_setFader_44 rfl (by decide) (by decide) rfl ?_
      refine x_aload_n (pc := 45) hC 1 dX13_setFader_45 rfl rfl ?_
      refine x_getRv (pc := 46) (k := 2) hC fc_19 fl_RX13_19 dX13_setFader_46 rfl g6 (fun r14 hr14 => ?_)
      replace h := lt_x hr14 h
      refine x_iload_n (pc := 49) hC 2 dX13_setFader_49 rfl rfl ?_
      obtain ⟨g17, h⟩ := gd_some h
      obtain ⟨g16, h⟩ := gd_some h
      refine x_raldv (pc := 50) (t0 := 7) hC dX13_setFader_50 g17 (by decide) (fun _ => rfl) g16 (fun r18 hr18 => ?_)
      replace h := lt_x hr18 h
      refine x_iload_n (pc := 51) hC 3 dX13_setFader_51 rfl rfl ?_
      obtain ⟨g19, h⟩ := gd_some h
      refine x_putIv (pc := 52) (k := 5) hC fc_17 fl_RX13_199 dX13_setFader_52 rfl rfl (nf_int _) g19 (fun S20 hS20 => ?_)
      replace h := zI_x hS20 h
      have g21 : gK S20 a0 = 19 := by rw [hS20]; exact g6
      have g22 : gK S20 r7 = 37 := by rw [hS20]; exact g10
      have g23 : gK S20 r11 = 17 := by rw [hS20]; exact g12
      have g24 : gK S20 r14 = 37 := by rw [hS20]; exact g17
      have g25 : gK S20 r18 = 17 := by rw [hS20]; exact g19
      refine x_aload_n (pc := 55) hC 1 dX13_setFader_55 rfl rfl ?_
      obtain ⟨o28, ho28, h⟩ := bd_some h
      refine x_callV (pc := 56) (As := []) (rest := []) hC hl (c_X13_logs l hls ho28) lk_RX13_81 fc_19 g21 dX13_setFader_56 rfl rfl (Nat.le_of_ble_eq_true rfl) ⟨Nat.le_of_ble_eq_true rfl, Nat.le_of_ble_eq_true rfl⟩ ⟨(Nat.le_of_ble_eq_true rfl), (Nat.le_of_ble_eq_true rfl)⟩ ?_
      rcases o28 with ⟨_ | E29, S27⟩
      · refine xk_v ?_
        replace h := bk_l h
        refine x_iload_n (pc := 59) hC 0 dX13_setFader_59 rfl rfl ?_
        exact x_ireturn (pc := 60) hC hE dX13_setFader_60 (so h) (Nat.le_of_ble_eq_true rfl) (Nat.le_of_ble_eq_true rfl)
      · exact xk_r (xt_out hC hE (bk_r h) (Nat.le_of_ble_eq_true rfl) (Nat.le_of_ble_eq_true rfl))
    · rw [if_neg c30] at h
      refine x_iconst (pc := 33) (v := (0 : Int32)) hC dX13_setFader_33 (by decide) ?_
      exact x_ireturn (pc := 34) hC hE dX13_setFader_34 (so h) (Nat.le_of_ble_eq_true rfl) (Nat.le_of_ble_eq_true rfl)
  · exact xk_r (xt_out hC hE (bk_r h) (Nat.le_of_ble_eq_true rfl) (Nat.le_of_ble_eq_true rfl))
def f_X13_setFader (S : mS) (a0 : Nat) (a1 : Int32) (a2 : Int32) : Option (Rs Int32) :=
  bd (f_X13_isDeck S a1) fun x1 S2 => if x1 = 0 then (f_X13_setFader_27  S2 a0 a1 a2 a0 (1 : Int32)) else (bd (f_X13_isBetween S2 a2 (0 : Int32) (100 : Int32)) fun x5 S6 => if x5 = 0 then (f_X13_setFader_27  S6 a0 a1 a2 a0 (2 : Int32)) else (f_X13_setFader_27  S6 a0 a1 a2 a0 (0 : Int32)))
set_option maxHeartbeats 2000000 in
set_option maxRecDepth 100000 in
theorem t_X13_setFader {l : Launch} (hls : l.stackTraces = false) {C : cT} (hC : CX C cX13_setFader 4 yX13_setFader rm_X13_setFader) (hl : C.2.1 = l) {S0 : mS} (hE : CE C S0 (Option.some Jvm.ClassFile.FieldType.int) []) {o : Rs Int32} {S : mS} {a0 : Nat} {a1 : Int32} {a2 : Int32} (h : f_X13_setFader S a0 a1 a2 = some o) : XX C 4 (QQ C (fun r : Int32 => some (.int r)) S0 o) 0 0 S 0 [(0, .ref a0), (1, .int a1), (2, .int a2)] [] := by
  unfold f_X13_setFader at h
  refine x_aload_n (pc := 0) hC 0 dX13_setFader_0 rfl rfl ?_
  refine x_iload_n (pc := 1) hC 1 dX13_setFader_1 rfl rfl ?_
  obtain ⟨o3, ho3, h⟩ := bd_some h
  refine x_callS (pc := 2) (As := [.int a1]) (rest := [.ref a0]) hC hl (c_X13_isDeck l hls ho3) lk_RX13_121 dX13_setFader_2 rfl rfl (Nat.le_of_ble_eq_true rfl) ⟨Nat.le_of_ble_eq_true rfl, Nat.le_of_ble_eq_true rfl⟩ ⟨(Nat.le_of_ble_eq_true rfl), (Nat.le_of_ble_eq_true rfl)⟩ ?_
  rcases o3 with ⟨x1 | E4, S2⟩
  · refine xk_i ?_
    replace h := bk_l h
    refine x_if_ne (pc := 5) hC 12 dX13_setFader_5 (by decide) (fun c10 => ?_) (fun c10 => ?_)
    · rw [if_neg c10] at h
      refine x_iload_n (pc := 12) hC 2 dX13_setFader_12 rfl rfl ?_
      refine x_iconst (pc := 13) (v := (0 : Int32)) hC dX13_setFader_13 (by decide) ?_
      refine x_bipush (pc := 14) (v := (100 : Int32)) hC dX13_setFader_14 (by decide) ?_
      obtain ⟨o7, ho7, h⟩ := bd_some h
      refine x_callS (pc := 16) (As := [.int a2, .int (0 : Int32), .int (100 : Int32)]) (rest := [.ref a0]) hC hl (c_X13_isBetween l hls ho7) lk_RX13_50 dX13_setFader_16 rfl rfl (Nat.le_of_ble_eq_true rfl) ⟨Nat.le_of_ble_eq_true rfl, Nat.le_of_ble_eq_true rfl⟩ ⟨(Nat.le_of_ble_eq_true rfl), (Nat.le_of_ble_eq_true rfl)⟩ ?_
      rcases o7 with ⟨x5 | E8, S6⟩
      · refine xk_i ?_
        replace h := bk_l h
        refine x_if_ne (pc := 19) hC 26 dX13_setFader_19 (by decide) (fun c9 => ?_) (fun c9 => ?_)
        · rw [if_neg c9] at h
          refine x_iconst (pc := 26) (v := (0 : Int32)) hC dX13_setFader_26 (by decide) ?_
          refine x_pick [0, 1, 2] rfl ?_
          exact t_X13_setFader_27 hls hC hl hE h
        · rw [if_pos c9] at h
          refine x_iconst (pc := 22) (v := (2 : Int32)) hC dX13_setFader_22 (by decide) ?_
          refine x_goto (pc := 23) hC 27 dX13_setFader_23 (by decide) ?_
          refine x_pick [0, 1, 2] rfl ?_
          exact t_X13_setFader_27 hls hC hl hE h
      · exact xk_r (xt_out hC hE (bk_r h) (Nat.le_of_ble_eq_true rfl) (Nat.le_of_ble_eq_true rfl))
    · rw [if_pos c10] at h
      refine x_iconst (pc := 8) (v := (1 : Int32)) hC dX13_setFader_8 (by decide) ?_
      refine x_goto (pc := 9) hC 27 dX13_setFader_9 (by decide) ?_
      refine x_pick [0, 1, 2] rfl ?_
      exact t_X13_setFader_27 hls hC hl hE h
  · exact xk_r (xt_out hC hE (bk_r h) (Nat.le_of_ble_eq_true rfl) (Nat.le_of_ble_eq_true rfl))
theorem c_X13_setFader (l : Launch) (hls : l.stackTraces = false) {S : mS} {a0 : Nat} {a1 : Int32} {a2 : Int32} {o : Rs Int32} (h : f_X13_setFader S a0 a1 a2 = some o) : CT (fun r : Int32 => some (.int r)) l yX13_setFader (.code yX13_setFader cX13_setFader 4 (Option.some Jvm.ClassFile.FieldType.int)) rm_X13_setFader S [.ref a0, .int a1, .int a2] o := ct_of (by decide +kernel) hls (Nat.le_of_ble_eq_true rfl) (fun C hl hC hE => t_X13_setFader hls hC hl hE h)
abbrev rm_X13_setBand : Room := { frames := 10, cells := 0, slots := 0, locals := 192 }
def f_X13_setBand_36  (S : mS) (a0 : Nat) (a1 : Int32) (a2 : Int32) (a3 : Int32) (s0 : Nat) (s1 : Int32) : Option (Rs Int32) :=
  gd (gK S s0 = 19) (bd (f_X13_isWrong S s0 s1) fun x2 S3 => if x2 = 0 then (gd (gK S3 a0 = 19) (lt9 (gR S3 a0 2) fun r7 => gd (gK S3 r7 = 37) (gd (¬ (a1 < 0 ∨ gZ S3 r7 ≤ (a1).toNatClampNeg)) (lt9 (gR S3 r7 (a1).toNatClampNeg) fun r11 => gd (gK S3 r11 = 17) (lt9 (gR S3 r11 6) fun r13 => gd (gK S3 r13 = 30) (gd (¬ (a2 < 0 ∨ gZ S3 r13 ≤ (a2).toNatClampNeg)) (lt9 (gI S3 r13 (a2).toNatClampNeg) fun x17 => lt9 (gR S3 a0 2) fun r18 => gd (gK S3 r18 = 37) (gd (¬ (a1 < 0 ∨ gZ S3 r18 ≤ (a1).toNatClampNeg)) (lt9 (gR S3 r18 (a1).toNatClampNeg) fun r22 => gd (gK S3 r22 = 17) (lt9 (gR S3 r22 6) fun r24 => gd (gK S3 r24 = 30) (gd (¬ (a2 < 0 ∨ gZ S3 r24 ≤ (a2).toNatClampNeg)) (zI (sI S3 r24 (a2).toNatClampNeg a3) fun S27 => bd (f_X13_logs S27 a0) fun _ S36 => some (.inl x17, S36))))))))))))) else (some (.inl (0 : Int32), S3)))
set_option maxHeartbeats 2000000 in
set_option maxRecDepth 100000 in
theorem t_X13_setBand_36 {l : Launch} (hls : l.stackTraces = false) {C : cT} (hC : CX C cX13_setBand 5 yX13_setBand rm_X13_setBand) (hl : C.2.1 = l) {S0 : mS} (hE : CE C S0 (Option.some Jvm.ClassFile.FieldType.int) []) {o : Rs Int32} {S : mS} {a0 : Nat} {a1 : Int32} {a2 : Int32} {a3 : Int32} {s0 : Nat} {s1 : Int32} (h : f_X13_setBand_36  S a0 a1 a2 a3 s0 s1 = some o) : XX C 5 (QQ C (fun r : Int32 => some (.int r)) S0 o) (0) (0) S 36 [(0, .ref a0), (1, .int a1), (2, .int a2), (3, .int a3)] [.int s1, .ref s0] := by
  unfold f_X13_setBand_36 at h
  obtain ⟨g1, h⟩ := gd_some h
  obtain ⟨o4, ho4, h⟩ := bd_some h
  refine x_callV (pc := 36) (As := [.int s1]) (rest := []) hC hl (c_X13_isWrong l hls ho4) lk_RX13_68 fc_19 g1 dX13_setBand_36 rfl rfl (Nat.le_of_ble_eq_true rfl) ⟨Nat.le_of_ble_eq_true rfl, Nat.le_of_ble_eq_true rfl⟩ ⟨(Nat.le_of_ble_eq_true rfl), (Nat.le_of_ble_eq_true rfl)⟩ ?_
  rcases o4 with ⟨x2 | E5, S3⟩
  · refine xk_i ?_
    replace h := bk_l h
    refine x_if_eq (pc := 39) hC 44 dX13_setBand_39 (by decide) (fun c39 => ?_) (fun c39 => ?_)
    · rw [if_pos c39] at h
      refine x_aload_n (pc := 44) hC 0 dX13_setBand_44 rfl rfl ?_
      obtain ⟨g6, h⟩ := gd_some h
      refine x_getRv (pc := 45) (k := 2) hC fc_19 fl_RX13_19 dX13_setBand_45 rfl g6 (fun r7 hr7 => ?_)
      replace h := lt_x hr7 h
      refine x_iload_n (pc := 48) hC 1 dX13_setBand_48 rfl rfl ?_
      obtain ⟨g10, h⟩ := gd_some h
      obtain ⟨g9, h⟩ := gd_some h
      refine x_raldv (pc := 49) (t0 := 7) hC dX13_setBand_49 g10 (by decide) (fun _ => rfl) g9 (fun r11 hr11 => ?_)
      replace h := lt_x hr11 h
      obtain ⟨g12, h⟩ := gd_some h
      refine x_getRv (pc := 50) (k := 6) hC fc_17 fl_RX13_202 dX13_setBand_50 rfl g12 (fun r13 hr13 => ?_)
      replace h := lt_x hr13 h
      refine x_iload_n (pc := 53) hC 2 dX13_setBand_53 rfl rfl ?_
      obtain ⟨g16, h⟩ := gd_some h
      obtain ⟨g15, h⟩ := gd_some h
      refine x_ialdv (pc := 54) hC dX13_setBand_54 g16 g15 (fun x17 hx17 => ?_)
      replace h := lt_x hx17 h
      refine x_istore (pc := 55) hC dX13_setBand_55 (by decide) (by decide) rfl ?_
      refine x_aload_n (pc := 57) hC 1 dX13_setBand_57 rfl rfl ?_
      refine x_getRv (pc := 58) (k := 2) hC fc_19 fl_RX13_19 dX13_setBand_58 rfl g6 (fun r18 hr18 => ?_)
      replace h := lt_x hr18 h
      refine x_iload_n (pc := 61) hC 2 dX13_setBand_61 rfl rfl ?_
      obtain ⟨g21, h⟩ := gd_some h
      obtain ⟨g20, h⟩ := gd_some h
      refine x_raldv (pc := 62) (t0 := 7) hC dX13_setBand_62 g21 (by decide) (fun _ => rfl) g20 (fun r22 hr22 => ?_)
      replace h := lt_x hr22 h
      obtain ⟨g23, h⟩ := gd_some h
      refine x_getRv (pc := 63) (k := 6) hC fc_17 fl_RX13_202 dX13_setBand_63 rfl g23 (fun r24 hr24 => ?_)
      replace h := lt_x hr24 h
      refine x_iload_n (pc := 66) hC 3 dX13_setBand_66 rfl rfl ?_
      refine x_iload_n (pc := 67) hC 4 dX13_setBand_67 rfl rfl ?_
      obtain ⟨g26, h⟩ := gd_some h
      obtain ⟨g25, h⟩ := gd_some h
      refine x_iastv (pc := 68) hC dX13_setBand_68 g26 g25 (fun S27 hS27 => ?_)
      replace h := zI_x hS27 h
      have g28 : gK S27 a0 = 19 := by rw [hS27]; exact g6
      have g29 : gK S27 r7 = 37 := by rw [hS27]; exact g10
      have g30 : gK S27 r11 = 17 := by rw [hS27]; exact g12
      have g31 : gK S27 r13 = 30 := by rw [hS27]; exact g16
      have g32 : gK S27 r18 = 37 := by rw [hS27]; exact g21
      have g33 : gK S27 r22 = 17 := by rw [hS27]; exact g23
      have g34 : gK S27 r24 = 30 := by rw [hS27]; exact g26
      refine x_aload_n (pc := 69) hC 1 dX13_setBand_69 rfl rfl ?_
      obtain ⟨o37, ho37, h⟩ := bd_some h
      refine x_callV (pc := 70) (As := []) (rest := []) hC hl (c_X13_logs l hls ho37) lk_RX13_81 fc_19 g28 dX13_setBand_70 rfl rfl (Nat.le_of_ble_eq_true rfl) ⟨Nat.le_of_ble_eq_true rfl, Nat.le_of_ble_eq_true rfl⟩ ⟨(Nat.le_of_ble_eq_true rfl), (Nat.le_of_ble_eq_true rfl)⟩ ?_
      rcases o37 with ⟨_ | E38, S36⟩
      · refine xk_v ?_
        replace h := bk_l h
        refine x_iload (pc := 73) hC 0 dX13_setBand_73 rfl ?_
        exact x_ireturn (pc := 75) hC hE dX13_setBand_75 (so h) (Nat.le_of_ble_eq_true rfl) (Nat.le_of_ble_eq_true rfl)
      · exact xk_r (xt_out hC hE (bk_r h) (Nat.le_of_ble_eq_true rfl) (Nat.le_of_ble_eq_true rfl))
    · rw [if_neg c39] at h
      refine x_iconst (pc := 42) (v := (0 : Int32)) hC dX13_setBand_42 (by decide) ?_
      exact x_ireturn (pc := 43) hC hE dX13_setBand_43 (so h) (Nat.le_of_ble_eq_true rfl) (Nat.le_of_ble_eq_true rfl)
  · exact xk_r (xt_out hC hE (bk_r h) (Nat.le_of_ble_eq_true rfl) (Nat.le_of_ble_eq_true rfl))
def f_X13_setBand_31  (S : mS) (a0 : Nat) (a1 : Int32) (a2 : Int32) (a3 : Int32) (s0 : Nat) : Option (Rs Int32) :=
  f_X13_setBand_36  S a0 a1 a2 a3 s0 (2 : Int32)
set_option maxHeartbeats 2000000 in
set_option maxRecDepth 100000 in
theorem t_X13_setBand_31 {l : Launch} (hls : l.stackTraces = false) {C : cT} (hC : CX C cX13_setBand 5 yX13_setBand rm_X13_setBand) (hl : C.2.1 = l) {S0 : mS} (hE : CE C S0 (Option.some Jvm.ClassFile.FieldType.int) []) {o : Rs Int32} {S : mS} {a0 : Nat} {a1 : Int32} {a2 : Int32} {a3 : Int32} {s0 : Nat} (h : f_X13_setBand_31  S a0 a1 a2 a3 s0 = some o) : XX C 5 (QQ C (fun r : Int32 => some (.int r)) S0 o) (0) (0) S 31 [(0, .ref a0), (1, .int a1), (2, .int a2), (3, .int a3)] [.ref s0] := by
  unfold f_X13_setBand_31 at h
  refine x_iconst (pc := 31) (v := (2 : Int32)) hC dX13_setBand_31 (by decide) ?_
  refine x_goto (pc := 32) hC 36 dX13_setBand_32 (by decide) ?_
  refine x_pick [0, 1, 2, 3] rfl ?_
  exact t_X13_setBand_36 hls hC hl hE h
def f_X13_setBand (S : mS) (a0 : Nat) (a1 : Int32) (a2 : Int32) (a3 : Int32) : Option (Rs Int32) :=
  bd (f_X13_isDeck S a1) fun x1 S2 => if x1 = 0 then (f_X13_setBand_36  S2 a0 a1 a2 a3 a0 (1 : Int32)) else (bd (f_X13_isBetween S2 a2 (0 : Int32) (2 : Int32)) fun x5 S6 => if x5 = 0 then (f_X13_setBand_31  S6 a0 a1 a2 a3 a0) else (bd (f_X13_isBetween S6 a3 (0 : Int32) (100 : Int32)) fun x9 S10 => if x9 = 0 then (f_X13_setBand_31  S10 a0 a1 a2 a3 a0) else (f_X13_setBand_36  S10 a0 a1 a2 a3 a0 (0 : Int32))))
set_option maxHeartbeats 2000000 in
set_option maxRecDepth 100000 in
theorem t_X13_setBand {l : Launch} (hls : l.stackTraces = false) {C : cT} (hC : CX C cX13_setBand 5 yX13_setBand rm_X13_setBand) (hl : C.2.1 = l) {S0 : mS} (hE : CE C S0 (Option.some Jvm.ClassFile.FieldType.int) []) {o : Rs Int32} {S : mS} {a0 : Nat} {a1 : Int32} {a2 : Int32} {a3 : Int32} (h : f_X13_setBand S a0 a1 a2 a3 = some o) : XX C 5 (QQ C (fun r : Int32 => some (.int r)) S0 o) 0 0 S 0 [(0, .ref a0), (1, .int a1), (2, .int a2), (3, .int a3)] [] := by
  unfold f_X13_setBand at h
  refine x_aload_n (pc := 0) hC 0 dX13_setBand_0 rfl rfl ?_
  refine x_iload_n (pc := 1) hC 1 dX13_setBand_1 rfl rfl ?_
  obtain ⟨o3, ho3, h⟩ := bd_some h
  refine x_callS (pc := 2) (As := [.int a1]) (rest := [.ref a0]) hC hl (c_X13_isDeck l hls ho3) lk_RX13_121 dX13_setBand_2 rfl rfl (Nat.le_of_ble_eq_true rfl) ⟨Nat.le_of_ble_eq_true rfl, Nat.le_of_ble_eq_true rfl⟩ ⟨(Nat.le_of_ble_eq_true rfl), (Nat.le_of_ble_eq_true rfl)⟩ ?_
  rcases o3 with ⟨x1 | E4, S2⟩
  · refine xk_i ?_
    replace h := bk_l h
    refine x_if_ne (pc := 5) hC 12 dX13_setBand_5 (by decide) (fun c15 => ?_) (fun c15 => ?_)
    · rw [if_neg c15] at h
      refine x_iload_n (pc := 12) hC 2 dX13_setBand_12 rfl rfl ?_
      refine x_iconst (pc := 13) (v := (0 : Int32)) hC dX13_setBand_13 (by decide) ?_
      refine x_iconst (pc := 14) (v := (2 : Int32)) hC dX13_setBand_14 (by decide) ?_
      obtain ⟨o7, ho7, h⟩ := bd_some h
      refine x_callS (pc := 15) (As := [.int a2, .int (0 : Int32), .int (2 : Int32)]) (rest := [.ref a0]) hC hl (c_X13_isBetween l hls ho7) lk_RX13_50 dX13_setBand_15 rfl rfl (Nat.le_of_ble_eq_true rfl) ⟨Nat.le_of_ble_eq_true rfl, Nat.le_of_ble_eq_true rfl⟩ ⟨(Nat.le_of_ble_eq_true rfl), (Nat.le_of_ble_eq_true rfl)⟩ ?_
      rcases o7 with ⟨x5 | E8, S6⟩
      · refine xk_i ?_
        replace h := bk_l h
        refine x_if_eq (pc := 18) hC 31 dX13_setBand_18 (by decide) (fun c14 => ?_) (fun c14 => ?_)
        · rw [if_pos c14] at h
          refine x_pick [0, 1, 2, 3] rfl ?_
          exact t_X13_setBand_31 hls hC hl hE h
        · rw [if_neg c14] at h
          refine x_iload_n (pc := 21) hC 3 dX13_setBand_21 rfl rfl ?_
          refine x_iconst (pc := 22) (v := (0 : Int32)) hC dX13_setBand_22 (by decide) ?_
          refine x_bipush (pc := 23) (v := (100 : Int32)) hC dX13_setBand_23 (by decide) ?_
          obtain ⟨o11, ho11, h⟩ := bd_some h
          refine x_callS (pc := 25) (As := [.int a3, .int (0 : Int32), .int (100 : Int32)]) (rest := [.ref a0]) hC hl (c_X13_isBetween l hls ho11) lk_RX13_50 dX13_setBand_25 rfl rfl (Nat.le_of_ble_eq_true rfl) ⟨Nat.le_of_ble_eq_true rfl, Nat.le_of_ble_eq_true rfl⟩ ⟨(Nat.le_of_ble_eq_true rfl), (Nat.le_of_ble_eq_true rfl)⟩ ?_
          rcases o11 with ⟨x9 | E12, S10⟩
          · refine xk_i ?_
            replace h := bk_l h
            refine x_if_ne (pc := 28) hC 35 dX13_setBand_28 (by decide) (fun c13 => ?_) (fun c13 => ?_)
            · rw [if_neg c13] at h
              refine x_iconst (pc := 35) (v := (0 : Int32)) hC dX13_setBand_35 (by decide) ?_
              refine x_pick [0, 1, 2, 3] rfl ?_
              exact t_X13_setBand_36 hls hC hl hE h
            · rw [if_pos c13] at h
              refine x_pick [0, 1, 2, 3] rfl ?_
              exact t_X13_setBand_31 hls hC hl hE h
          · exact xk_r (xt_out hC hE (bk_r h) (Nat.le_of_ble_eq_true rfl) (Nat.le_of_ble_eq_true rfl))
      · exact xk_r (xt_out hC hE (bk_r h) (Nat.le_of_ble_eq_true rfl) (Nat.le_of_ble_eq_true rfl))
    · rw [if_pos c15] at h
      refine x_iconst (pc := 8) (v := (1 : Int32)) hC dX13_setBand_8 (by decide) ?_
      refine x_goto (pc := 9) hC 36 dX13_setBand_9 (by decide) ?_
      refine x_pick [0, 1, 2, 3] rfl ?_
      exact t_X13_setBand_36 hls hC hl hE h
  · exact xk_r (xt_out hC hE (bk_r h) (Nat.le_of_ble_eq_true rfl) (Nat.le_of_ble_eq_true rfl))
theorem c_X13_setBand (l : Launch) (hls : l.stackTraces = false) {S : mS} {a0 : Nat} {a1 : Int32} {a2 : Int32} {a3 : Int32} {o : Rs Int32} (h : f_X13_setBand S a0 a1 a2 a3 = some o) : CT (fun r : Int32 => some (.int r)) l yX13_setBand (.code yX13_setBand cX13_setBand 5 (Option.some Jvm.ClassFile.FieldType.int)) rm_X13_setBand S [.ref a0, .int a1, .int a2, .int a3] o := ct_of (by decide +kernel) hls (Nat.le_of_ble_eq_true rfl) (fun C hl hC hE => t_X13_setBand hls hC hl hE h)
abbrev rm_X13_setSide : Room := { frames := 11, cells := 0, slots := 0, locals := 213 }
def f_X13_setSide_26  (S : mS) (a0 : Nat) (a1 : Int32) (a2 : Int32) (s0 : Nat) (s1 : Int32) : Option (Rs Int32) :=
  gd (gK S s0 = 19) (bd (f_X13_isWrong S s0 s1) fun x2 S3 => if x2 = 0 then (gd (gK S3 a0 = 19) (lt9 (gR S3 a0 2) fun r7 => gd (gK S3 r7 = 37) (gd (¬ (a1 < 0 ∨ gZ S3 r7 ≤ (a1).toNatClampNeg)) (lt9 (gR S3 r7 (a1).toNatClampNeg) fun r11 => gd (gK S3 r11 = 17) (lt9 (gI S3 r11 15) fun x13 => lt9 (gR S3 a0 2) fun r14 => gd (gK S3 r14 = 37) (gd (¬ (a1 < 0 ∨ gZ S3 r14 ≤ (a1).toNatClampNeg)) (lt9 (gR S3 r14 (a1).toNatClampNeg) fun r18 => gd (gK S3 r18 = 17) (gd ((a2.toUInt32.toUInt16.toUInt32.toInt32 = a2 ∧ 0 ≤ a2) ∧ a2 ≤ 65535) (zI (sI S3 r18 15 a2) fun S21 => bd (f_X13_logs S21 a0) fun _ S28 => gd ((x13.toUInt32.toUInt16.toUInt32.toInt32 = x13 ∧ 0 ≤ x13) ∧ x13 ≤ 65535) (some (.inl x13, S28))))))))))) else (some (.inl (0 : Int32), S3)))
set_option maxHeartbeats 2000000 in
set_option maxRecDepth 100000 in
theorem t_X13_setSide_26 {l : Launch} (hls : l.stackTraces = false) {C : cT} (hC : CX C cX13_setSide 4 yX13_setSide rm_X13_setSide) (hl : C.2.1 = l) {S0 : mS} (hE : CE C S0 (Option.some Jvm.ClassFile.FieldType.char) []) {o : Rs Int32} {S : mS} {a0 : Nat} {a1 : Int32} {a2 : Int32} {s0 : Nat} {s1 : Int32} (h : f_X13_setSide_26  S a0 a1 a2 s0 s1 = some o) : XX C 4 (QQ C (fun r : Int32 => some (.int r)) S0 o) (0) (0) S 26 [(0, .ref a0), (1, .int a1), (2, .int a2)] [.int s1, .ref s0] := by
  unfold f_X13_setSide_26 at h
  obtain ⟨g1, h⟩ := gd_some h
  obtain ⟨o4, ho4, h⟩ := bd_some h
  refine x_callV (pc := 26) (As := [.int s1]) (rest := []) hC hl (c_X13_isWrong l hls ho4) lk_RX13_68 fc_19 g1 dX13_setSide_26 rfl rfl (Nat.le_of_ble_eq_true rfl) ⟨Nat.le_of_ble_eq_true rfl, Nat.le_of_ble_eq_true rfl⟩ ⟨(Nat.le_of_ble_eq_true rfl), (Nat.le_of_ble_eq_true rfl)⟩ ?_
  rcases o4 with ⟨x2 | E5, S3⟩
  · refine xk_i ?_
    replace h := bk_l h
    refine x_if_eq (pc := 29) hC 34 dX13_setSide_29 (by decide) (fun c32 => ?_) (fun c32 => ?_)
    · rw [if_pos c32] at h
      refine x_aload_n (pc := 34) hC 0 dX13_setSide_34 rfl rfl ?_
      obtain ⟨g6, h⟩ := gd_some h
      refine x_getRv (pc := 35) (k := 2) hC fc_19 fl_RX13_19 dX13_setSide_35 rfl g6 (fun r7 hr7 => ?_)
      replace h := lt_x hr7 h
      refine x_iload_n (pc := 38) hC 1 dX13_setSide_38 rfl rfl ?_
      obtain ⟨g10, h⟩ := gd_some h
      obtain ⟨g9, h⟩ := gd_some h
      refine x_raldv (pc := 39) (t0 := 7) hC dX13_setSide_39 g10 (by decide) (fun _ => rfl) g9 (fun r11 hr11 => ?_)
      replace h := lt_x hr11 h
      obtain ⟨g12, h⟩ := gd_some h
      refine x_getIv (pc := 40) (k := 15) hC fc_17 fl_RX13_212 dX13_setSide_40 rfl g12 (fun x13 hx13 => ?_)
      replace h := lt_x hx13 h
      refine x_istore_n (pc := 43) hC dX13_setSide_43 rfl (by decide) (by decide) rfl ?_
      refine x_aload_n (pc := 44) hC 1 dX13_setSide_44 rfl rfl ?_
      refine x_getRv (pc := 45) (k := 2) hC fc_19 fl_RX13_19 dX13_setSide_45 rfl g6 (fun r14 hr14 => ?_)
      replace h := lt_x hr14 h
      refine x_iload_n (pc := 48) hC 2 dX13_setSide_48 rfl rfl ?_
      obtain ⟨g17, h⟩ := gd_some h
      obtain ⟨g16, h⟩ := gd_some h
      refine x_raldv (pc := 49) (t0 := 7) hC dX13_setSide_49 g17 (by decide) (fun _ => rfl) g16 (fun r18 hr18 => ?_)
      replace h := lt_x hr18 h
      refine x_iload_n (pc := 50) hC 3 dX13_setSide_50 rfl rfl ?_
      obtain ⟨g19, h⟩ := gd_some h
      obtain ⟨g20, h⟩ := gd_some h
      refine x_putIv (pc := 51) (k := 15) hC fc_17 fl_RX13_212 dX13_setSide_51 rfl rfl (nf_C g20) g19 (fun S21 hS21 => ?_)
      replace h := zI_x hS21 h
      have g22 : gK S21 a0 = 19 := by rw [hS21]; exact g6
      have g23 : gK S21 r7 = 37 := by rw [hS21]; exact g10
      have g24 : gK S21 r11 = 17 := by rw [hS21]; exact g12
      have g25 : gK S21 r14 = 37 := by rw [hS21]; exact g17
      have g26 : gK S21 r18 = 17 := by rw [hS21]; exact g19
      refine x_aload_n (pc := 54) hC 1 dX13_setSide_54 rfl rfl ?_
      obtain ⟨o29, ho29, h⟩ := bd_some h
      refine x_callV (pc := 55) (As := []) (rest := []) hC hl (c_X13_logs l hls ho29) lk_RX13_81 fc_19 g22 dX13_setSide_55 rfl rfl (Nat.le_of_ble_eq_true rfl) ⟨Nat.le_of_ble_eq_true rfl, Nat.le_of_ble_eq_true rfl⟩ ⟨(Nat.le_of_ble_eq_true rfl), (Nat.le_of_ble_eq_true rfl)⟩ ?_
      rcases o29 with ⟨_ | E30, S28⟩
      · refine xk_v ?_
        replace h := bk_l h
        refine x_iload_n (pc := 58) hC 0 dX13_setSide_58 rfl rfl ?_
        obtain ⟨g31, h⟩ := gd_some h
        exact x_zreturn (pc := 59) hC hE dX13_setSide_59 (nf_C g31).1 (so h) (Nat.le_of_ble_eq_true rfl) (Nat.le_of_ble_eq_true rfl)
      · exact xk_r (xt_out hC hE (bk_r h) (Nat.le_of_ble_eq_true rfl) (Nat.le_of_ble_eq_true rfl))
    · rw [if_neg c32] at h
      refine x_iconst (pc := 32) (v := (0 : Int32)) hC dX13_setSide_32 (by decide) ?_
      exact x_zreturn (pc := 33) hC hE dX13_setSide_33 (show NF .char _ from ⟨rfl, rfl⟩).1 (so h) (Nat.le_of_ble_eq_true rfl) (Nat.le_of_ble_eq_true rfl)
  · exact xk_r (xt_out hC hE (bk_r h) (Nat.le_of_ble_eq_true rfl) (Nat.le_of_ble_eq_true rfl))
def f_X13_setSide (S : mS) (a0 : Nat) (a1 : Int32) (a2 : Int32) : Option (Rs Int32) :=
  bd (f_X13_isDeck S a1) fun x1 S2 => if x1 = 0 then (f_X13_setSide_26  S2 a0 a1 a2 a0 (1 : Int32)) else (gd (gK S2 (KB + 1) = 1) (bd (f_J0_indexOf_0f7a4 S2 (KB + 1) a2) fun x6 S7 => if 0 ≤ x6 then (f_X13_setSide_26  S7 a0 a1 a2 a0 (0 : Int32)) else (f_X13_setSide_26  S7 a0 a1 a2 a0 (2 : Int32))))
set_option maxHeartbeats 2000000 in
set_option maxRecDepth 100000 in
theorem t_X13_setSide {l : Launch} (hls : l.stackTraces = false) {C : cT} (hC : CX C cX13_setSide 4 yX13_setSide rm_X13_setSide) (hl : C.2.1 = l) {S0 : mS} (hE : CE C S0 (Option.some Jvm.ClassFile.FieldType.char) []) {o : Rs Int32} {S : mS} {a0 : Nat} {a1 : Int32} {a2 : Int32} (h : f_X13_setSide S a0 a1 a2 = some o) : XX C 4 (QQ C (fun r : Int32 => some (.int r)) S0 o) 0 0 S 0 [(0, .ref a0), (1, .int a1), (2, .int a2)] [] := by
  unfold f_X13_setSide at h
  refine x_aload_n (pc := 0) hC 0 dX13_setSide_0 rfl rfl ?_
  refine x_iload_n (pc := 1) hC 1 dX13_setSide_1 rfl rfl ?_
  obtain ⟨o3, ho3, h⟩ := bd_some h
  refine x_callS (pc := 2) (As := [.int a1]) (rest := [.ref a0]) hC hl (c_X13_isDeck l hls ho3) lk_RX13_121 dX13_setSide_2 rfl rfl (Nat.le_of_ble_eq_true rfl) ⟨Nat.le_of_ble_eq_true rfl, Nat.le_of_ble_eq_true rfl⟩ ⟨(Nat.le_of_ble_eq_true rfl), (Nat.le_of_ble_eq_true rfl)⟩ ?_
  rcases o3 with ⟨x1 | E4, S2⟩
  · refine xk_i ?_
    replace h := bk_l h
    refine x_if_ne (pc := 5) hC 12 dX13_setSide_5 (by decide) (fun c11 => ?_) (fun c11 => ?_)
    · rw [if_neg c11] at h
      refine x_ldcK (pc := 12) (i := 1) (tx := "lmr") hC (by decide) dX13_setSide_12 ?_
      refine x_iload_n (pc := 14) hC 2 dX13_setSide_14 rfl rfl ?_
      obtain ⟨g5, h⟩ := gd_some h
      obtain ⟨o8, ho8, h⟩ := bd_some h
      refine x_callV (pc := 15) (As := [.int a2]) (rest := [.ref a0]) hC hl (c_J0_indexOf_0f7a4 l hls ho8) lk_RX13_207 fc_1 g5 dX13_setSide_15 rfl rfl (Nat.le_of_ble_eq_true rfl) ⟨Nat.le_of_ble_eq_true rfl, Nat.le_of_ble_eq_true rfl⟩ ⟨(Nat.le_of_ble_eq_true rfl), (Nat.le_of_ble_eq_true rfl)⟩ ?_
      rcases o8 with ⟨x6 | E9, S7⟩
      · refine xk_i ?_
        replace h := bk_l h
        refine x_if_ge (pc := 18) hC 25 dX13_setSide_18 (by decide) (fun c10 => ?_) (fun c10 => ?_)
        · rw [if_pos c10] at h
          refine x_iconst (pc := 25) (v := (0 : Int32)) hC dX13_setSide_25 (by decide) ?_
          refine x_pick [0, 1, 2] rfl ?_
          exact t_X13_setSide_26 hls hC hl hE h
        · rw [if_neg c10] at h
          refine x_iconst (pc := 21) (v := (2 : Int32)) hC dX13_setSide_21 (by decide) ?_
          refine x_goto (pc := 22) hC 26 dX13_setSide_22 (by decide) ?_
          refine x_pick [0, 1, 2] rfl ?_
          exact t_X13_setSide_26 hls hC hl hE h
      · exact xk_r (xt_out hC hE (bk_r h) (Nat.le_of_ble_eq_true rfl) (Nat.le_of_ble_eq_true rfl))
    · rw [if_pos c11] at h
      refine x_iconst (pc := 8) (v := (1 : Int32)) hC dX13_setSide_8 (by decide) ?_
      refine x_goto (pc := 9) hC 26 dX13_setSide_9 (by decide) ?_
      refine x_pick [0, 1, 2] rfl ?_
      exact t_X13_setSide_26 hls hC hl hE h
  · exact xk_r (xt_out hC hE (bk_r h) (Nat.le_of_ble_eq_true rfl) (Nat.le_of_ble_eq_true rfl))
theorem c_X13_setSide (l : Launch) (hls : l.stackTraces = false) {S : mS} {a0 : Nat} {a1 : Int32} {a2 : Int32} {o : Rs Int32} (h : f_X13_setSide S a0 a1 a2 = some o) : CT (fun r : Int32 => some (.int r)) l yX13_setSide (.code yX13_setSide cX13_setSide 4 (Option.some Jvm.ClassFile.FieldType.char)) rm_X13_setSide S [.ref a0, .int a1, .int a2] o := ct_of (by decide +kernel) hls (Nat.le_of_ble_eq_true rfl) (fun C hl hC hE => t_X13_setSide hls hC hl hE h)
abbrev rm_X13_setCross : Room := { frames := 9, cells := 0, slots := 0, locals := 172 }
def f_X13_setCross_17  (S : mS) (a0 : Nat) (a1 : Int32) (s0 : Nat) (s1 : Int32) : Option (Rs Int32) :=
  gd (gK S s0 = 19) (bd (f_X13_isWrong S s0 s1) fun x2 S3 => if x2 = 0 then (gd (gK S3 a0 = 19) (lt9 (gI S3 a0 8) fun x7 => zI (sI S3 a0 8 a1) fun S8 => bd (f_X13_logs S8 a0) fun _ S11 => some (.inl x7, S11))) else (some (.inl (0 : Int32), S3)))
set_option maxHeartbeats 2000000 in
set_option maxRecDepth 100000 in
theorem t_X13_setCross_17 {l : Launch} (hls : l.stackTraces = false) {C : cT} (hC : CX C cX13_setCross 3 yX13_setCross rm_X13_setCross) (hl : C.2.1 = l) {S0 : mS} (hE : CE C S0 (Option.some Jvm.ClassFile.FieldType.int) []) {o : Rs Int32} {S : mS} {a0 : Nat} {a1 : Int32} {s0 : Nat} {s1 : Int32} (h : f_X13_setCross_17  S a0 a1 s0 s1 = some o) : XX C 3 (QQ C (fun r : Int32 => some (.int r)) S0 o) (0) (0) S 17 [(0, .ref a0), (1, .int a1)] [.int s1, .ref s0] := by
  unfold f_X13_setCross_17 at h
  obtain ⟨g1, h⟩ := gd_some h
  obtain ⟨o4, ho4, h⟩ := bd_some h
  refine x_callV (pc := 17) (As := [.int s1]) (rest := []) hC hl (c_X13_isWrong l hls ho4) lk_RX13_68 fc_19 g1 dX13_setCross_17 rfl rfl (Nat.le_of_ble_eq_true rfl) ⟨Nat.le_of_ble_eq_true rfl, Nat.le_of_ble_eq_true rfl⟩ ⟨(Nat.le_of_ble_eq_true rfl), (Nat.le_of_ble_eq_true rfl)⟩ ?_
  rcases o4 with ⟨x2 | E5, S3⟩
  · refine xk_i ?_
    replace h := bk_l h
    refine x_if_eq (pc := 20) hC 25 dX13_setCross_20 (by decide) (fun c14 => ?_) (fun c14 => ?_)
    · rw [if_pos c14] at h
      refine x_aload_n (pc := 25) hC 0 dX13_setCross_25 rfl rfl ?_
      obtain ⟨g6, h⟩ := gd_some h
      refine x_getIv (pc := 26) (k := 8) hC fc_19 fl_RX13_216 dX13_setCross_26 rfl g6 (fun x7 hx7 => ?_)
      replace h := lt_x hx7 h
      refine x_istore_n (pc := 29) hC dX13_setCross_29 rfl (by decide) (by decide) rfl ?_
      refine x_aload_n (pc := 30) hC 1 dX13_setCross_30 rfl rfl ?_
      refine x_iload_n (pc := 31) hC 2 dX13_setCross_31 rfl rfl ?_
      refine x_putIv (pc := 32) (k := 8) hC fc_19 fl_RX13_216 dX13_setCross_32 rfl rfl (nf_int _) g6 (fun S8 hS8 => ?_)
      replace h := zI_x hS8 h
      have g9 : gK S8 a0 = 19 := by rw [hS8]; exact g6
      refine x_aload_n (pc := 35) hC 1 dX13_setCross_35 rfl rfl ?_
      obtain ⟨o12, ho12, h⟩ := bd_some h
      refine x_callV (pc := 36) (As := []) (rest := []) hC hl (c_X13_logs l hls ho12) lk_RX13_81 fc_19 g9 dX13_setCross_36 rfl rfl (Nat.le_of_ble_eq_true rfl) ⟨Nat.le_of_ble_eq_true rfl, Nat.le_of_ble_eq_true rfl⟩ ⟨(Nat.le_of_ble_eq_true rfl), (Nat.le_of_ble_eq_true rfl)⟩ ?_
      rcases o12 with ⟨_ | E13, S11⟩
      · refine xk_v ?_
        replace h := bk_l h
        refine x_iload_n (pc := 39) hC 0 dX13_setCross_39 rfl rfl ?_
        exact x_ireturn (pc := 40) hC hE dX13_setCross_40 (so h) (Nat.le_of_ble_eq_true rfl) (Nat.le_of_ble_eq_true rfl)
      · exact xk_r (xt_out hC hE (bk_r h) (Nat.le_of_ble_eq_true rfl) (Nat.le_of_ble_eq_true rfl))
    · rw [if_neg c14] at h
      refine x_iconst (pc := 23) (v := (0 : Int32)) hC dX13_setCross_23 (by decide) ?_
      exact x_ireturn (pc := 24) hC hE dX13_setCross_24 (so h) (Nat.le_of_ble_eq_true rfl) (Nat.le_of_ble_eq_true rfl)
  · exact xk_r (xt_out hC hE (bk_r h) (Nat.le_of_ble_eq_true rfl) (Nat.le_of_ble_eq_true rfl))
def f_X13_setCross (S : mS) (a0 : Nat) (a1 : Int32) : Option (Rs Int32) :=
  bd (f_X13_isBetween S a1 (-100 : Int32) (100 : Int32)) fun x1 S2 => if x1 = 0 then (f_X13_setCross_17  S2 a0 a1 a0 (1 : Int32)) else (f_X13_setCross_17  S2 a0 a1 a0 (0 : Int32))
set_option maxHeartbeats 2000000 in
set_option maxRecDepth 100000 in
theorem t_X13_setCross {l : Launch} (hls : l.stackTraces = false) {C : cT} (hC : CX C cX13_setCross 3 yX13_setCross rm_X13_setCross) (hl : C.2.1 = l) {S0 : mS} (hE : CE C S0 (Option.some Jvm.ClassFile.FieldType.int) []) {o : Rs Int32} {S : mS} {a0 : Nat} {a1 : Int32} (h : f_X13_setCross S a0 a1 = some o) : XX C 3 (QQ C (fun r : Int32 => some (.int r)) S0 o) 0 0 S 0 [(0, .ref a0), (1, .int a1)] [] := by
  unfold f_X13_setCross at h
  refine x_aload_n (pc := 0) hC 0 dX13_setCross_0 rfl rfl ?_
  refine x_iload_n (pc := 1) hC 1 dX13_setCross_1 rfl rfl ?_
  refine x_bipush (pc := 2) (v := (-100 : Int32)) hC dX13_setCross_2 (by decide) ?_
  refine x_bipush (pc := 4) (v := (100 : Int32)) hC dX13_setCross_4 (by decide) ?_
  obtain ⟨o3, ho3, h⟩ := bd_some h
  refine x_callS (pc := 6) (As := [.int a1, .int (-100 : Int32), .int (100 : Int32)]) (rest := [.ref a0]) hC hl (c_X13_isBetween l hls ho3) lk_RX13_50 dX13_setCross_6 rfl rfl (Nat.le_of_ble_eq_true rfl) ⟨Nat.le_of_ble_eq_true rfl, Nat.le_of_ble_eq_true rfl⟩ ⟨(Nat.le_of_ble_eq_true rfl), (Nat.le_of_ble_eq_true rfl)⟩ ?_
  rcases o3 with ⟨x1 | E4, S2⟩
  · refine xk_i ?_
    replace h := bk_l h
    refine x_if_eq (pc := 9) hC 16 dX13_setCross_9 (by decide) (fun c5 => ?_) (fun c5 => ?_)
    · rw [if_pos c5] at h
      refine x_iconst (pc := 16) (v := (1 : Int32)) hC dX13_setCross_16 (by decide) ?_
      refine x_pick [0, 1] rfl ?_
      exact t_X13_setCross_17 hls hC hl hE h
    · rw [if_neg c5] at h
      refine x_iconst (pc := 12) (v := (0 : Int32)) hC dX13_setCross_12 (by decide) ?_
      refine x_goto (pc := 13) hC 17 dX13_setCross_13 (by decide) ?_
      refine x_pick [0, 1] rfl ?_
      exact t_X13_setCross_17 hls hC hl hE h
  · exact xk_r (xt_out hC hE (bk_r h) (Nat.le_of_ble_eq_true rfl) (Nat.le_of_ble_eq_true rfl))
theorem c_X13_setCross (l : Launch) (hls : l.stackTraces = false) {S : mS} {a0 : Nat} {a1 : Int32} {o : Rs Int32} (h : f_X13_setCross S a0 a1 = some o) : CT (fun r : Int32 => some (.int r)) l yX13_setCross (.code yX13_setCross cX13_setCross 3 (Option.some Jvm.ClassFile.FieldType.int)) rm_X13_setCross S [.ref a0, .int a1] o := ct_of (by decide +kernel) hls (Nat.le_of_ble_eq_true rfl) (fun C hl hC hE => t_X13_setCross hls hC hl hE h)
abbrev rm_X13_levelOf : Room := { frames := 9, cells := 0, slots := 0, locals := 171 }
def f_X13_levelOf_70  (S : mS) (s0 : Int32) : Option (Rs Int32) :=
  some (.inl s0, S)
set_option maxHeartbeats 2000000 in
set_option maxRecDepth 100000 in
theorem t_X13_levelOf_70 {l : Launch} (hls : l.stackTraces = false) {C : cT} (hC : CX C cX13_levelOf 3 yX13_levelOf rm_X13_levelOf) (hl : C.2.1 = l) {S0 : mS} (hE : CE C S0 (Option.some Jvm.ClassFile.FieldType.int) []) {o : Rs Int32} {S : mS} {s0 : Int32} (h : f_X13_levelOf_70  S s0 = some o) : XX C 3 (QQ C (fun r : Int32 => some (.int r)) S0 o) (0) (0) S 70 [] [.int s0] := by
  unfold f_X13_levelOf_70 at h
  exact x_ireturn (pc := 70) hC hE dX13_levelOf_70 (so h) (Nat.le_of_ble_eq_true rfl) (Nat.le_of_ble_eq_true rfl)
def f_X13_levelOf_49  (S : mS) (a1 : Nat) (s0 : Int32) : Option (Rs Int32) :=
  gd (gK S a1 = 17) (lt9 (gI S a1 13) fun x2 => if x2 = 0 then (f_X13_levelOf_70  S (0 : Int32)) else (lt9 (gI S a1 5) fun x3 => lt9 (x3 * s0) fun x4 => gd (¬ (100 : Int32) = 0) (lt9 (x4 / (100 : Int32)) fun x5 => f_X13_levelOf_70  S x5)))
set_option maxHeartbeats 2000000 in
set_option maxRecDepth 100000 in
theorem t_X13_levelOf_49 {l : Launch} (hls : l.stackTraces = false) {C : cT} (hC : CX C cX13_levelOf 3 yX13_levelOf rm_X13_levelOf) (hl : C.2.1 = l) {S0 : mS} (hE : CE C S0 (Option.some Jvm.ClassFile.FieldType.int) []) {o : Rs Int32} {S : mS} {a1 : Nat} {s0 : Int32} (h : f_X13_levelOf_49  S a1 s0 = some o) : XX C 3 (QQ C (fun r : Int32 => some (.int r)) S0 o) (0) (0) S 49 [(1, .ref a1)] [.int s0] := by
  unfold f_X13_levelOf_49 at h
  refine x_istore_n (pc := 49) hC dX13_levelOf_49 rfl (by decide) (by decide) rfl ?_
  refine x_aload_n (pc := 50) hC 1 dX13_levelOf_50 rfl rfl ?_
  obtain ⟨g1, h⟩ := gd_some h
  refine x_getIv (pc := 51) (k := 13) hC fc_17 fl_RX13_124 dX13_levelOf_51 rfl g1 (fun x2 hx2 => ?_)
  replace h := lt_x hx2 h
  refine x_if_eq (pc := 54) hC 69 dX13_levelOf_54 (by decide) (fun c7 => ?_) (fun c7 => ?_)
  · rw [if_pos c7] at h
    refine x_iconst (pc := 69) (v := (0 : Int32)) hC dX13_levelOf_69 (by decide) ?_
    refine x_pick [] rfl ?_
    exact t_X13_levelOf_70 hls hC hl hE h
  · rw [if_neg c7] at h
    refine x_aload_n (pc := 57) hC 1 dX13_levelOf_57 rfl rfl ?_
    refine x_getIv (pc := 58) (k := 5) hC fc_17 fl_RX13_199 dX13_levelOf_58 rfl g1 (fun x3 hx3 => ?_)
    replace h := lt_x hx3 h
    refine x_iload_n (pc := 61) hC 0 dX13_levelOf_61 rfl rfl ?_
    refine x_imulv (pc := 62) hC dX13_levelOf_62 (fun x4 hx4 => ?_)
    replace h := lt_x hx4 h
    refine x_bipush (pc := 63) (v := (100 : Int32)) hC dX13_levelOf_63 (by decide) ?_
    obtain ⟨g6, h⟩ := gd_some h
    refine x_idivv (pc := 65) hC dX13_levelOf_65 g6 (fun x5 hx5 => ?_)
    replace h := lt_x hx5 h
    refine x_goto (pc := 66) hC 70 dX13_levelOf_66 (by decide) ?_
    refine x_pick [] rfl ?_
    exact t_X13_levelOf_70 hls hC hl hE h
def f_X13_levelOf (S : mS) (a0 : Nat) (a1 : Nat) : Option (Rs Int32) :=
  gd (gK S a1 = 17) (lt9 (gI S a1 15) fun x2 => if x2 = (108 : Int32) then (gd (gK S a0 = 19) (lt9 (gI S a0 8) fun x11 => lt9 (if (0 : Int32) < x11 then x11 else (0 : Int32)) fun x12 => lt9 ((100 : Int32) - x12) fun x13 => f_X13_levelOf_49  S a1 x13)) else (lt9 (gI S a1 15) fun x3 => if x3 = (114 : Int32) then (gd (gK S a0 = 19) (lt9 (gI S a0 8) fun x5 => lt9 (-x5) fun x6 => lt9 (if (0 : Int32) < x6 then x6 else (0 : Int32)) fun x7 => lt9 ((100 : Int32) - x7) fun x8 => f_X13_levelOf_49  S a1 x8)) else (f_X13_levelOf_49  S a1 (100 : Int32))))
set_option maxHeartbeats 2000000 in
set_option maxRecDepth 100000 in
theorem t_X13_levelOf {l : Launch} (hls : l.stackTraces = false) {C : cT} (hC : CX C cX13_levelOf 3 yX13_levelOf rm_X13_levelOf) (hl : C.2.1 = l) {S0 : mS} (hE : CE C S0 (Option.some Jvm.ClassFile.FieldType.int) []) {o : Rs Int32} {S : mS} {a0 : Nat} {a1 : Nat} (h : f_X13_levelOf S a0 a1 = some o) : XX C 3 (QQ C (fun r : Int32 => some (.int r)) S0 o) 0 0 S 0 [(0, .ref a0), (1, .ref a1)] [] := by
  unfold f_X13_levelOf at h
  refine x_aload_n (pc := 0) hC 1 dX13_levelOf_0 rfl rfl ?_
  obtain ⟨g1, h⟩ := gd_some h
  refine x_getIv (pc := 1) (k := 15) hC fc_17 fl_RX13_212 dX13_levelOf_1 rfl g1 (fun x2 hx2 => ?_)
  replace h := lt_x hx2 h
  refine x_bipush (pc := 4) (v := (108 : Int32)) hC dX13_levelOf_4 (by decide) ?_
  refine x_icmp_ne (pc := 6) hC 23 dX13_levelOf_6 (by decide) (fun c14 => ?_) (fun c14 => ?_)
  · rw [if_neg c14] at h
    refine x_aload_n (pc := 23) hC 1 dX13_levelOf_23 rfl rfl ?_
    refine x_getIv (pc := 24) (k := 15) hC fc_17 fl_RX13_212 dX13_levelOf_24 rfl g1 (fun x3 hx3 => ?_)
    replace h := lt_x hx3 h
    refine x_bipush (pc := 27) (v := (114 : Int32)) hC dX13_levelOf_27 (by decide) ?_
    refine x_icmp_ne (pc := 29) hC 47 dX13_levelOf_29 (by decide) (fun c9 => ?_) (fun c9 => ?_)
    · rw [if_neg c9] at h
      refine x_bipush (pc := 47) (v := (100 : Int32)) hC dX13_levelOf_47 (by decide) ?_
      refine x_pick [1] rfl ?_
      exact t_X13_levelOf_49 hls hC hl hE h
    · rw [if_pos c9] at h
      refine x_bipush (pc := 32) (v := (100 : Int32)) hC dX13_levelOf_32 (by decide) ?_
      refine x_iconst (pc := 34) (v := (0 : Int32)) hC dX13_levelOf_34 (by decide) ?_
      refine x_aload_n (pc := 35) hC 0 dX13_levelOf_35 rfl rfl ?_
      obtain ⟨g4, h⟩ := gd_some h
      refine x_getIv (pc := 36) (k := 8) hC fc_19 fl_RX13_216 dX13_levelOf_36 rfl g4 (fun x5 hx5 => ?_)
      replace h := lt_x hx5 h
      refine x_inegv (pc := 39) hC dX13_levelOf_39 (fun x6 hx6 => ?_)
      replace h := lt_x hx6 h
      refine x_mmax (pc := 40) hC wm_2119 wm_650 wm_69 wm_651 dX13_levelOf_40 (Nat.le_of_ble_eq_true rfl) (Nat.le_of_ble_eq_true rfl) (Nat.le_of_ble_eq_true rfl) (Nat.le_of_ble_eq_true rfl) (fun x7 hx7 => ?_)
      replace h := lt_x hx7 h
      refine x_isubv (pc := 43) hC dX13_levelOf_43 (fun x8 hx8 => ?_)
      replace h := lt_x hx8 h
      refine x_goto (pc := 44) hC 49 dX13_levelOf_44 (by decide) ?_
      refine x_pick [1] rfl ?_
      exact t_X13_levelOf_49 hls hC hl hE h
  · rw [if_pos c14] at h
    refine x_bipush (pc := 9) (v := (100 : Int32)) hC dX13_levelOf_9 (by decide) ?_
    refine x_iconst (pc := 11) (v := (0 : Int32)) hC dX13_levelOf_11 (by decide) ?_
    refine x_aload_n (pc := 12) hC 0 dX13_levelOf_12 rfl rfl ?_
    obtain ⟨g10, h⟩ := gd_some h
    refine x_getIv (pc := 13) (k := 8) hC fc_19 fl_RX13_216 dX13_levelOf_13 rfl g10 (fun x11 hx11 => ?_)
    replace h := lt_x hx11 h
    refine x_mmax (pc := 16) hC wm_2119 wm_650 wm_69 wm_651 dX13_levelOf_16 (Nat.le_of_ble_eq_true rfl) (Nat.le_of_ble_eq_true rfl) (Nat.le_of_ble_eq_true rfl) (Nat.le_of_ble_eq_true rfl) (fun x12 hx12 => ?_)
    replace h := lt_x hx12 h
    refine x_isubv (pc := 19) hC dX13_levelOf_19 (fun x13 hx13 => ?_)
    replace h := lt_x hx13 h
    refine x_goto (pc := 20) hC 49 dX13_levelOf_20 (by decide) ?_
    refine x_pick [1] rfl ?_
    exact t_X13_levelOf_49 hls hC hl hE h
theorem c_X13_levelOf (l : Launch) (hls : l.stackTraces = false) {S : mS} {a0 : Nat} {a1 : Nat} {o : Rs Int32} (h : f_X13_levelOf S a0 a1 = some o) : CT (fun r : Int32 => some (.int r)) l yX13_levelOf (.code yX13_levelOf cX13_levelOf 3 (Option.some Jvm.ClassFile.FieldType.int)) rm_X13_levelOf S [.ref a0, .ref a1] o := ct_of (by decide +kernel) hls (Nat.le_of_ble_eq_true rfl) (fun C hl hC hE => t_X13_levelOf hls hC hl hE h)
abbrev rm_X13_loudnessOf : Room := { frames := 10, cells := 0, slots := 0, locals := 193 }
def f_X13_loudnessOf_51  (S : mS) (s0 : Int32) : Option (Rs Int32) :=
  some (.inl s0, S)
set_option maxHeartbeats 2000000 in
set_option maxRecDepth 100000 in
theorem t_X13_loudnessOf_51 {l : Launch} (hls : l.stackTraces = false) {C : cT} (hC : CX C cX13_loudnessOf 2 yX13_loudnessOf rm_X13_loudnessOf) (hl : C.2.1 = l) {S0 : mS} (hE : CE C S0 (Option.some Jvm.ClassFile.FieldType.int) []) {o : Rs Int32} {S : mS} {s0 : Int32} (h : f_X13_loudnessOf_51  S s0 = some o) : XX C 2 (QQ C (fun r : Int32 => some (.int r)) S0 o) (0) (0) S 51 [] [.int s0] := by
  unfold f_X13_loudnessOf_51 at h
  exact x_ireturn (pc := 51) hC hE dX13_loudnessOf_51 (so h) (Nat.le_of_ble_eq_true rfl) (Nat.le_of_ble_eq_true rfl)
def f_X13_loudnessOf (S : mS) (a0 : Nat) (a1 : Nat) : Option (Rs Int32) :=
  gd (gK S a1 = 17) (lt9 (gR S a1 0) fun r2 => if r2 = 0 then (f_X13_loudnessOf_51  S (0 : Int32)) else (gd (gK S a0 = 19) (bd (f_X13_levelOf S a0 a1) fun x4 S5 => gd (gK S5 a1 = 17) (lt9 (gR S5 a1 0) fun r9 => gd (gK S5 r9 = 18) (lt9 (gI S5 r9 2) fun x11 => lt9 (x11 + (1 : Int32)) fun x12 => lt9 (x4 * x12) fun x13 => lt9 (gR S5 a1 6) fun r14 => gd (gK S5 r14 = 30) (gd (¬ ((0 : Int32) < 0 ∨ gZ S5 r14 ≤ ((0 : Int32)).toNatClampNeg)) (lt9 (gI S5 r14 ((0 : Int32)).toNatClampNeg) fun x18 => lt9 (gR S5 a1 6) fun r19 => gd (gK S5 r19 = 30) (gd (¬ ((1 : Int32) < 0 ∨ gZ S5 r19 ≤ ((1 : Int32)).toNatClampNeg)) (lt9 (gI S5 r19 ((1 : Int32)).toNatClampNeg) fun x23 => lt9 (x18 + x23) fun x24 => lt9 (gR S5 a1 6) fun r25 => gd (gK S5 r25 = 30) (gd (¬ ((2 : Int32) < 0 ∨ gZ S5 r25 ≤ ((2 : Int32)).toNatClampNeg)) (lt9 (gI S5 r25 ((2 : Int32)).toNatClampNeg) fun x29 => lt9 (x24 + x29) fun x30 => lt9 (x13 * x30) fun x31 => gd (¬ (300 : Int32) = 0) (lt9 (x31 / (300 : Int32)) fun x32 => f_X13_loudnessOf_51  S5 x32))))))))))))
set_option maxHeartbeats 2000000 in
set_option maxRecDepth 100000 in
theorem t_X13_loudnessOf {l : Launch} (hls : l.stackTraces = false) {C : cT} (hC : CX C cX13_loudnessOf 2 yX13_loudnessOf rm_X13_loudnessOf) (hl : C.2.1 = l) {S0 : mS} (hE : CE C S0 (Option.some Jvm.ClassFile.FieldType.int) []) {o : Rs Int32} {S : mS} {a0 : Nat} {a1 : Nat} (h : f_X13_loudnessOf S a0 a1 = some o) : XX C 2 (QQ C (fun r : Int32 => some (.int r)) S0 o) 0 0 S 0 [(0, .ref a0), (1, .ref a1)] [] := by
  unfold f_X13_loudnessOf at h
  refine x_aload_n (pc := 0) hC 1 dX13_loudnessOf_0 rfl rfl ?_
  obtain ⟨g1, h⟩ := gd_some h
  refine x_getRv (pc := 1) (k := 0) hC fc_17 fl_RX13_60 dX13_loudnessOf_1 rfl g1 (fun r2 hr2 => ?_)
  replace h := lt_x hr2 h
  refine x_ifnonnull (pc := 4) hC 11 dX13_loudnessOf_4 (by decide) (fun c34 => ?_) (fun c34 => ?_)
  · rw [if_neg c34] at h
    refine x_aload_n (pc := 11) hC 0 dX13_loudnessOf_11 rfl rfl ?_
    refine x_aload_n (pc := 12) hC 1 dX13_loudnessOf_12 rfl rfl ?_
    obtain ⟨g3, h⟩ := gd_some h
    obtain ⟨o6, ho6, h⟩ := bd_some h
    refine x_callV (pc := 13) (As := [.ref a1]) (rest := []) hC hl (c_X13_levelOf l hls ho6) lk_RX13_222 fc_19 g3 dX13_loudnessOf_13 rfl rfl (Nat.le_of_ble_eq_true rfl) ⟨Nat.le_of_ble_eq_true rfl, Nat.le_of_ble_eq_true rfl⟩ ⟨(Nat.le_of_ble_eq_true rfl), (Nat.le_of_ble_eq_true rfl)⟩ ?_
    rcases o6 with ⟨x4 | E7, S5⟩
    · refine xk_i ?_
      replace h := bk_l h
      refine x_aload_n (pc := 16) hC 1 dX13_loudnessOf_16 rfl rfl ?_
      obtain ⟨g8, h⟩ := gd_some h
      refine x_getRv (pc := 17) (k := 0) hC fc_17 fl_RX13_60 dX13_loudnessOf_17 rfl g8 (fun r9 hr9 => ?_)
      replace h := lt_x hr9 h
      obtain ⟨g10, h⟩ := gd_some h
      refine x_getIv (pc := 20) (k := 2) hC fc_18 fl_RX13_225 dX13_loudnessOf_20 rfl g10 (fun x11 hx11 => ?_)
      replace h := lt_x hx11 h
      refine x_iconst (pc := 23) (v := (1 : Int32)) hC dX13_loudnessOf_23 (by decide) ?_
      refine x_iaddv (pc := 24) hC dX13_loudnessOf_24 (fun x12 hx12 => ?_)
      replace h := lt_x hx12 h
      refine x_imulv (pc := 25) hC dX13_loudnessOf_25 (fun x13 hx13 => ?_)
      replace h := lt_x hx13 h
      refine x_aload_n (pc := 26) hC 1 dX13_loudnessOf_26 rfl rfl ?_
      refine x_getRv (pc := 27) (k := 6) hC fc_17 fl_RX13_202 dX13_loudnessOf_27 rfl g8 (fun r14 hr14 => ?_)
      replace h := lt_x hr14 h
      refine x_iconst (pc := 30) (v := (0 : Int32)) hC dX13_loudnessOf_30 (by decide) ?_
      obtain ⟨g17, h⟩ := gd_some h
      obtain ⟨g16, h⟩ := gd_some h
      refine x_ialdv (pc := 31) hC dX13_loudnessOf_31 g17 g16 (fun x18 hx18 => ?_)
      replace h := lt_x hx18 h
      refine x_aload_n (pc := 32) hC 1 dX13_loudnessOf_32 rfl rfl ?_
      refine x_getRv (pc := 33) (k := 6) hC fc_17 fl_RX13_202 dX13_loudnessOf_33 rfl g8 (fun r19 hr19 => ?_)
      replace h := lt_x hr19 h
      refine x_iconst (pc := 36) (v := (1 : Int32)) hC dX13_loudnessOf_36 (by decide) ?_
      obtain ⟨g22, h⟩ := gd_some h
      obtain ⟨g21, h⟩ := gd_some h
      refine x_ialdv (pc := 37) hC dX13_loudnessOf_37 g22 g21 (fun x23 hx23 => ?_)
      replace h := lt_x hx23 h
      refine x_iaddv (pc := 38) hC dX13_loudnessOf_38 (fun x24 hx24 => ?_)
      replace h := lt_x hx24 h
      refine x_aload_n (pc := 39) hC 1 dX13_loudnessOf_39 rfl rfl ?_
      refine x_getRv (pc := 40) (k := 6) hC fc_17 fl_RX13_202 dX13_loudnessOf_40 rfl g8 (fun r25 hr25 => ?_)
      replace h := lt_x hr25 h
      refine x_iconst (pc := 43) (v := (2 : Int32)) hC dX13_loudnessOf_43 (by decide) ?_
      obtain ⟨g28, h⟩ := gd_some h
      obtain ⟨g27, h⟩ := gd_some h
      refine x_ialdv (pc := 44) hC dX13_loudnessOf_44 g28 g27 (fun x29 hx29 => ?_)
      replace h := lt_x hx29 h
      refine x_iaddv (pc := 45) hC dX13_loudnessOf_45 (fun x30 hx30 => ?_)
      replace h := lt_x hx30 h
      refine x_imulv (pc := 46) hC dX13_loudnessOf_46 (fun x31 hx31 => ?_)
      replace h := lt_x hx31 h
      refine x_sipush (pc := 47) (v := (300 : Int32)) hC dX13_loudnessOf_47 (by decide) ?_
      obtain ⟨g33, h⟩ := gd_some h
      refine x_idivv (pc := 50) hC dX13_loudnessOf_50 g33 (fun x32 hx32 => ?_)
      replace h := lt_x hx32 h
      refine x_pick [] rfl ?_
      exact t_X13_loudnessOf_51 hls hC hl hE h
    · exact xk_r (xt_out hC hE (bk_r h) (Nat.le_of_ble_eq_true rfl) (Nat.le_of_ble_eq_true rfl))
  · rw [if_pos c34] at h
    refine x_iconst (pc := 7) (v := (0 : Int32)) hC dX13_loudnessOf_7 (by decide) ?_
    refine x_goto (pc := 8) hC 51 dX13_loudnessOf_8 (by decide) ?_
    refine x_pick [] rfl ?_
    exact t_X13_loudnessOf_51 hls hC hl hE h
theorem c_X13_loudnessOf (l : Launch) (hls : l.stackTraces = false) {S : mS} {a0 : Nat} {a1 : Nat} {o : Rs Int32} (h : f_X13_loudnessOf S a0 a1 = some o) : CT (fun r : Int32 => some (.int r)) l yX13_loudnessOf (.code yX13_loudnessOf cX13_loudnessOf 2 (Option.some Jvm.ClassFile.FieldType.int)) rm_X13_loudnessOf S [.ref a0, .ref a1] o := ct_of (by decide +kernel) hls (Nat.le_of_ble_eq_true rfl) (fun C hl hC hE => t_X13_loudnessOf hls hC hl hE h)
abbrev rm_X13_isHeard : Room := { frames := 10, cells := 0, slots := 0, locals := 193 }
def f_X13_isHeard_15  (S : mS) (s0 : Int32) : Option (Rs Int32) :=
  gd (s0 = 0 ∨ s0 = 1) (some (.inl s0, S))
set_option maxHeartbeats 2000000 in
set_option maxRecDepth 100000 in
theorem t_X13_isHeard_15 {l : Launch} (hls : l.stackTraces = false) {C : cT} (hC : CX C cX13_isHeard 2 yX13_isHeard rm_X13_isHeard) (hl : C.2.1 = l) {S0 : mS} (hE : CE C S0 (Option.some Jvm.ClassFile.FieldType.boolean) []) {o : Rs Int32} {S : mS} {s0 : Int32} (h : f_X13_isHeard_15  S s0 = some o) : XX C 2 (QQ C (fun r : Int32 => some (.int r)) S0 o) (0) (0) S 15 [] [.int s0] := by
  unfold f_X13_isHeard_15 at h
  obtain ⟨g1, h⟩ := gd_some h
  exact x_zreturn (pc := 15) hC hE dX13_isHeard_15 (nf_B g1).1 (so h) (Nat.le_of_ble_eq_true rfl) (Nat.le_of_ble_eq_true rfl)
def f_X13_isHeard (S : mS) (a0 : Nat) (a1 : Nat) : Option (Rs Int32) :=
  gd (gK S a0 = 19) (bd (f_X13_levelOf S a0 a1) fun x2 S3 => if x2 < (30 : Int32) then (f_X13_isHeard_15  S3 (0 : Int32)) else (f_X13_isHeard_15  S3 (1 : Int32)))
set_option maxHeartbeats 2000000 in
set_option maxRecDepth 100000 in
theorem t_X13_isHeard {l : Launch} (hls : l.stackTraces = false) {C : cT} (hC : CX C cX13_isHeard 2 yX13_isHeard rm_X13_isHeard) (hl : C.2.1 = l) {S0 : mS} (hE : CE C S0 (Option.some Jvm.ClassFile.FieldType.boolean) []) {o : Rs Int32} {S : mS} {a0 : Nat} {a1 : Nat} (h : f_X13_isHeard S a0 a1 = some o) : XX C 2 (QQ C (fun r : Int32 => some (.int r)) S0 o) 0 0 S 0 [(0, .ref a0), (1, .ref a1)] [] := by
  unfold f_X13_isHeard at h
  refine x_aload_n (pc := 0) hC 0 dX13_isHeard_0 rfl rfl ?_
  refine x_aload_n (pc := 1) hC 1 dX13_isHeard_1 rfl rfl ?_
  obtain ⟨g1, h⟩ := gd_some h
  obtain ⟨o4, ho4, h⟩ := bd_some h
  refine x_callV (pc := 2) (As := [.ref a1]) (rest := []) hC hl (c_X13_levelOf l hls ho4) lk_RX13_222 fc_19 g1 dX13_isHeard_2 rfl rfl (Nat.le_of_ble_eq_true rfl) ⟨Nat.le_of_ble_eq_true rfl, Nat.le_of_ble_eq_true rfl⟩ ⟨(Nat.le_of_ble_eq_true rfl), (Nat.le_of_ble_eq_true rfl)⟩ ?_
  rcases o4 with ⟨x2 | E5, S3⟩
  · refine xk_i ?_
    replace h := bk_l h
    refine x_bipush (pc := 5) (v := (30 : Int32)) hC dX13_isHeard_5 (by decide) ?_
    refine x_icmp_lt (pc := 7) hC 14 dX13_isHeard_7 (by decide) (fun c6 => ?_) (fun c6 => ?_)
    · rw [if_pos c6] at h
      refine x_iconst (pc := 14) (v := (0 : Int32)) hC dX13_isHeard_14 (by decide) ?_
      refine x_pick [] rfl ?_
      exact t_X13_isHeard_15 hls hC hl hE h
    · rw [if_neg c6] at h
      refine x_iconst (pc := 10) (v := (1 : Int32)) hC dX13_isHeard_10 (by decide) ?_
      refine x_goto (pc := 11) hC 15 dX13_isHeard_11 (by decide) ?_
      refine x_pick [] rfl ?_
      exact t_X13_isHeard_15 hls hC hl hE h
  · exact xk_r (xt_out hC hE (bk_r h) (Nat.le_of_ble_eq_true rfl) (Nat.le_of_ble_eq_true rfl))
theorem c_X13_isHeard (l : Launch) (hls : l.stackTraces = false) {S : mS} {a0 : Nat} {a1 : Nat} {o : Rs Int32} (h : f_X13_isHeard S a0 a1 = some o) : CT (fun r : Int32 => some (.int r)) l yX13_isHeard (.code yX13_isHeard cX13_isHeard 2 (Option.some Jvm.ClassFile.FieldType.boolean)) rm_X13_isHeard S [.ref a0, .ref a1] o := ct_of (by decide +kernel) hls (Nat.le_of_ble_eq_true rfl) (fun C hl hC hE => t_X13_isHeard hls hC hl hE h)
abbrev rm_X13_level : Room := { frames := 10, cells := 0, slots := 0, locals := 193 }
def f_X13_level_33  (S : mS) (s0 : Int32) : Option (Rs Int32) :=
  some (.inl s0, S)
set_option maxHeartbeats 2000000 in
set_option maxRecDepth 100000 in
theorem t_X13_level_33 {l : Launch} (hls : l.stackTraces = false) {C : cT} (hC : CX C cX13_level 2 yX13_level rm_X13_level) (hl : C.2.1 = l) {S0 : mS} (hE : CE C S0 (Option.some Jvm.ClassFile.FieldType.int) []) {o : Rs Int32} {S : mS} {s0 : Int32} (h : f_X13_level_33  S s0 = some o) : XX C 2 (QQ C (fun r : Int32 => some (.int r)) S0 o) (0) (0) S 33 [] [.int s0] := by
  unfold f_X13_level_33 at h
  exact x_ireturn (pc := 33) hC hE dX13_level_33 (so h) (Nat.le_of_ble_eq_true rfl) (Nat.le_of_ble_eq_true rfl)
def f_X13_level_13  (S : mS) (a0 : Nat) (a1 : Int32) (s0 : Nat) (s1 : Int32) : Option (Rs Int32) :=
  gd (gK S s0 = 19) (bd (f_X13_isWrong S s0 s1) fun x2 S3 => if x2 = 0 then (gd (gK S3 a0 = 19) (lt9 (gR S3 a0 2) fun r7 => gd (gK S3 r7 = 37) (gd (¬ (a1 < 0 ∨ gZ S3 r7 ≤ (a1).toNatClampNeg)) (lt9 (gR S3 r7 (a1).toNatClampNeg) fun r11 => bd (f_X13_levelOf S3 a0 r11) fun x12 S13 => f_X13_level_33  S13 x12)))) else (f_X13_level_33  S3 (0 : Int32)))
set_option maxHeartbeats 2000000 in
set_option maxRecDepth 100000 in
theorem t_X13_level_13 {l : Launch} (hls : l.stackTraces = false) {C : cT} (hC : CX C cX13_level 2 yX13_level rm_X13_level) (hl : C.2.1 = l) {S0 : mS} (hE : CE C S0 (Option.some Jvm.ClassFile.FieldType.int) []) {o : Rs Int32} {S : mS} {a0 : Nat} {a1 : Int32} {s0 : Nat} {s1 : Int32} (h : f_X13_level_13  S a0 a1 s0 s1 = some o) : XX C 2 (QQ C (fun r : Int32 => some (.int r)) S0 o) (0) (0) S 13 [(0, .ref a0), (1, .int a1)] [.int s1, .ref s0] := by
  unfold f_X13_level_13 at h
  obtain ⟨g1, h⟩ := gd_some h
  obtain ⟨o4, ho4, h⟩ := bd_some h
  refine x_callV (pc := 13) (As := [.int s1]) (rest := []) hC hl (c_X13_isWrong l hls ho4) lk_RX13_68 fc_19 g1 dX13_level_13 rfl rfl (Nat.le_of_ble_eq_true rfl) ⟨Nat.le_of_ble_eq_true rfl, Nat.le_of_ble_eq_true rfl⟩ ⟨(Nat.le_of_ble_eq_true rfl), (Nat.le_of_ble_eq_true rfl)⟩ ?_
  rcases o4 with ⟨x2 | E5, S3⟩
  · refine xk_i ?_
    replace h := bk_l h
    refine x_if_eq (pc := 16) hC 23 dX13_level_16 (by decide) (fun c16 => ?_) (fun c16 => ?_)
    · rw [if_pos c16] at h
      refine x_aload_n (pc := 23) hC 0 dX13_level_23 rfl rfl ?_
      refine x_aload_n (pc := 24) hC 0 dX13_level_24 rfl rfl ?_
      obtain ⟨g6, h⟩ := gd_some h
      refine x_getRv (pc := 25) (k := 2) hC fc_19 fl_RX13_19 dX13_level_25 rfl g6 (fun r7 hr7 => ?_)
      replace h := lt_x hr7 h
      refine x_iload_n (pc := 28) hC 1 dX13_level_28 rfl rfl ?_
      obtain ⟨g10, h⟩ := gd_some h
      obtain ⟨g9, h⟩ := gd_some h
      refine x_raldv (pc := 29) (t0 := 7) hC dX13_level_29 g10 (by decide) (fun _ => rfl) g9 (fun r11 hr11 => ?_)
      replace h := lt_x hr11 h
      obtain ⟨o14, ho14, h⟩ := bd_some h
      refine x_callV (pc := 30) (As := [.ref r11]) (rest := []) hC hl (c_X13_levelOf l hls ho14) lk_RX13_222 fc_19 g6 dX13_level_30 rfl rfl (Nat.le_of_ble_eq_true rfl) ⟨Nat.le_of_ble_eq_true rfl, Nat.le_of_ble_eq_true rfl⟩ ⟨(Nat.le_of_ble_eq_true rfl), (Nat.le_of_ble_eq_true rfl)⟩ ?_
      rcases o14 with ⟨x12 | E15, S13⟩
      · refine xk_i ?_
        replace h := bk_l h
        refine x_pick [] rfl ?_
        exact t_X13_level_33 hls hC hl hE h
      · exact xk_r (xt_out hC hE (bk_r h) (Nat.le_of_ble_eq_true rfl) (Nat.le_of_ble_eq_true rfl))
    · rw [if_neg c16] at h
      refine x_iconst (pc := 19) (v := (0 : Int32)) hC dX13_level_19 (by decide) ?_
      refine x_goto (pc := 20) hC 33 dX13_level_20 (by decide) ?_
      refine x_pick [] rfl ?_
      exact t_X13_level_33 hls hC hl hE h
  · exact xk_r (xt_out hC hE (bk_r h) (Nat.le_of_ble_eq_true rfl) (Nat.le_of_ble_eq_true rfl))
def f_X13_level (S : mS) (a0 : Nat) (a1 : Int32) : Option (Rs Int32) :=
  bd (f_X13_isDeck S a1) fun x1 S2 => if x1 = 0 then (f_X13_level_13  S2 a0 a1 a0 (1 : Int32)) else (f_X13_level_13  S2 a0 a1 a0 (0 : Int32))
set_option maxHeartbeats 2000000 in
set_option maxRecDepth 100000 in
theorem t_X13_level {l : Launch} (hls : l.stackTraces = false) {C : cT} (hC : CX C cX13_level 2 yX13_level rm_X13_level) (hl : C.2.1 = l) {S0 : mS} (hE : CE C S0 (Option.some Jvm.ClassFile.FieldType.int) []) {o : Rs Int32} {S : mS} {a0 : Nat} {a1 : Int32} (h : f_X13_level S a0 a1 = some o) : XX C 2 (QQ C (fun r : Int32 => some (.int r)) S0 o) 0 0 S 0 [(0, .ref a0), (1, .int a1)] [] := by
  unfold f_X13_level at h
  refine x_aload_n (pc := 0) hC 0 dX13_level_0 rfl rfl ?_
  refine x_iload_n (pc := 1) hC 1 dX13_level_1 rfl rfl ?_
  obtain ⟨o3, ho3, h⟩ := bd_some h
  refine x_callS (pc := 2) (As := [.int a1]) (rest := [.ref a0]) hC hl (c_X13_isDeck l hls ho3) lk_RX13_121 dX13_level_2 rfl rfl (Nat.le_of_ble_eq_true rfl) ⟨Nat.le_of_ble_eq_true rfl, Nat.le_of_ble_eq_true rfl⟩ ⟨(Nat.le_of_ble_eq_true rfl), (Nat.le_of_ble_eq_true rfl)⟩ ?_
  rcases o3 with ⟨x1 | E4, S2⟩
  · refine xk_i ?_
    replace h := bk_l h
    refine x_if_eq (pc := 5) hC 12 dX13_level_5 (by decide) (fun c5 => ?_) (fun c5 => ?_)
    · rw [if_pos c5] at h
      refine x_iconst (pc := 12) (v := (1 : Int32)) hC dX13_level_12 (by decide) ?_
      refine x_pick [0, 1] rfl ?_
      exact t_X13_level_13 hls hC hl hE h
    · rw [if_neg c5] at h
      refine x_iconst (pc := 8) (v := (0 : Int32)) hC dX13_level_8 (by decide) ?_
      refine x_goto (pc := 9) hC 13 dX13_level_9 (by decide) ?_
      refine x_pick [0, 1] rfl ?_
      exact t_X13_level_13 hls hC hl hE h
  · exact xk_r (xt_out hC hE (bk_r h) (Nat.le_of_ble_eq_true rfl) (Nat.le_of_ble_eq_true rfl))
theorem c_X13_level (l : Launch) (hls : l.stackTraces = false) {S : mS} {a0 : Nat} {a1 : Int32} {o : Rs Int32} (h : f_X13_level S a0 a1 = some o) : CT (fun r : Int32 => some (.int r)) l yX13_level (.code yX13_level cX13_level 2 (Option.some Jvm.ClassFile.FieldType.int)) rm_X13_level S [.ref a0, .int a1] o := ct_of (by decide +kernel) hls (Nat.le_of_ble_eq_true rfl) (fun C hl hC hE => t_X13_level hls hC hl hE h)
abbrev rm_X13_addEffect : Room := { frames := 14, cells := 1, slots := 3, locals := 282 }
def f_X13_addEffect_58  (S : mS) (a0 : Nat) (a1 : Int32) (a2 : Int32) (a3 : Int32) (s0 : Nat) (s1 : Int32) : Option (Rs Int32) :=
  gd (gK S s0 = 19) (bd (f_X13_isWrong S s0 s1) fun x2 S3 => if x2 = 0 then (gd (gK S3 a0 = 19) (lt9 (gR S3 a0 2) fun r7 => gd (gK S3 r7 = 37) (gd (¬ (a1 < 0 ∨ gZ S3 r7 ≤ (a1).toNatClampNeg)) (lt9 (gR S3 r7 (a1).toNatClampNeg) fun r11 => gd (gK S3 r11 = 17) (lt9 (gR S3 r11 8) fun r13 => gd (gN S3 + 1 < KB) (zW (sW S3 30 3) fun S15 => lt9 (gN S3 + 1) fun r16 => gd (¬ ((0 : Int32) < 0 ∨ gZ S15 r16 ≤ ((0 : Int32)).toNatClampNeg)) (zI (sI S15 r16 ((0 : Int32)).toNatClampNeg a2) fun S19 => gd (¬ ((1 : Int32) < 0 ∨ gZ S19 r16 ≤ ((1 : Int32)).toNatClampNeg)) (zI (sI S19 r16 ((1 : Int32)).toNatClampNeg a3) fun S22 => gd (¬ ((2 : Int32) < 0 ∨ gZ S22 r16 ≤ ((2 : Int32)).toNatClampNeg)) (zI (sI S22 r16 ((2 : Int32)).toNatClampNeg (0 : Int32)) fun S25 => gd (gK S25 r13 = 5) (bd (f_Jx4a65c_add_9ea2d S25 r13 r16) fun x28 S29 => gd (gK S29 a0 = 19) (bd (f_X13_logs S29 a0) fun _ S34 => gd (gK S34 a0 = 19) (lt9 (gR S34 a0 2) fun r38 => gd (gK S34 r38 = 37) (gd (¬ (a1 < 0 ∨ gZ S34 r38 ≤ (a1).toNatClampNeg)) (lt9 (gR S34 r38 (a1).toNatClampNeg) fun r42 => gd (gK S34 r42 = 17) (lt9 (gR S34 r42 8) fun r44 => gd (gK S34 r44 = 5) (bd (f_Jx4a65c_size_8abf5 S34 r44) fun x46 S47 => some (.inl x46, S47))))))))))))))))) else (some (.inl (0 : Int32), S3)))
set_option maxHeartbeats 2000000 in
set_option maxRecDepth 100000 in
theorem t_X13_addEffect_58 {l : Launch} (hls : l.stackTraces = false) {C : cT} (hC : CX C cX13_addEffect 4 yX13_addEffect rm_X13_addEffect) (hl : C.2.1 = l) {S0 : mS} (hE : CE C S0 (Option.some Jvm.ClassFile.FieldType.int) []) {o : Rs Int32} {S : mS} {a0 : Nat} {a1 : Int32} {a2 : Int32} {a3 : Int32} {s0 : Nat} {s1 : Int32} (h : f_X13_addEffect_58  S a0 a1 a2 a3 s0 s1 = some o) : XX C 4 (QQ C (fun r : Int32 => some (.int r)) S0 o) (0) (0) S 58 [(0, .ref a0), (1, .int a1), (2, .int a2), (3, .int a3)] [.int s1, .ref s0] := by
  unfold f_X13_addEffect_58 at h
  obtain ⟨g1, h⟩ := gd_some h
  obtain ⟨o4, ho4, h⟩ := bd_some h
  refine x_callV (pc := 58) (As := [.int s1]) (rest := []) hC hl (c_X13_isWrong l hls ho4) lk_RX13_68 fc_19 g1 dX13_addEffect_58 rfl rfl (Nat.le_of_ble_eq_true rfl) ⟨Nat.le_of_ble_eq_true rfl, Nat.le_of_ble_eq_true rfl⟩ ⟨(Nat.le_of_ble_eq_true rfl), (Nat.le_of_ble_eq_true rfl)⟩ ?_
  rcases o4 with ⟨x2 | E5, S3⟩
  · refine xk_i ?_
    replace h := bk_l h
    refine x_if_eq (pc := 61) hC 66 dX13_addEffect_61 (by decide) (fun c50 => ?_) (fun c50 => ?_)
    · rw [if_pos c50] at h
      refine x_aload_n (pc := 66) hC 0 dX13_addEffect_66 rfl rfl ?_
      obtain ⟨g6, h⟩ := gd_some h
      refine x_getRv (pc := 67) (k := 2) hC fc_19 fl_RX13_19 dX13_addEffect_67 rfl g6 (fun r7 hr7 => ?_)
      replace h := lt_x hr7 h
      refine x_iload_n (pc := 70) hC 1 dX13_addEffect_70 rfl rfl ?_
      obtain ⟨g10, h⟩ := gd_some h
      obtain ⟨g9, h⟩ := gd_some h
      refine x_raldv (pc := 71) (t0 := 7) hC dX13_addEffect_71 g10 (by decide) (fun _ => rfl) g9 (fun r11 hr11 => ?_)
      replace h := lt_x hr11 h
      obtain ⟨g12, h⟩ := gd_some h
      refine x_getRv (pc := 72) (k := 8) hC fc_17 fl_RX13_230 dX13_addEffect_72 rfl g12 (fun r13 hr13 => ?_)
      replace h := lt_x hr13 h
      refine x_iconst (pc := 75) (v := (3 : Int32)) hC dX13_addEffect_75 (by decide) ?_
      obtain ⟨g14, h⟩ := gd_some h
      refine x_newaIv (pc := 76) (z := 3) hC wm_186 dX13_addEffect_76 (by decide) (by decide) (Nat.le_of_ble_eq_true rfl) g14 (Nat.le_of_ble_eq_true rfl) (Nat.le_of_ble_eq_true rfl) (fun S15 r16 hS15 hr16 => ?_)
      replace h := zW_x hS15 h
      replace h := lt_x hr16 h
      have g17 : gK S15 r16 = 30 := by rw [hr16, hS15]; exact sW_K
      refine x_dup (pc := 78) hC dX13_addEffect_78 rfl ?_
      refine x_iconst (pc := 79) (v := (0 : Int32)) hC dX13_addEffect_79 (by decide) ?_
      refine x_iload_n (pc := 80) hC 2 dX13_addEffect_80 rfl rfl ?_
      obtain ⟨g18, h⟩ := gd_some h
      refine x_iastv (pc := 81) hC dX13_addEffect_81 g17 g18 (fun S19 hS19 => ?_)
      replace h := zI_x hS19 h
      have g20 : gK S19 r16 = 30 := by rw [hS19]; exact g17
      refine x_dup (pc := 82) hC dX13_addEffect_82 rfl ?_
      refine x_iconst (pc := 83) (v := (1 : Int32)) hC dX13_addEffect_83 (by decide) ?_
      refine x_iload_n (pc := 84) hC 3 dX13_addEffect_84 rfl rfl ?_
      obtain ⟨g21, h⟩ := gd_some h
      refine x_iastv (pc := 85) hC dX13_addEffect_85 g20 g21 (fun S22 hS22 => ?_)
      replace h := zI_x hS22 h
      have g23 : gK S22 r16 = 30 := by rw [hS22]; exact g20
      refine x_dup (pc := 86) hC dX13_addEffect_86 rfl ?_
      refine x_iconst (pc := 87) (v := (2 : Int32)) hC dX13_addEffect_87 (by decide) ?_
      refine x_iconst (pc := 88) (v := (0 : Int32)) hC dX13_addEffect_88 (by decide) ?_
      obtain ⟨g24, h⟩ := gd_some h
      refine x_iastv (pc := 89) hC dX13_addEffect_89 g23 g24 (fun S25 hS25 => ?_)
      replace h := zI_x hS25 h
      have g26 : gK S25 r16 = 30 := by rw [hS25]; exact g23
      obtain ⟨g27, h⟩ := gd_some h
      obtain ⟨o30, ho30, h⟩ := bd_some h
      refine x_callF (pc := 90) (As := [.ref r16]) (rest := []) hC hl (c_Jx4a65c_add_9ea2d l hls ho30) lk_RX13_77 fc_5 g27 dX13_addEffect_90 rfl rfl (Nat.le_of_ble_eq_true rfl) ⟨Nat.le_of_ble_eq_true rfl, Nat.le_of_ble_eq_true rfl⟩ ⟨(Nat.le_of_ble_eq_true rfl), (Nat.le_of_ble_eq_true rfl)⟩ ?_
      rcases o30 with ⟨x28 | E31, S29⟩
      · refine xk_i ?_
        replace h := bk_l h
        refine x_pop (pc := 95) hC dX13_addEffect_95 rfl ?_
        refine x_aload_n (pc := 96) hC 0 dX13_addEffect_96 rfl rfl ?_
        obtain ⟨g32, h⟩ := gd_some h
        obtain ⟨o35, ho35, h⟩ := bd_some h
        refine x_callV (pc := 97) (As := []) (rest := []) hC hl (c_X13_logs l hls ho35) lk_RX13_81 fc_19 g32 dX13_addEffect_97 rfl rfl (Nat.le_of_ble_eq_true rfl) ⟨Nat.le_of_ble_eq_true rfl, Nat.le_of_ble_eq_true rfl⟩ ⟨(Nat.le_of_ble_eq_true rfl), (Nat.le_of_ble_eq_true rfl)⟩ ?_
        rcases o35 with ⟨_ | E36, S34⟩
        · refine xk_v ?_
          replace h := bk_l h
          refine x_aload_n (pc := 100) hC 0 dX13_addEffect_100 rfl rfl ?_
          obtain ⟨g37, h⟩ := gd_some h
          refine x_getRv (pc := 101) (k := 2) hC fc_19 fl_RX13_19 dX13_addEffect_101 rfl g37 (fun r38 hr38 => ?_)
          replace h := lt_x hr38 h
          refine x_iload_n (pc := 104) hC 1 dX13_addEffect_104 rfl rfl ?_
          obtain ⟨g41, h⟩ := gd_some h
          obtain ⟨g40, h⟩ := gd_some h
          refine x_raldv (pc := 105) (t0 := 7) hC dX13_addEffect_105 g41 (by decide) (fun _ => rfl) g40 (fun r42 hr42 => ?_)
          replace h := lt_x hr42 h
          obtain ⟨g43, h⟩ := gd_some h
          refine x_getRv (pc := 106) (k := 8) hC fc_17 fl_RX13_230 dX13_addEffect_106 rfl g43 (fun r44 hr44 => ?_)
          replace h := lt_x hr44 h
          obtain ⟨g45, h⟩ := gd_some h
          obtain ⟨o48, ho48, h⟩ := bd_some h
          refine x_callF (pc := 109) (As := []) (rest := []) hC hl (c_Jx4a65c_size_8abf5 l hls ho48) lk_RX13_54 fc_5 g45 dX13_addEffect_109 rfl rfl (Nat.le_of_ble_eq_true rfl) ⟨Nat.le_of_ble_eq_true rfl, Nat.le_of_ble_eq_true rfl⟩ ⟨(Nat.le_of_ble_eq_true rfl), (Nat.le_of_ble_eq_true rfl)⟩ ?_
          rcases o48 with ⟨x46 | E49, S47⟩
          · refine xk_i ?_
            replace h := bk_l h
            exact x_ireturn (pc := 114) hC hE dX13_addEffect_114 (so h) (Nat.le_of_ble_eq_true rfl) (Nat.le_of_ble_eq_true rfl)
          · exact xk_r (xt_out hC hE (bk_r h) (Nat.le_of_ble_eq_true rfl) (Nat.le_of_ble_eq_true rfl))
        · exact xk_r (xt_out hC hE (bk_r h) (Nat.le_of_ble_eq_true rfl) (Nat.le_of_ble_eq_true rfl))
      · exact xk_r (xt_out hC hE (bk_r h) (Nat.le_of_ble_eq_true rfl) (Nat.le_of_ble_eq_true rfl))
    · rw [if_neg c50] at h
      refine x_iconst (pc := 64) (v := (0 : Int32)) hC dX13_addEffect_64 (by decide) ?_
      exact x_ireturn (pc := 65) hC hE dX13_addEffect_65 (so h) (Nat.le_of_ble_eq_true rfl) (Nat.le_of_ble_eq_true rfl)
  · exact xk_r (xt_out hC hE (bk_r h) (Nat.le_of_ble_eq_true rfl) (Nat.le_of_ble_eq_true rfl))
def f_X13_addEffect_31  (S : mS) (a0 : Nat) (a1 : Int32) (a2 : Int32) (a3 : Int32) (s0 : Nat) : Option (Rs Int32) :=
  f_X13_addEffect_58  S a0 a1 a2 a3 s0 (2 : Int32)
set_option maxHeartbeats 2000000 in
set_option maxRecDepth 100000 in
theorem t_X13_addEffect_31 {l : Launch} (hls : l.stackTraces = false) {C : cT} (hC : CX C cX13_addEffect 4 yX13_addEffect rm_X13_addEffect) (hl : C.2.1 = l) {S0 : mS} (hE : CE C S0 (Option.some Jvm.ClassFile.FieldType.int) []) {o : Rs Int32} {S : mS} {a0 : Nat} {a1 : Int32} {a2 : Int32} {a3 : Int32} {s0 : Nat} (h : f_X13_addEffect_31  S a0 a1 a2 a3 s0 = some o) : XX C 4 (QQ C (fun r : Int32 => some (.int r)) S0 o) (0) (0) S 31 [(0, .ref a0), (1, .int a1), (2, .int a2), (3, .int a3)] [.ref s0] := by
  unfold f_X13_addEffect_31 at h
  refine x_iconst (pc := 31) (v := (2 : Int32)) hC dX13_addEffect_31 (by decide) ?_
  refine x_goto (pc := 32) hC 58 dX13_addEffect_32 (by decide) ?_
  refine x_pick [0, 1, 2, 3] rfl ?_
  exact t_X13_addEffect_58 hls hC hl hE h
def f_X13_addEffect (S : mS) (a0 : Nat) (a1 : Int32) (a2 : Int32) (a3 : Int32) : Option (Rs Int32) :=
  bd (f_X13_isDeck S a1) fun x1 S2 => if x1 = 0 then (f_X13_addEffect_58  S2 a0 a1 a2 a3 a0 (1 : Int32)) else (gd (gK S2 (KB + 2) = 1) (bd (f_J0_indexOf_0f7a4 S2 (KB + 2) a2) fun x6 S7 => if x6 < 0 then (f_X13_addEffect_31  S7 a0 a1 a2 a3 a0) else (bd (f_X13_isBetween S7 a3 (0 : Int32) (100 : Int32)) fun x10 S11 => if x10 = 0 then (f_X13_addEffect_31  S11 a0 a1 a2 a3 a0) else (gd (gK S11 a0 = 19) (lt9 (gR S11 a0 2) fun r15 => gd (gK S11 r15 = 37) (gd (¬ (a1 < 0 ∨ gZ S11 r15 ≤ (a1).toNatClampNeg)) (lt9 (gR S11 r15 (a1).toNatClampNeg) fun r19 => gd (gK S11 r19 = 17) (lt9 (gR S11 r19 8) fun r21 => gd (gK S11 r21 = 5) (bd (f_Jx4a65c_size_8abf5 S11 r21) fun x23 S24 => if x23 = (3 : Int32) then (f_X13_addEffect_58  S24 a0 a1 a2 a3 a0 (3 : Int32)) else (f_X13_addEffect_58  S24 a0 a1 a2 a3 a0 (0 : Int32)))))))))))
set_option maxHeartbeats 2000000 in
set_option maxRecDepth 100000 in
theorem t_X13_addEffect {l : Launch} (hls : l.stackTraces = false) {C : cT} (hC : CX C cX13_addEffect 4 yX13_addEffect rm_X13_addEffect) (hl : C.2.1 = l) {S0 : mS} (hE : CE C S0 (Option.some Jvm.ClassFile.FieldType.int) []) {o : Rs Int32} {S : mS} {a0 : Nat} {a1 : Int32} {a2 : Int32} {a3 : Int32} (h : f_X13_addEffect S a0 a1 a2 a3 = some o) : XX C 4 (QQ C (fun r : Int32 => some (.int r)) S0 o) 0 0 S 0 [(0, .ref a0), (1, .int a1), (2, .int a2), (3, .int a3)] [] := by
  unfold f_X13_addEffect at h
  refine x_aload_n (pc := 0) hC 0 dX13_addEffect_0 rfl rfl ?_
  refine x_iload_n (pc := 1) hC 1 dX13_addEffect_1 rfl rfl ?_
  obtain ⟨o3, ho3, h⟩ := bd_some h
  refine x_callS (pc := 2) (As := [.int a1]) (rest := [.ref a0]) hC hl (c_X13_isDeck l hls ho3) lk_RX13_121 dX13_addEffect_2 rfl rfl (Nat.le_of_ble_eq_true rfl) ⟨Nat.le_of_ble_eq_true rfl, Nat.le_of_ble_eq_true rfl⟩ ⟨(Nat.le_of_ble_eq_true rfl), (Nat.le_of_ble_eq_true rfl)⟩ ?_
  rcases o3 with ⟨x1 | E4, S2⟩
  · refine xk_i ?_
    replace h := bk_l h
    refine x_if_ne (pc := 5) hC 12 dX13_addEffect_5 (by decide) (fun c30 => ?_) (fun c30 => ?_)
    · rw [if_neg c30] at h
      refine x_ldcK (pc := 12) (i := 2) (tx := "erc") hC (by decide) dX13_addEffect_12 ?_
      refine x_iload_n (pc := 14) hC 2 dX13_addEffect_14 rfl rfl ?_
      obtain ⟨g5, h⟩ := gd_some h
      obtain ⟨o8, ho8, h⟩ := bd_some h
      refine x_callV (pc := 15) (As := [.int a2]) (rest := [.ref a0]) hC hl (c_J0_indexOf_0f7a4 l hls ho8) lk_RX13_207 fc_1 g5 dX13_addEffect_15 rfl rfl (Nat.le_of_ble_eq_true rfl) ⟨Nat.le_of_ble_eq_true rfl, Nat.le_of_ble_eq_true rfl⟩ ⟨(Nat.le_of_ble_eq_true rfl), (Nat.le_of_ble_eq_true rfl)⟩ ?_
      rcases o8 with ⟨x6 | E9, S7⟩
      · refine xk_i ?_
        replace h := bk_l h
        refine x_if_lt (pc := 18) hC 31 dX13_addEffect_18 (by decide) (fun c29 => ?_) (fun c29 => ?_)
        · rw [if_pos c29] at h
          refine x_pick [0, 1, 2, 3] rfl ?_
          exact t_X13_addEffect_31 hls hC hl hE h
        · rw [if_neg c29] at h
          refine x_iload_n (pc := 21) hC 3 dX13_addEffect_21 rfl rfl ?_
          refine x_iconst (pc := 22) (v := (0 : Int32)) hC dX13_addEffect_22 (by decide) ?_
          refine x_bipush (pc := 23) (v := (100 : Int32)) hC dX13_addEffect_23 (by decide) ?_
          obtain ⟨o12, ho12, h⟩ := bd_some h
          refine x_callS (pc := 25) (As := [.int a3, .int (0 : Int32), .int (100 : Int32)]) (rest := [.ref a0]) hC hl (c_X13_isBetween l hls ho12) lk_RX13_50 dX13_addEffect_25 rfl rfl (Nat.le_of_ble_eq_true rfl) ⟨Nat.le_of_ble_eq_true rfl, Nat.le_of_ble_eq_true rfl⟩ ⟨(Nat.le_of_ble_eq_true rfl), (Nat.le_of_ble_eq_true rfl)⟩ ?_
          rcases o12 with ⟨x10 | E13, S11⟩
          · refine xk_i ?_
            replace h := bk_l h
            refine x_if_ne (pc := 28) hC 35 dX13_addEffect_28 (by decide) (fun c28 => ?_) (fun c28 => ?_)
            · rw [if_neg c28] at h
              refine x_aload_n (pc := 35) hC 0 dX13_addEffect_35 rfl rfl ?_
              obtain ⟨g14, h⟩ := gd_some h
              refine x_getRv (pc := 36) (k := 2) hC fc_19 fl_RX13_19 dX13_addEffect_36 rfl g14 (fun r15 hr15 => ?_)
              replace h := lt_x hr15 h
              refine x_iload_n (pc := 39) hC 1 dX13_addEffect_39 rfl rfl ?_
              obtain ⟨g18, h⟩ := gd_some h
              obtain ⟨g17, h⟩ := gd_some h
              refine x_raldv (pc := 40) (t0 := 7) hC dX13_addEffect_40 g18 (by decide) (fun _ => rfl) g17 (fun r19 hr19 => ?_)
              replace h := lt_x hr19 h
              obtain ⟨g20, h⟩ := gd_some h
              refine x_getRv (pc := 41) (k := 8) hC fc_17 fl_RX13_230 dX13_addEffect_41 rfl g20 (fun r21 hr21 => ?_)
              replace h := lt_x hr21 h
              obtain ⟨g22, h⟩ := gd_some h
              obtain ⟨o25, ho25, h⟩ := bd_some h
              refine x_callF (pc := 44) (As := []) (rest := [.ref a0]) hC hl (c_Jx4a65c_size_8abf5 l hls ho25) lk_RX13_54 fc_5 g22 dX13_addEffect_44 rfl rfl (Nat.le_of_ble_eq_true rfl) ⟨Nat.le_of_ble_eq_true rfl, Nat.le_of_ble_eq_true rfl⟩ ⟨(Nat.le_of_ble_eq_true rfl), (Nat.le_of_ble_eq_true rfl)⟩ ?_
              rcases o25 with ⟨x23 | E26, S24⟩
              · refine xk_i ?_
                replace h := bk_l h
                refine x_iconst (pc := 49) (v := (3 : Int32)) hC dX13_addEffect_49 (by decide) ?_
                refine x_icmp_ne (pc := 50) hC 57 dX13_addEffect_50 (by decide) (fun c27 => ?_) (fun c27 => ?_)
                · rw [if_neg c27] at h
                  refine x_iconst (pc := 57) (v := (0 : Int32)) hC dX13_addEffect_57 (by decide) ?_
                  refine x_pick [0, 1, 2, 3] rfl ?_
                  exact t_X13_addEffect_58 hls hC hl hE h
                · rw [if_pos c27] at h
                  refine x_iconst (pc := 53) (v := (3 : Int32)) hC dX13_addEffect_53 (by decide) ?_
                  refine x_goto (pc := 54) hC 58 dX13_addEffect_54 (by decide) ?_
                  refine x_pick [0, 1, 2, 3] rfl ?_
                  exact t_X13_addEffect_58 hls hC hl hE h
              · exact xk_r (xt_out hC hE (bk_r h) (Nat.le_of_ble_eq_true rfl) (Nat.le_of_ble_eq_true rfl))
            · rw [if_pos c28] at h
              refine x_pick [0, 1, 2, 3] rfl ?_
              exact t_X13_addEffect_31 hls hC hl hE h
          · exact xk_r (xt_out hC hE (bk_r h) (Nat.le_of_ble_eq_true rfl) (Nat.le_of_ble_eq_true rfl))
      · exact xk_r (xt_out hC hE (bk_r h) (Nat.le_of_ble_eq_true rfl) (Nat.le_of_ble_eq_true rfl))
    · rw [if_pos c30] at h
      refine x_iconst (pc := 8) (v := (1 : Int32)) hC dX13_addEffect_8 (by decide) ?_
      refine x_goto (pc := 9) hC 58 dX13_addEffect_9 (by decide) ?_
      refine x_pick [0, 1, 2, 3] rfl ?_
      exact t_X13_addEffect_58 hls hC hl hE h
  · exact xk_r (xt_out hC hE (bk_r h) (Nat.le_of_ble_eq_true rfl) (Nat.le_of_ble_eq_true rfl))
theorem c_X13_addEffect (l : Launch) (hls : l.stackTraces = false) {S : mS} {a0 : Nat} {a1 : Int32} {a2 : Int32} {a3 : Int32} {o : Rs Int32} (h : f_X13_addEffect S a0 a1 a2 a3 = some o) : CT (fun r : Int32 => some (.int r)) l yX13_addEffect (.code yX13_addEffect cX13_addEffect 4 (Option.some Jvm.ClassFile.FieldType.int)) rm_X13_addEffect S [.ref a0, .int a1, .int a2, .int a3] o := ct_of (by decide +kernel) hls (Nat.le_of_ble_eq_true rfl) (fun C hl hC hE => t_X13_addEffect hls hC hl hE h)
abbrev rm_X13_dropEffects : Room := { frames := 10, cells := 0, slots := 0, locals := 192 }
def f_X13_dropEffects_13  (S : mS) (a0 : Nat) (a1 : Int32) (s0 : Nat) (s1 : Int32) : Option (Rs Int32) :=
  gd (gK S s0 = 19) (bd (f_X13_isWrong S s0 s1) fun x2 S3 => if x2 = 0 then (gd (gK S3 a0 = 19) (lt9 (gR S3 a0 2) fun r7 => gd (gK S3 r7 = 37) (gd (¬ (a1 < 0 ∨ gZ S3 r7 ≤ (a1).toNatClampNeg)) (lt9 (gR S3 r7 (a1).toNatClampNeg) fun r11 => gd (gK S3 r11 = 17) (lt9 (gR S3 r11 8) fun r13 => gd (gK S3 r13 = 5) (bd (f_Jx4a65c_size_8abf5 S3 r13) fun x15 S16 => gd (gK S16 a0 = 19) (lt9 (gR S16 a0 2) fun r20 => gd (gK S16 r20 = 37) (gd (¬ (a1 < 0 ∨ gZ S16 r20 ≤ (a1).toNatClampNeg)) (lt9 (gR S16 r20 (a1).toNatClampNeg) fun r24 => gd (gK S16 r24 = 17) (lt9 (gR S16 r24 8) fun r26 => gd (gK S16 r26 = 5) (bd (f_Jx4a65c_clear_da8c8 S16 r26) fun _ S29 => gd (gK S29 a0 = 19) (bd (f_X13_logs S29 a0) fun _ S34 => some (.inl x15, S34))))))))))))) else (some (.inl (0 : Int32), S3)))
set_option maxHeartbeats 2000000 in
set_option maxRecDepth 100000 in
theorem t_X13_dropEffects_13 {l : Launch} (hls : l.stackTraces = false) {C : cT} (hC : CX C cX13_dropEffects 3 yX13_dropEffects rm_X13_dropEffects) (hl : C.2.1 = l) {S0 : mS} (hE : CE C S0 (Option.some Jvm.ClassFile.FieldType.int) []) {o : Rs Int32} {S : mS} {a0 : Nat} {a1 : Int32} {s0 : Nat} {s1 : Int32} (h : f_X13_dropEffects_13  S a0 a1 s0 s1 = some o) : XX C 3 (QQ C (fun r : Int32 => some (.int r)) S0 o) (0) (0) S 13 [(0, .ref a0), (1, .int a1)] [.int s1, .ref s0] := by
  unfold f_X13_dropEffects_13 at h
  obtain ⟨g1, h⟩ := gd_some h
  obtain ⟨o4, ho4, h⟩ := bd_some h
  refine x_callV (pc := 13) (As := [.int s1]) (rest := []) hC hl (c_X13_isWrong l hls ho4) lk_RX13_68 fc_19 g1 dX13_dropEffects_13 rfl rfl (Nat.le_of_ble_eq_true rfl) ⟨Nat.le_of_ble_eq_true rfl, Nat.le_of_ble_eq_true rfl⟩ ⟨(Nat.le_of_ble_eq_true rfl), (Nat.le_of_ble_eq_true rfl)⟩ ?_
  rcases o4 with ⟨x2 | E5, S3⟩
  · refine xk_i ?_
    replace h := bk_l h
    refine x_if_eq (pc := 16) hC 21 dX13_dropEffects_16 (by decide) (fun c37 => ?_) (fun c37 => ?_)
    · rw [if_pos c37] at h
      refine x_aload_n (pc := 21) hC 0 dX13_dropEffects_21 rfl rfl ?_
      obtain ⟨g6, h⟩ := gd_some h
      refine x_getRv (pc := 22) (k := 2) hC fc_19 fl_RX13_19 dX13_dropEffects_22 rfl g6 (fun r7 hr7 => ?_)
      replace h := lt_x hr7 h
      refine x_iload_n (pc := 25) hC 1 dX13_dropEffects_25 rfl rfl ?_
      obtain ⟨g10, h⟩ := gd_some h
      obtain ⟨g9, h⟩ := gd_some h
      refine x_raldv (pc := 26) (t0 := 7) hC dX13_dropEffects_26 g10 (by decide) (fun _ => rfl) g9 (fun r11 hr11 => ?_)
      replace h := lt_x hr11 h
      obtain ⟨g12, h⟩ := gd_some h
      refine x_getRv (pc := 27) (k := 8) hC fc_17 fl_RX13_230 dX13_dropEffects_27 rfl g12 (fun r13 hr13 => ?_)
      replace h := lt_x hr13 h
      obtain ⟨g14, h⟩ := gd_some h
      obtain ⟨o17, ho17, h⟩ := bd_some h
      refine x_callF (pc := 30) (As := []) (rest := []) hC hl (c_Jx4a65c_size_8abf5 l hls ho17) lk_RX13_54 fc_5 g14 dX13_dropEffects_30 rfl rfl (Nat.le_of_ble_eq_true rfl) ⟨Nat.le_of_ble_eq_true rfl, Nat.le_of_ble_eq_true rfl⟩ ⟨(Nat.le_of_ble_eq_true rfl), (Nat.le_of_ble_eq_true rfl)⟩ ?_
      rcases o17 with ⟨x15 | E18, S16⟩
      · refine xk_i ?_
        replace h := bk_l h
        refine x_istore_n (pc := 35) hC dX13_dropEffects_35 rfl (by decide) (by decide) rfl ?_
        refine x_aload_n (pc := 36) hC 1 dX13_dropEffects_36 rfl rfl ?_
        obtain ⟨g19, h⟩ := gd_some h
        refine x_getRv (pc := 37) (k := 2) hC fc_19 fl_RX13_19 dX13_dropEffects_37 rfl g19 (fun r20 hr20 => ?_)
        replace h := lt_x hr20 h
        refine x_iload_n (pc := 40) hC 2 dX13_dropEffects_40 rfl rfl ?_
        obtain ⟨g23, h⟩ := gd_some h
        obtain ⟨g22, h⟩ := gd_some h
        refine x_raldv (pc := 41) (t0 := 7) hC dX13_dropEffects_41 g23 (by decide) (fun _ => rfl) g22 (fun r24 hr24 => ?_)
        replace h := lt_x hr24 h
        obtain ⟨g25, h⟩ := gd_some h
        refine x_getRv (pc := 42) (k := 8) hC fc_17 fl_RX13_230 dX13_dropEffects_42 rfl g25 (fun r26 hr26 => ?_)
        replace h := lt_x hr26 h
        obtain ⟨g27, h⟩ := gd_some h
        obtain ⟨o30, ho30, h⟩ := bd_some h
        refine x_callF (pc := 45) (As := []) (rest := []) hC hl (c_Jx4a65c_clear_da8c8 l hls ho30) lk_RX13_233 fc_5 g27 dX13_dropEffects_45 rfl rfl (Nat.le_of_ble_eq_true rfl) ⟨Nat.le_of_ble_eq_true rfl, Nat.le_of_ble_eq_true rfl⟩ ⟨(Nat.le_of_ble_eq_true rfl), (Nat.le_of_ble_eq_true rfl)⟩ ?_
        rcases o30 with ⟨_ | E31, S29⟩
        · refine xk_v ?_
          replace h := bk_l h
          refine x_aload_n (pc := 50) hC 1 dX13_dropEffects_50 rfl rfl ?_
          obtain ⟨g32, h⟩ := gd_some h
          obtain ⟨o35, ho35, h⟩ := bd_some h
          refine x_callV (pc := 51) (As := []) (rest := []) hC hl (c_X13_logs l hls ho35) lk_RX13_81 fc_19 g32 dX13_dropEffects_51 rfl rfl (Nat.le_of_ble_eq_true rfl) ⟨Nat.le_of_ble_eq_true rfl, Nat.le_of_ble_eq_true rfl⟩ ⟨(Nat.le_of_ble_eq_true rfl), (Nat.le_of_ble_eq_true rfl)⟩ ?_
          rcases o35 with ⟨_ | E36, S34⟩
          · refine xk_v ?_
            replace h := bk_l h
            refine x_iload_n (pc := 54) hC 0 dX13_dropEffects_54 rfl rfl ?_
            exact x_ireturn (pc := 55) hC hE dX13_dropEffects_55 (so h) (Nat.le_of_ble_eq_true rfl) (Nat.le_of_ble_eq_true rfl)
          · exact xk_r (xt_out hC hE (bk_r h) (Nat.le_of_ble_eq_true rfl) (Nat.le_of_ble_eq_true rfl))
        · exact xk_r (xt_out hC hE (bk_r h) (Nat.le_of_ble_eq_true rfl) (Nat.le_of_ble_eq_true rfl))
      · exact xk_r (xt_out hC hE (bk_r h) (Nat.le_of_ble_eq_true rfl) (Nat.le_of_ble_eq_true rfl))
    · rw [if_neg c37] at h
      refine x_iconst (pc := 19) (v := (0 : Int32)) hC dX13_dropEffects_19 (by decide) ?_
      exact x_ireturn (pc := 20) hC hE dX13_dropEffects_20 (so h) (Nat.le_of_ble_eq_true rfl) (Nat.le_of_ble_eq_true rfl)
  · exact xk_r (xt_out hC hE (bk_r h) (Nat.le_of_ble_eq_true rfl) (Nat.le_of_ble_eq_true rfl))
def f_X13_dropEffects (S : mS) (a0 : Nat) (a1 : Int32) : Option (Rs Int32) :=
  bd (f_X13_isDeck S a1) fun x1 S2 => if x1 = 0 then (f_X13_dropEffects_13  S2 a0 a1 a0 (1 : Int32)) else (f_X13_dropEffects_13  S2 a0 a1 a0 (0 : Int32))
set_option maxHeartbeats 2000000 in
set_option maxRecDepth 100000 in
theorem t_X13_dropEffects {l : Launch} (hls : l.stackTraces = false) {C : cT} (hC : CX C cX13_dropEffects 3 yX13_dropEffects rm_X13_dropEffects) (hl : C.2.1 = l) {S0 : mS} (hE : CE C S0 (Option.some Jvm.ClassFile.FieldType.int) []) {o : Rs Int32} {S : mS} {a0 : Nat} {a1 : Int32} (h : f_X13_dropEffects S a0 a1 = some o) : XX C 3 (QQ C (fun r : Int32 => some (.int r)) S0 o) 0 0 S 0 [(0, .ref a0), (1, .int a1)] [] := by
  unfold f_X13_dropEffects at h
  refine x_aload_n (pc := 0) hC 0 dX13_dropEffects_0 rfl rfl ?_
  refine x_iload_n (pc := 1) hC 1 dX13_dropEffects_1 rfl rfl ?_
  obtain ⟨o3, ho3, h⟩ := bd_some h
  refine x_callS (pc := 2) (As := [.int a1]) (rest := [.ref a0]) hC hl (c_X13_isDeck l hls ho3) lk_RX13_121 dX13_dropEffects_2 rfl rfl (Nat.le_of_ble_eq_true rfl) ⟨Nat.le_of_ble_eq_true rfl, Nat.le_of_ble_eq_true rfl⟩ ⟨(Nat.le_of_ble_eq_true rfl), (Nat.le_of_ble_eq_true rfl)⟩ ?_
  rcases o3 with ⟨x1 | E4, S2⟩
  · refine xk_i ?_
    replace h := bk_l h
    refine x_if_eq (pc := 5) hC 12 dX13_dropEffects_5 (by decide) (fun c5 => ?_) (fun c5 => ?_)
    · rw [if_pos c5] at h
      refine x_iconst (pc := 12) (v := (1 : Int32)) hC dX13_dropEffects_12 (by decide) ?_
      refine x_pick [0, 1] rfl ?_
      exact t_X13_dropEffects_13 hls hC hl hE h
    · rw [if_neg c5] at h
      refine x_iconst (pc := 8) (v := (0 : Int32)) hC dX13_dropEffects_8 (by decide) ?_
      refine x_goto (pc := 9) hC 13 dX13_dropEffects_9 (by decide) ?_
      refine x_pick [0, 1] rfl ?_
      exact t_X13_dropEffects_13 hls hC hl hE h
  · exact xk_r (xt_out hC hE (bk_r h) (Nat.le_of_ble_eq_true rfl) (Nat.le_of_ble_eq_true rfl))
theorem c_X13_dropEffects (l : Launch) (hls : l.stackTraces = false) {S : mS} {a0 : Nat} {a1 : Int32} {o : Rs Int32} (h : f_X13_dropEffects S a0 a1 = some o) : CT (fun r : Int32 => some (.int r)) l yX13_dropEffects (.code yX13_dropEffects cX13_dropEffects 3 (Option.some Jvm.ClassFile.FieldType.int)) rm_X13_dropEffects S [.ref a0, .int a1] o := ct_of (by decide +kernel) hls (Nat.le_of_ble_eq_true rfl) (fun C hl hC hE => t_X13_dropEffects hls hC hl hE h)
abbrev rm_X13_tail : Room := { frames := 11, cells := 0, slots := 0, locals := 214 }
def f_X13_tail_71  (S : mS) (s0 : Int32) : Option (Rs Int32) :=
  some (.inl s0, S)
set_option maxHeartbeats 2000000 in
set_option maxRecDepth 100000 in
theorem t_X13_tail_71 {l : Launch} (hls : l.stackTraces = false) {C : cT} (hC : CX C cX13_tail 3 yX13_tail rm_X13_tail) (hl : C.2.1 = l) {S0 : mS} (hE : CE C S0 (Option.some Jvm.ClassFile.FieldType.int) []) {o : Rs Int32} {S : mS} {s0 : Int32} (h : f_X13_tail_71  S s0 = some o) : XX C 3 (QQ C (fun r : Int32 => some (.int r)) S0 o) (0) (0) S 71 [] [.int s0] := by
  unfold f_X13_tail_71 at h
  exact x_ireturn (pc := 71) hC hE dX13_tail_71 (so h) (Nat.le_of_ble_eq_true rfl) (Nat.le_of_ble_eq_true rfl)
def f_X13_tail_41  (S : mS) (a0 : Nat) (a1 : Int32) (a2 : Int32) (s0 : Nat) (s1 : Int32) : Option (Rs Int32) :=
  gd (gK S s0 = 19) (bd (f_X13_isWrong S s0 s1) fun x2 S3 => if x2 = 0 then (gd (gK S3 a0 = 19) (lt9 (gR S3 a0 2) fun r7 => gd (gK S3 r7 = 37) (gd (¬ (a1 < 0 ∨ gZ S3 r7 ≤ (a1).toNatClampNeg)) (lt9 (gR S3 r7 (a1).toNatClampNeg) fun r11 => gd (gK S3 r11 = 17) (lt9 (gR S3 r11 8) fun r13 => gd (gK S3 r13 = 5) (bd (f_Jx4a65c_get_915e3 S3 r13 a2) fun r15 S16 => none)))))) else (f_X13_tail_71  S3 (0 : Int32)))
set_option maxHeartbeats 2000000 in
set_option maxRecDepth 100000 in
theorem t_X13_tail_41 {l : Launch} (hls : l.stackTraces = false) {C : cT} (hC : CX C cX13_tail 3 yX13_tail rm_X13_tail) (hl : C.2.1 = l) {S0 : mS} (hE : CE C S0 (Option.some Jvm.ClassFile.FieldType.int) []) {o : Rs Int32} {S : mS} {a0 : Nat} {a1 : Int32} {a2 : Int32} {s0 : Nat} {s1 : Int32} (h : f_X13_tail_41  S a0 a1 a2 s0 s1 = some o) : XX C 3 (QQ C (fun r : Int32 => some (.int r)) S0 o) (0) (0) S 41 [(0, .ref a0), (1, .int a1), (2, .int a2)] [.int s1, .ref s0] := by
  unfold f_X13_tail_41 at h
  obtain ⟨g1, h⟩ := gd_some h
  obtain ⟨o4, ho4, h⟩ := bd_some h
  refine x_callV (pc := 41) (As := [.int s1]) (rest := []) hC hl (c_X13_isWrong l hls ho4) lk_RX13_68 fc_19 g1 dX13_tail_41 rfl rfl (Nat.le_of_ble_eq_true rfl) ⟨Nat.le_of_ble_eq_true rfl, Nat.le_of_ble_eq_true rfl⟩ ⟨(Nat.le_of_ble_eq_true rfl), (Nat.le_of_ble_eq_true rfl)⟩ ?_
  rcases o4 with ⟨x2 | E5, S3⟩
  · refine xk_i ?_
    replace h := bk_l h
    refine x_if_eq (pc := 44) hC 51 dX13_tail_44 (by decide) (fun c19 => ?_) (fun c19 => ?_)
    · rw [if_pos c19] at h
      refine x_aload_n (pc := 51) hC 0 dX13_tail_51 rfl rfl ?_
      obtain ⟨g6, h⟩ := gd_some h
      refine x_getRv (pc := 52) (k := 2) hC fc_19 fl_RX13_19 dX13_tail_52 rfl g6 (fun r7 hr7 => ?_)
      replace h := lt_x hr7 h
      refine x_iload_n (pc := 55) hC 1 dX13_tail_55 rfl rfl ?_
      obtain ⟨g10, h⟩ := gd_some h
      obtain ⟨g9, h⟩ := gd_some h
      refine x_raldv (pc := 56) (t0 := 7) hC dX13_tail_56 g10 (by decide) (fun _ => rfl) g9 (fun r11 hr11 => ?_)
      replace h := lt_x hr11 h
      obtain ⟨g12, h⟩ := gd_some h
      refine x_getRv (pc := 57) (k := 8) hC fc_17 fl_RX13_230 dX13_tail_57 rfl g12 (fun r13 hr13 => ?_)
      replace h := lt_x hr13 h
      refine x_iload_n (pc := 60) hC 2 dX13_tail_60 rfl rfl ?_
      obtain ⟨g14, h⟩ := gd_some h
      obtain ⟨o17, ho17, h⟩ := bd_some h
      refine x_callF (pc := 61) (As := [.int a2]) (rest := []) hC hl (c_Jx4a65c_get_915e3 l hls ho17) lk_RX13_87 fc_5 g14 dX13_tail_61 rfl rfl (Nat.le_of_ble_eq_true rfl) ⟨Nat.le_of_ble_eq_true rfl, Nat.le_of_ble_eq_true rfl⟩ ⟨(Nat.le_of_ble_eq_true rfl), (Nat.le_of_ble_eq_true rfl)⟩ ?_
      rcases o17 with ⟨r15 | E18, S16⟩
      · refine xk_a ?_
        replace h := bk_l h
        cases h
      · exact xk_r (xt_out hC hE (bk_r h) (Nat.le_of_ble_eq_true rfl) (Nat.le_of_ble_eq_true rfl))
    · rw [if_neg c19] at h
      refine x_iconst (pc := 47) (v := (0 : Int32)) hC dX13_tail_47 (by decide) ?_
      refine x_goto (pc := 48) hC 71 dX13_tail_48 (by decide) ?_
      refine x_pick [] rfl ?_
      exact t_X13_tail_71 hls hC hl hE h
  · exact xk_r (xt_out hC hE (bk_r h) (Nat.le_of_ble_eq_true rfl) (Nat.le_of_ble_eq_true rfl))
def f_X13_tail (S : mS) (a0 : Nat) (a1 : Int32) (a2 : Int32) : Option (Rs Int32) :=
  bd (f_X13_isDeck S a1) fun x1 S2 => if x1 = 0 then (f_X13_tail_41  S2 a0 a1 a2 a0 (1 : Int32)) else (gd (gK S2 a0 = 19) (lt9 (gR S2 a0 2) fun r6 => gd (gK S2 r6 = 37) (gd (¬ (a1 < 0 ∨ gZ S2 r6 ≤ (a1).toNatClampNeg)) (lt9 (gR S2 r6 (a1).toNatClampNeg) fun r10 => gd (gK S2 r10 = 17) (lt9 (gR S2 r10 8) fun r12 => gd (gK S2 r12 = 5) (bd (f_Jx4a65c_size_8abf5 S2 r12) fun x14 S15 => lt9 (x14 - (1 : Int32)) fun x18 => bd (f_X13_isBetween S15 a2 (0 : Int32) x18) fun x19 S20 => if x19 = 0 then (f_X13_tail_41  S20 a0 a1 a2 a0 (2 : Int32)) else (f_X13_tail_41  S20 a0 a1 a2 a0 (0 : Int32))))))))
set_option maxHeartbeats 2000000 in
set_option maxRecDepth 100000 in
theorem t_X13_tail {l : Launch} (hls : l.stackTraces = false) {C : cT} (hC : CX C cX13_tail 3 yX13_tail rm_X13_tail) (hl : C.2.1 = l) {S0 : mS} (hE : CE C S0 (Option.some Jvm.ClassFile.FieldType.int) []) {o : Rs Int32} {S : mS} {a0 : Nat} {a1 : Int32} {a2 : Int32} (h : f_X13_tail S a0 a1 a2 = some o) : XX C 3 (QQ C (fun r : Int32 => some (.int r)) S0 o) 0 0 S 0 [(0, .ref a0), (1, .int a1), (2, .int a2)] [] := by
  unfold f_X13_tail at h
  refine x_aload_n (pc := 0) hC 0 dX13_tail_0 rfl rfl ?_
  refine x_iload_n (pc := 1) hC 1 dX13_tail_1 rfl rfl ?_
  obtain ⟨o3, ho3, h⟩ := bd_some h
  refine x_callS (pc := 2) (As := [.int a1]) (rest := [.ref a0]) hC hl (c_X13_isDeck l hls ho3) lk_RX13_121 dX13_tail_2 rfl rfl (Nat.le_of_ble_eq_true rfl) ⟨Nat.le_of_ble_eq_true rfl, Nat.le_of_ble_eq_true rfl⟩ ⟨(Nat.le_of_ble_eq_true rfl), (Nat.le_of_ble_eq_true rfl)⟩ ?_
  rcases o3 with ⟨x1 | E4, S2⟩
  · refine xk_i ?_
    replace h := bk_l h
    refine x_if_ne (pc := 5) hC 12 dX13_tail_5 (by decide) (fun c24 => ?_) (fun c24 => ?_)
    · rw [if_neg c24] at h
      refine x_iload_n (pc := 12) hC 2 dX13_tail_12 rfl rfl ?_
      refine x_iconst (pc := 13) (v := (0 : Int32)) hC dX13_tail_13 (by decide) ?_
      refine x_aload_n (pc := 14) hC 0 dX13_tail_14 rfl rfl ?_
      obtain ⟨g5, h⟩ := gd_some h
      refine x_getRv (pc := 15) (k := 2) hC fc_19 fl_RX13_19 dX13_tail_15 rfl g5 (fun r6 hr6 => ?_)
      replace h := lt_x hr6 h
      refine x_iload_n (pc := 18) hC 1 dX13_tail_18 rfl rfl ?_
      obtain ⟨g9, h⟩ := gd_some h
      obtain ⟨g8, h⟩ := gd_some h
      refine x_raldv (pc := 19) (t0 := 7) hC dX13_tail_19 g9 (by decide) (fun _ => rfl) g8 (fun r10 hr10 => ?_)
      replace h := lt_x hr10 h
      obtain ⟨g11, h⟩ := gd_some h
      refine x_getRv (pc := 20) (k := 8) hC fc_17 fl_RX13_230 dX13_tail_20 rfl g11 (fun r12 hr12 => ?_)
      replace h := lt_x hr12 h
      obtain ⟨g13, h⟩ := gd_some h
      obtain ⟨o16, ho16, h⟩ := bd_some h
      refine x_callF (pc := 23) (As := []) (rest := [.int (0 : Int32), .int a2, .ref a0]) hC hl (c_Jx4a65c_size_8abf5 l hls ho16) lk_RX13_54 fc_5 g13 dX13_tail_23 rfl rfl (Nat.le_of_ble_eq_true rfl) ⟨Nat.le_of_ble_eq_true rfl, Nat.le_of_ble_eq_true rfl⟩ ⟨(Nat.le_of_ble_eq_true rfl), (Nat.le_of_ble_eq_true rfl)⟩ ?_
      rcases o16 with ⟨x14 | E17, S15⟩
      · refine xk_i ?_
        replace h := bk_l h
        refine x_iconst (pc := 28) (v := (1 : Int32)) hC dX13_tail_28 (by decide) ?_
        refine x_isubv (pc := 29) hC dX13_tail_29 (fun x18 hx18 => ?_)
        replace h := lt_x hx18 h
        obtain ⟨o21, ho21, h⟩ := bd_some h
        refine x_callS (pc := 30) (As := [.int a2, .int (0 : Int32), .int x18]) (rest := [.ref a0]) hC hl (c_X13_isBetween l hls ho21) lk_RX13_50 dX13_tail_30 rfl rfl (Nat.le_of_ble_eq_true rfl) ⟨Nat.le_of_ble_eq_true rfl, Nat.le_of_ble_eq_true rfl⟩ ⟨(Nat.le_of_ble_eq_true rfl), (Nat.le_of_ble_eq_true rfl)⟩ ?_
        rcases o21 with ⟨x19 | E22, S20⟩
        · refine xk_i ?_
          replace h := bk_l h
          refine x_if_ne (pc := 33) hC 40 dX13_tail_33 (by decide) (fun c23 => ?_) (fun c23 => ?_)
          · rw [if_neg c23] at h
            refine x_iconst (pc := 40) (v := (0 : Int32)) hC dX13_tail_40 (by decide) ?_
            refine x_pick [0, 1, 2] rfl ?_
            exact t_X13_tail_41 hls hC hl hE h
          · rw [if_pos c23] at h
            refine x_iconst (pc := 36) (v := (2 : Int32)) hC dX13_tail_36 (by decide) ?_
            refine x_goto (pc := 37) hC 41 dX13_tail_37 (by decide) ?_
            refine x_pick [0, 1, 2] rfl ?_
            exact t_X13_tail_41 hls hC hl hE h
        · exact xk_r (xt_out hC hE (bk_r h) (Nat.le_of_ble_eq_true rfl) (Nat.le_of_ble_eq_true rfl))
      · exact xk_r (xt_out hC hE (bk_r h) (Nat.le_of_ble_eq_true rfl) (Nat.le_of_ble_eq_true rfl))
    · rw [if_pos c24] at h
      refine x_iconst (pc := 8) (v := (1 : Int32)) hC dX13_tail_8 (by decide) ?_
      refine x_goto (pc := 9) hC 41 dX13_tail_9 (by decide) ?_
      refine x_pick [0, 1, 2] rfl ?_
      exact t_X13_tail_41 hls hC hl hE h
  · exact xk_r (xt_out hC hE (bk_r h) (Nat.le_of_ble_eq_true rfl) (Nat.le_of_ble_eq_true rfl))
theorem c_X13_tail (l : Launch) (hls : l.stackTraces = false) {S : mS} {a0 : Nat} {a1 : Int32} {a2 : Int32} {o : Rs Int32} (h : f_X13_tail S a0 a1 a2 = some o) : CT (fun r : Int32 => some (.int r)) l yX13_tail (.code yX13_tail cX13_tail 3 (Option.some Jvm.ClassFile.FieldType.int)) rm_X13_tail S [.ref a0, .int a1, .int a2] o := ct_of (by decide +kernel) hls (Nat.le_of_ble_eq_true rfl) (fun C hl hC hE => t_X13_tail hls hC hl hE h)
abbrev rm_X13_sounds : Room := { frames := 11, cells := 1, slots := 4, locals := 214 }
def f_X13_sounds_168  (S : mS) (s0 : Int32) : Option (Rs Int32) :=
  some (.inl s0, S)
set_option maxHeartbeats 2000000 in
set_option maxRecDepth 100000 in
theorem t_X13_sounds_168 {l : Launch} (hls : l.stackTraces = false) {C : cT} (hC : CX C cX13_sounds 9 yX13_sounds rm_X13_sounds) (hl : C.2.1 = l) {S0 : mS} (hE : CE C S0 (Option.some Jvm.ClassFile.FieldType.int) []) {o : Rs Int32} {S : mS} {s0 : Int32} (h : f_X13_sounds_168  S s0 = some o) : XX C 9 (QQ C (fun r : Int32 => some (.int r)) S0 o) (1) (4) S 168 [] [.int s0] := by
  unfold f_X13_sounds_168 at h
  exact x_ireturn (pc := 168) hC hE dX13_sounds_168 (so h) (Nat.le_of_ble_eq_true rfl) (Nat.le_of_ble_eq_true rfl)
def f_X13_sounds_165  (S : mS) (a2 : Int32) (a3 : Int32) : Option (Rs Int32) :=
  lt9 (a2 + a3) fun x1 => f_X13_sounds_168  S x1
set_option maxHeartbeats 2000000 in
set_option maxRecDepth 100000 in
theorem t_X13_sounds_165 {l : Launch} (hls : l.stackTraces = false) {C : cT} (hC : CX C cX13_sounds 9 yX13_sounds rm_X13_sounds) (hl : C.2.1 = l) {S0 : mS} (hE : CE C S0 (Option.some Jvm.ClassFile.FieldType.int) []) {o : Rs Int32} {S : mS} {a2 : Int32} {a3 : Int32} (h : f_X13_sounds_165  S a2 a3 = some o) : XX C 9 (QQ C (fun r : Int32 => some (.int r)) S0 o) (1) (4) S 165 [(2, .int a2), (3, .int a3)] [] := by
  unfold f_X13_sounds_165 at h
  refine x_iload_n (pc := 165) hC 0 dX13_sounds_165 rfl rfl ?_
  refine x_iload_n (pc := 166) hC 1 dX13_sounds_166 rfl rfl ?_
  refine x_iaddv (pc := 167) hC dX13_sounds_167 (fun x1 hx1 => ?_)
  replace h := lt_x hx1 h
  refine x_pick [] rfl ?_
  exact t_X13_sounds_168 hls hC hl hE h
def f_X13_sounds_22  : Nat → mS → Nat → Int32 → Int32 → Int32 → Nat → Option (Rs Int32)
  | 0, _, _, _, _, _, _ => none
  | k + 1, S, a1, a2, a3, a4, a5 => gd (gK S a5 = 4) (bd (f_Jx35411_hasNext_aae02 S a5) fun x2 S3 => if x2 = 0 then (if a4 = 0 then (f_X13_sounds_165  S3 a2 a3) else (gd (gK S3 a1 = 17) (bd (f_X11_isHalf S3 a1) fun x7 S8 => if x7 = 0 then (f_X13_sounds_165  S8 a2 a3) else (f_X13_sounds_168  S8 a3)))) else (gd (gK S3 a5 = 4) (bd (f_Jx35411_next_0502b S3 a5) fun r14 S15 => none)))
set_option maxHeartbeats 2000000 in
set_option maxRecDepth 100000 in
theorem t_X13_sounds_22 {l : Launch} (hls : l.stackTraces = false) {C : cT} (hC : CX C cX13_sounds 9 yX13_sounds rm_X13_sounds) (hl : C.2.1 = l) {S0 : mS} (hE : CE C S0 (Option.some Jvm.ClassFile.FieldType.int) []) {o : Rs Int32} : ∀ (k : Nat) (S : mS) (a1 : Nat) (a2 : Int32) (a3 : Int32) (a4 : Int32) (a5 : Nat), f_X13_sounds_22  k S a1 a2 a3 a4 a5 = some o → XX C 9 (QQ C (fun r : Int32 => some (.int r)) S0 o) (1) (4) S 22 [(1, .ref a1), (2, .int a2), (3, .int a3), (4, .int a4), (5, .ref a5)] [] := by
  intro k
  induction k with
  | zero => intro S a1 a2 a3 a4 a5 h; cases h
  | succ k ih =>
    intro S a1 a2 a3 a4 a5 h
    unfold f_X13_sounds_22 at h
    dsimp only at h
    refine x_aload (pc := 22) hC 4 dX13_sounds_22 rfl ?_
    obtain ⟨g1, h⟩ := gd_some h
    obtain ⟨o4, ho4, h⟩ := bd_some h
    refine x_callF (pc := 24) (As := []) (rest := []) hC hl (c_Jx35411_hasNext_aae02 l hls ho4) lk_RX13_244 fc_4 g1 dX13_sounds_24 rfl rfl (Nat.le_of_ble_eq_true rfl) ⟨Nat.le_of_ble_eq_true rfl, Nat.le_of_ble_eq_true rfl⟩ ⟨(Nat.le_of_ble_eq_true rfl), (Nat.le_of_ble_eq_true rfl)⟩ ?_
    rcases o4 with ⟨x2 | E5, S3⟩
    · refine xk_i ?_
      replace h := bk_l h
      refine x_if_eq (pc := 29) hC 149 dX13_sounds_29 (by decide) (fun c18 => ?_) (fun c18 => ?_)
      · rw [if_pos c18] at h
        refine x_iload (pc := 149) hC 3 dX13_sounds_149 rfl ?_
        refine x_if_eq (pc := 151) hC 165 dX13_sounds_151 (by decide) (fun c12 => ?_) (fun c12 => ?_)
        · rw [if_pos c12] at h
          refine x_pick [1, 2] rfl ?_
          exact t_X13_sounds_165 hls hC hl hE h
        · rw [if_neg c12] at h
          refine x_aload_n (pc := 154) hC 0 dX13_sounds_154 rfl rfl ?_
          obtain ⟨g6, h⟩ := gd_some h
          obtain ⟨o9, ho9, h⟩ := bd_some h
          refine x_callV (pc := 155) (As := []) (rest := []) hC hl (c_X11_isHalf l hls ho9) lk_RX13_253 fc_17 g6 dX13_sounds_155 rfl rfl (Nat.le_of_ble_eq_true rfl) ⟨Nat.le_of_ble_eq_true rfl, Nat.le_of_ble_eq_true rfl⟩ ⟨(Nat.le_of_ble_eq_true rfl), (Nat.le_of_ble_eq_true rfl)⟩ ?_
          rcases o9 with ⟨x7 | E10, S8⟩
          · refine xk_i ?_
            replace h := bk_l h
            refine x_if_eq (pc := 158) hC 165 dX13_sounds_158 (by decide) (fun c11 => ?_) (fun c11 => ?_)
            · rw [if_pos c11] at h
              refine x_pick [1, 2] rfl ?_
              exact t_X13_sounds_165 hls hC hl hE h
            · rw [if_neg c11] at h
              refine x_iload_n (pc := 161) hC 2 dX13_sounds_161 rfl rfl ?_
              refine x_goto (pc := 162) hC 168 dX13_sounds_162 (by decide) ?_
              refine x_pick [] rfl ?_
              exact t_X13_sounds_168 hls hC hl hE h
          · exact xk_r (xt_out hC hE (bk_r h) (Nat.le_of_ble_eq_true rfl) (Nat.le_of_ble_eq_true rfl))
      · rw [if_neg c18] at h
        refine x_aload (pc := 32) hC 4 dX13_sounds_32 rfl ?_
        obtain ⟨g13, h⟩ := gd_some h
        obtain ⟨o16, ho16, h⟩ := bd_some h
        refine x_callF (pc := 34) (As := []) (rest := []) hC hl (c_Jx35411_next_0502b l hls ho16) lk_RX13_249 fc_4 g13 dX13_sounds_34 rfl rfl (Nat.le_of_ble_eq_true rfl) ⟨Nat.le_of_ble_eq_true rfl, Nat.le_of_ble_eq_true rfl⟩ ⟨(Nat.le_of_ble_eq_true rfl), (Nat.le_of_ble_eq_true rfl)⟩ ?_
        rcases o16 with ⟨r14 | E17, S15⟩
        · refine xk_a ?_
          replace h := bk_l h
          cases h
        · exact xk_r (xt_out hC hE (bk_r h) (Nat.le_of_ble_eq_true rfl) (Nat.le_of_ble_eq_true rfl))
    · exact xk_r (xt_out hC hE (bk_r h) (Nat.le_of_ble_eq_true rfl) (Nat.le_of_ble_eq_true rfl))
def f_X13_sounds (S : mS) (a0 : Nat) (a1 : Nat) : Option (Rs Int32) :=
  gd (gK S a0 = 19) (bd (f_X13_loudnessOf S a0 a1) fun x2 S3 => gd (gK S3 a1 = 17) (lt9 (gR S3 a1 8) fun r7 => gd (gK S3 r7 = 5) (bd (f_Jx4a65c_iterator_32c93 S3 r7) fun r9 S10 => f_X13_sounds_22  16 S10 a1 x2 (0 : Int32) (0 : Int32) r9)))
set_option maxHeartbeats 2000000 in
set_option maxRecDepth 100000 in
theorem t_X13_sounds {l : Launch} (hls : l.stackTraces = false) {C : cT} (hC : CX C cX13_sounds 9 yX13_sounds rm_X13_sounds) (hl : C.2.1 = l) {S0 : mS} (hE : CE C S0 (Option.some Jvm.ClassFile.FieldType.int) []) {o : Rs Int32} {S : mS} {a0 : Nat} {a1 : Nat} (h : f_X13_sounds S a0 a1 = some o) : XX C 9 (QQ C (fun r : Int32 => some (.int r)) S0 o) 0 0 S 0 [(0, .ref a0), (1, .ref a1)] [] := by
  unfold f_X13_sounds at h
  refine x_aload_n (pc := 0) hC 0 dX13_sounds_0 rfl rfl ?_
  refine x_aload_n (pc := 1) hC 1 dX13_sounds_1 rfl rfl ?_
  obtain ⟨g1, h⟩ := gd_some h
  obtain ⟨o4, ho4, h⟩ := bd_some h
  refine x_callV (pc := 2) (As := [.ref a1]) (rest := []) hC hl (c_X13_loudnessOf l hls ho4) lk_RX13_237 fc_19 g1 dX13_sounds_2 rfl rfl (Nat.le_of_ble_eq_true rfl) ⟨Nat.le_of_ble_eq_true rfl, Nat.le_of_ble_eq_true rfl⟩ ⟨(Nat.le_of_ble_eq_true rfl), (Nat.le_of_ble_eq_true rfl)⟩ ?_
  rcases o4 with ⟨x2 | E5, S3⟩
  · refine xk_i ?_
    replace h := bk_l h
    refine x_istore_n (pc := 5) hC dX13_sounds_5 rfl (by decide) (by decide) rfl ?_
    refine x_iconst (pc := 6) (v := (0 : Int32)) hC dX13_sounds_6 (by decide) ?_
    refine x_istore_n (pc := 7) hC dX13_sounds_7 rfl (by decide) (by decide) rfl ?_
    refine x_iconst (pc := 8) (v := (0 : Int32)) hC dX13_sounds_8 (by decide) ?_
    refine x_istore (pc := 9) hC dX13_sounds_9 (by decide) (by decide) rfl ?_
    refine x_aload_n (pc := 11) hC 4 dX13_sounds_11 rfl rfl ?_
    obtain ⟨g6, h⟩ := gd_some h
    refine x_getRv (pc := 12) (k := 8) hC fc_17 fl_RX13_230 dX13_sounds_12 rfl g6 (fun r7 hr7 => ?_)
    replace h := lt_x hr7 h
    obtain ⟨g8, h⟩ := gd_some h
    obtain ⟨o11, ho11, h⟩ := bd_some h
    refine x_callF (pc := 15) (As := []) (rest := []) hC hl (c_Jx4a65c_iterator_32c93 l hls ho11) lk_RX13_240 fc_5 g8 dX13_sounds_15 rfl rfl (Nat.le_of_ble_eq_true rfl) ⟨Nat.le_of_ble_eq_true rfl, Nat.le_of_ble_eq_true rfl⟩ ⟨(Nat.le_of_ble_eq_true rfl), (Nat.le_of_ble_eq_true rfl)⟩ ?_
    rcases o11 with ⟨r9 | E12, S10⟩
    · refine xk_a ?_
      replace h := bk_l h
      refine x_astore (pc := 20) hC dX13_sounds_20 (by decide) (by decide) rfl ?_
      refine x_pick [5, 3, 2, 1, 0] rfl ?_
      exact t_X13_sounds_22 hls hC hl hE 16 _ _ _ _ _ _ h
    · exact xk_r (xt_out hC hE (bk_r h) (Nat.le_of_ble_eq_true rfl) (Nat.le_of_ble_eq_true rfl))
  · exact xk_r (xt_out hC hE (bk_r h) (Nat.le_of_ble_eq_true rfl) (Nat.le_of_ble_eq_true rfl))
theorem c_X13_sounds (l : Launch) (hls : l.stackTraces = false) {S : mS} {a0 : Nat} {a1 : Nat} {o : Rs Int32} (h : f_X13_sounds S a0 a1 = some o) : CT (fun r : Int32 => some (.int r)) l yX13_sounds (.code yX13_sounds cX13_sounds 9 (Option.some Jvm.ClassFile.FieldType.int)) rm_X13_sounds S [.ref a0, .ref a1] o := ct_of (by decide +kernel) hls (Nat.le_of_ble_eq_true rfl) (fun C hl hC hE => t_X13_sounds hls hC hl hE h)
abbrev rm_X13_dances : Room := { frames := 11, cells := 0, slots := 0, locals := 214 }
def f_X13_dances_333 (rc61 : mS → Nat → Int32 → Int32 → Option (Rs Unit)) (S : mS) (a0 : Nat) (a1 : Int32) (a2 : Int32) : Option (Rs Unit) :=
  lt9 (a2 + Int32.ofInt (1)) fun x1 => rc61 S a0 a1 x1
set_option maxHeartbeats 2000000 in
set_option maxRecDepth 100000 in
theorem t_X13_dances_333 {l : Launch} (hls : l.stackTraces = false) {C : cT} (hC : CX C cX13_dances 9 yX13_dances rm_X13_dances) (hl : C.2.1 = l) {S0 : mS} (hE : CE C S0 (Option.none : Option Jvm.ClassFile.FieldType) []) {o : Rs Unit} {rc61 : mS → Nat → Int32 → Int32 → Option (Rs Unit)} (hrc61 : ∀ (S : mS) (a0 : Nat) (a1 : Int32) (a2 : Int32), rc61 S a0 a1 a2 = some o → XX C 9 (QQ C (fun _ : Unit => none) S0 o) (0) (0) S 61 [(0, .ref a0), (1, .int a1), (2, .int a2)] []) {S : mS} {a0 : Nat} {a1 : Int32} {a2 : Int32} (h : f_X13_dances_333 rc61 S a0 a1 a2 = some o) : XX C 9 (QQ C (fun _ : Unit => none) S0 o) (0) (0) S 333 [(0, .ref a0), (1, .int a1), (2, .int a2)] [] := by
  unfold f_X13_dances_333 at h
  obtain ⟨x1, hx1⟩ : ∃ z, z = (a2 + Int32.ofInt (1)) := ⟨_, rfl⟩
  replace h := lt_x hx1 h
  refine x_iinc (pc := 333) hC 2 dX13_dances_333 rfl hx1.symm (by decide) (by decide) rfl ?_
  refine x_goto (pc := 336) hC 61 dX13_dances_336 (by decide) ?_
  refine x_pick [1, 2, 0] rfl ?_
  exact hrc61 _ _ _ _ h
def f_X13_dances_289 (rc61 : mS → Nat → Int32 → Int32 → Option (Rs Unit)) (S : mS) (a0 : Nat) (a1 : Int32) (a2 : Int32) (s0 : Nat) (s1 : Int32) (s2 : Int32) : Option (Rs Unit) :=
  gd (gK S s0 = 30) (gd (¬ (s1 < 0 ∨ gZ S s0 ≤ (s1).toNatClampNeg)) (zI (sI S s0 (s1).toNatClampNeg s2) fun S3 => gd (gK S3 a0 = 19) (lt9 (gR S3 a0 4) fun r6 => gd (gK S3 r6 = 30) (gd (¬ (a2 < 0 ∨ gZ S3 r6 ≤ (a2).toNatClampNeg)) (lt9 (gI S3 r6 (a2).toNatClampNeg) fun x10 => if (100 : Int32) ≤ x10 then (lt9 (gR S3 a0 3) fun r11 => lt9 (gR S3 a0 3) fun r12 => gd (gK S3 r12 = 30) (gd (¬ (a2 < 0 ∨ gZ S3 r12 ≤ (a2).toNatClampNeg)) (lt9 (gI S3 r12 (a2).toNatClampNeg) fun x16 => lt9 (x16 - (2 : Int32)) fun x17 => lt9 (if (0 : Int32) < x17 then x17 else (0 : Int32)) fun x18 => gd (gK S3 r11 = 30) (gd (¬ (a2 < 0 ∨ gZ S3 r11 ≤ (a2).toNatClampNeg)) (zI (sI S3 r11 (a2).toNatClampNeg x18) fun S21 => lt9 (gR S21 a0 4) fun r27 => gd (gK S21 r27 = 30) (gd (¬ (a2 < 0 ∨ gZ S21 r27 ≤ (a2).toNatClampNeg)) (lt9 (gI S21 r27 (a2).toNatClampNeg) fun x31 => lt9 (x31 - (40 : Int32)) fun x32 => gd (¬ (a2 < 0 ∨ gZ S21 r27 ≤ (a2).toNatClampNeg)) (zI (sI S21 r27 (a2).toNatClampNeg x32) fun S34 => f_X13_dances_333 (rc61) S34 a0 a1 a2)))))))) else (f_X13_dances_333 (rc61) S3 a0 a1 a2))))))
set_option maxHeartbeats 2000000 in
set_option maxRecDepth 100000 in
theorem t_X13_dances_289 {l : Launch} (hls : l.stackTraces = false) {C : cT} (hC : CX C cX13_dances 9 yX13_dances rm_X13_dances) (hl : C.2.1 = l) {S0 : mS} (hE : CE C S0 (Option.none : Option Jvm.ClassFile.FieldType) []) {o : Rs Unit} {rc61 : mS → Nat → Int32 → Int32 → Option (Rs Unit)} (hrc61 : ∀ (S : mS) (a0 : Nat) (a1 : Int32) (a2 : Int32), rc61 S a0 a1 a2 = some o → XX C 9 (QQ C (fun _ : Unit => none) S0 o) (0) (0) S 61 [(0, .ref a0), (1, .int a1), (2, .int a2)] []) {S : mS} {a0 : Nat} {a1 : Int32} {a2 : Int32} {s0 : Nat} {s1 : Int32} {s2 : Int32} (h : f_X13_dances_289 rc61 S a0 a1 a2 s0 s1 s2 = some o) : XX C 9 (QQ C (fun _ : Unit => none) S0 o) (0) (0) S 289 [(0, .ref a0), (1, .int a1), (2, .int a2)] [.int s2, .int s1, .ref s0] := by
  unfold f_X13_dances_289 at h
  obtain ⟨g2, h⟩ := gd_some h
  obtain ⟨g1, h⟩ := gd_some h
  refine x_iastv (pc := 289) hC dX13_dances_289 g2 g1 (fun S3 hS3 => ?_)
  replace h := zI_x hS3 h
  have g4 : gK S3 s0 = 30 := by rw [hS3]; exact g2
  refine x_aload_n (pc := 290) hC 0 dX13_dances_290 rfl rfl ?_
  obtain ⟨g5, h⟩ := gd_some h
  refine x_getRv (pc := 291) (k := 4) hC fc_19 fl_RX13_27 dX13_dances_291 rfl g5 (fun r6 hr6 => ?_)
  replace h := lt_x hr6 h
  refine x_iload_n (pc := 294) hC 2 dX13_dances_294 rfl rfl ?_
  obtain ⟨g9, h⟩ := gd_some h
  obtain ⟨g8, h⟩ := gd_some h
  refine x_ialdv (pc := 295) hC dX13_dances_295 g9 g8 (fun x10 hx10 => ?_)
  replace h := lt_x hx10 h
  refine x_bipush (pc := 296) (v := (100 : Int32)) hC dX13_dances_296 (by decide) ?_
  refine x_icmp_ge (pc := 298) hC 304 dX13_dances_298 (by decide) (fun c41 => ?_) (fun c41 => ?_)
  · rw [if_pos c41] at h
    refine x_aload_n (pc := 304) hC 0 dX13_dances_304 rfl rfl ?_
    refine x_getRv (pc := 305) (k := 3) hC fc_19 fl_RX13_23 dX13_dances_305 rfl g5 (fun r11 hr11 => ?_)
    replace h := lt_x hr11 h
    refine x_iload_n (pc := 308) hC 2 dX13_dances_308 rfl rfl ?_
    refine x_iconst (pc := 309) (v := (0 : Int32)) hC dX13_dances_309 (by decide) ?_
    refine x_aload_n (pc := 310) hC 0 dX13_dances_310 rfl rfl ?_
    refine x_getRv (pc := 311) (k := 3) hC fc_19 fl_RX13_23 dX13_dances_311 rfl g5 (fun r12 hr12 => ?_)
    replace h := lt_x hr12 h
    refine x_iload_n (pc := 314) hC 2 dX13_dances_314 rfl rfl ?_
    obtain ⟨g15, h⟩ := gd_some h
    obtain ⟨g14, h⟩ := gd_some h
    refine x_ialdv (pc := 315) hC dX13_dances_315 g15 g14 (fun x16 hx16 => ?_)
    replace h := lt_x hx16 h
    refine x_iconst (pc := 316) (v := (2 : Int32)) hC dX13_dances_316 (by decide) ?_
    refine x_isubv (pc := 317) hC dX13_dances_317 (fun x17 hx17 => ?_)
    replace h := lt_x hx17 h
    refine x_mmax (pc := 318) hC wm_2119 wm_650 wm_69 wm_651 dX13_dances_318 (Nat.le_of_ble_eq_true rfl) (Nat.le_of_ble_eq_true rfl) (Nat.le_of_ble_eq_true rfl) (Nat.le_of_ble_eq_true rfl) (fun x18 hx18 => ?_)
    replace h := lt_x hx18 h
    obtain ⟨g20, h⟩ := gd_some h
    obtain ⟨g19, h⟩ := gd_some h
    refine x_iastv (pc := 321) hC dX13_dances_321 g20 g19 (fun S21 hS21 => ?_)
    replace h := zI_x hS21 h
    have g22 : gK S21 s0 = 30 := by rw [hS21]; exact g4
    have g23 : gK S21 a0 = 19 := by rw [hS21]; exact g5
    have g24 : gK S21 r6 = 30 := by rw [hS21]; exact g9
    have g25 : gK S21 r12 = 30 := by rw [hS21]; exact g15
    have g26 : gK S21 r11 = 30 := by rw [hS21]; exact g20
    refine x_aload_n (pc := 322) hC 0 dX13_dances_322 rfl rfl ?_
    refine x_getRv (pc := 323) (k := 4) hC fc_19 fl_RX13_27 dX13_dances_323 rfl g23 (fun r27 hr27 => ?_)
    replace h := lt_x hr27 h
    refine x_iload_n (pc := 326) hC 2 dX13_dances_326 rfl rfl ?_
    refine x_dup2 (pc := 327) hC dX13_dances_327 rfl rfl ?_
    obtain ⟨g30, h⟩ := gd_some h
    obtain ⟨g29, h⟩ := gd_some h
    refine x_ialdv (pc := 328) hC dX13_dances_328 g30 g29 (fun x31 hx31 => ?_)
    replace h := lt_x hx31 h
    refine x_bipush (pc := 329) (v := (40 : Int32)) hC dX13_dances_329 (by decide) ?_
    refine x_isubv (pc := 331) hC dX13_dances_331 (fun x32 hx32 => ?_)
    replace h := lt_x hx32 h
    obtain ⟨g33, h⟩ := gd_some h
    refine x_iastv (pc := 332) hC dX13_dances_332 g30 g33 (fun S34 hS34 => ?_)
    replace h := zI_x hS34 h
    have g35 : gK S34 s0 = 30 := by rw [hS34]; exact g22
    have g36 : gK S34 a0 = 19 := by rw [hS34]; exact g23
    have g37 : gK S34 r6 = 30 := by rw [hS34]; exact g24
    have g38 : gK S34 r12 = 30 := by rw [hS34]; exact g25
    have g39 : gK S34 r11 = 30 := by rw [hS34]; exact g26
    have g40 : gK S34 r27 = 30 := by rw [hS34]; exact g30
    refine x_pick [0, 1, 2] rfl ?_
    exact t_X13_dances_333 hls hC hl hE hrc61 h
  · rw [if_neg c41] at h
    refine x_goto (pc := 301) hC 333 dX13_dances_301 (by decide) ?_
    refine x_pick [0, 1, 2] rfl ?_
    exact t_X13_dances_333 hls hC hl hE hrc61 h
def f_X13_dances_225 (rc61 : mS → Nat → Int32 → Int32 → Option (Rs Unit)) (S : mS) (a0 : Nat) (a1 : Int32) (a2 : Int32) (a3 : Int32) : Option (Rs Unit) :=
  gd (gK S a0 = 19) (lt9 (gR S a0 4) fun r2 => if a3 = (-1 : Int32) then (lt9 (gR S a0 4) fun r24 => gd (gK S r24 = 30) (gd (¬ (a2 < 0 ∨ gZ S r24 ≤ (a2).toNatClampNeg)) (lt9 (gI S r24 (a2).toNatClampNeg) fun x28 => f_X13_dances_289 (rc61) S a0 a1 a2 r2 a2 x28))) else (if (2 : Int32) < a3 then (if a3 < (6 : Int32) then (lt9 (gR S a0 4) fun r3 => gd (gK S r3 = 30) (gd (¬ (a2 < 0 ∨ gZ S r3 ≤ (a2).toNatClampNeg)) (lt9 (gI S r3 (a2).toNatClampNeg) fun x7 => lt9 (x7 + (1 : Int32)) fun x8 => f_X13_dances_289 (rc61) S a0 a1 a2 r2 a2 x8))) else (lt9 (gR S a0 4) fun r9 => gd (gK S r9 = 30) (gd (¬ (a2 < 0 ∨ gZ S r9 ≤ (a2).toNatClampNeg)) (lt9 (gI S r9 (a2).toNatClampNeg) fun x13 => lt9 (x13 - (3 : Int32)) fun x14 => lt9 (if (0 : Int32) < x14 then x14 else (0 : Int32)) fun x15 => f_X13_dances_289 (rc61) S a0 a1 a2 r2 a2 x15)))) else (lt9 (gR S a0 4) fun r17 => gd (gK S r17 = 30) (gd (¬ (a2 < 0 ∨ gZ S r17 ≤ (a2).toNatClampNeg)) (lt9 (gI S r17 (a2).toNatClampNeg) fun x21 => lt9 (x21 + (2 : Int32)) fun x22 => f_X13_dances_289 (rc61) S a0 a1 a2 r2 a2 x22)))))
set_option maxHeartbeats 2000000 in
set_option maxRecDepth 100000 in
theorem t_X13_dances_225 {l : Launch} (hls : l.stackTraces = false) {C : cT} (hC : CX C cX13_dances 9 yX13_dances rm_X13_dances) (hl : C.2.1 = l) {S0 : mS} (hE : CE C S0 (Option.none : Option Jvm.ClassFile.FieldType) []) {o : Rs Unit} {rc61 : mS → Nat → Int32 → Int32 → Option (Rs Unit)} (hrc61 : ∀ (S : mS) (a0 : Nat) (a1 : Int32) (a2 : Int32), rc61 S a0 a1 a2 = some o → XX C 9 (QQ C (fun _ : Unit => none) S0 o) (0) (0) S 61 [(0, .ref a0), (1, .int a1), (2, .int a2)] []) {S : mS} {a0 : Nat} {a1 : Int32} {a2 : Int32} {a3 : Int32} (h : f_X13_dances_225 rc61 S a0 a1 a2 a3 = some o) : XX C 9 (QQ C (fun _ : Unit => none) S0 o) (0) (0) S 225 [(0, .ref a0), (1, .int a1), (2, .int a2), (3, .int a3)] [] := by
  unfold f_X13_dances_225 at h
  refine x_aload_n (pc := 225) hC 0 dX13_dances_225 rfl rfl ?_
  obtain ⟨g1, h⟩ := gd_some h
  refine x_getRv (pc := 226) (k := 4) hC fc_19 fl_RX13_27 dX13_dances_226 rfl g1 (fun r2 hr2 => ?_)
  replace h := lt_x hr2 h
  refine x_iload_n (pc := 229) hC 2 dX13_dances_229 rfl rfl ?_
  refine x_iload_n (pc := 230) hC 3 dX13_dances_230 rfl rfl ?_
  refine x_iconst (pc := 231) (v := (-1 : Int32)) hC dX13_dances_231 (by decide) ?_
  refine x_icmp_ne (pc := 232) hC 244 dX13_dances_232 (by decide) (fun c29 => ?_) (fun c29 => ?_)
  · rw [if_neg c29] at h
    refine x_iload_n (pc := 244) hC 3 dX13_dances_244 rfl rfl ?_
    refine x_iconst (pc := 245) (v := (2 : Int32)) hC dX13_dances_245 (by decide) ?_
    refine x_icmp_gt (pc := 246) hC 260 dX13_dances_246 (by decide) (fun c23 => ?_) (fun c23 => ?_)
    · rw [if_pos c23] at h
      refine x_iload_n (pc := 260) hC 3 dX13_dances_260 rfl rfl ?_
      refine x_bipush (pc := 261) (v := (6 : Int32)) hC dX13_dances_261 (by decide) ?_
      refine x_icmp_lt (pc := 263) hC 281 dX13_dances_263 (by decide) (fun c16 => ?_) (fun c16 => ?_)
      · rw [if_pos c16] at h
        refine x_aload_n (pc := 281) hC 0 dX13_dances_281 rfl rfl ?_
        refine x_getRv (pc := 282) (k := 4) hC fc_19 fl_RX13_27 dX13_dances_282 rfl g1 (fun r3 hr3 => ?_)
        replace h := lt_x hr3 h
        refine x_iload_n (pc := 285) hC 2 dX13_dances_285 rfl rfl ?_
        obtain ⟨g6, h⟩ := gd_some h
        obtain ⟨g5, h⟩ := gd_some h
        refine x_ialdv (pc := 286) hC dX13_dances_286 g6 g5 (fun x7 hx7 => ?_)
        replace h := lt_x hx7 h
        refine x_iconst (pc := 287) (v := (1 : Int32)) hC dX13_dances_287 (by decide) ?_
        refine x_iaddv (pc := 288) hC dX13_dances_288 (fun x8 hx8 => ?_)
        replace h := lt_x hx8 h
        refine x_pick [0, 1, 2] rfl ?_
        exact t_X13_dances_289 hls hC hl hE hrc61 h
      · rw [if_neg c16] at h
        refine x_iconst (pc := 266) (v := (0 : Int32)) hC dX13_dances_266 (by decide) ?_
        refine x_aload_n (pc := 267) hC 0 dX13_dances_267 rfl rfl ?_
        refine x_getRv (pc := 268) (k := 4) hC fc_19 fl_RX13_27 dX13_dances_268 rfl g1 (fun r9 hr9 => ?_)
        replace h := lt_x hr9 h
        refine x_iload_n (pc := 271) hC 2 dX13_dances_271 rfl rfl ?_
        obtain ⟨g12, h⟩ := gd_some h
        obtain ⟨g11, h⟩ := gd_some h
        refine x_ialdv (pc := 272) hC dX13_dances_272 g12 g11 (fun x13 hx13 => ?_)
        replace h := lt_x hx13 h
        refine x_iconst (pc := 273) (v := (3 : Int32)) hC dX13_dances_273 (by decide) ?_
        refine x_isubv (pc := 274) hC dX13_dances_274 (fun x14 hx14 => ?_)
        replace h := lt_x hx14 h
        refine x_mmax (pc := 275) hC wm_2119 wm_650 wm_69 wm_651 dX13_dances_275 (Nat.le_of_ble_eq_true rfl) (Nat.le_of_ble_eq_true rfl) (Nat.le_of_ble_eq_true rfl) (Nat.le_of_ble_eq_true rfl) (fun x15 hx15 => ?_)
        replace h := lt_x hx15 h
        refine x_goto (pc := 278) hC 289 dX13_dances_278 (by decide) ?_
        refine x_pick [0, 1, 2] rfl ?_
        exact t_X13_dances_289 hls hC hl hE hrc61 h
    · rw [if_neg c23] at h
      refine x_aload_n (pc := 249) hC 0 dX13_dances_249 rfl rfl ?_
      refine x_getRv (pc := 250) (k := 4) hC fc_19 fl_RX13_27 dX13_dances_250 rfl g1 (fun r17 hr17 => ?_)
      replace h := lt_x hr17 h
      refine x_iload_n (pc := 253) hC 2 dX13_dances_253 rfl rfl ?_
      obtain ⟨g20, h⟩ := gd_some h
      obtain ⟨g19, h⟩ := gd_some h
      refine x_ialdv (pc := 254) hC dX13_dances_254 g20 g19 (fun x21 hx21 => ?_)
      replace h := lt_x hx21 h
      refine x_iconst (pc := 255) (v := (2 : Int32)) hC dX13_dances_255 (by decide) ?_
      refine x_iaddv (pc := 256) hC dX13_dances_256 (fun x22 hx22 => ?_)
      replace h := lt_x hx22 h
      refine x_goto (pc := 257) hC 289 dX13_dances_257 (by decide) ?_
      refine x_pick [0, 1, 2] rfl ?_
      exact t_X13_dances_289 hls hC hl hE hrc61 h
  · rw [if_pos c29] at h
    refine x_aload_n (pc := 235) hC 0 dX13_dances_235 rfl rfl ?_
    refine x_getRv (pc := 236) (k := 4) hC fc_19 fl_RX13_27 dX13_dances_236 rfl g1 (fun r24 hr24 => ?_)
    replace h := lt_x hr24 h
    refine x_iload_n (pc := 239) hC 2 dX13_dances_239 rfl rfl ?_
    obtain ⟨g27, h⟩ := gd_some h
    obtain ⟨g26, h⟩ := gd_some h
    refine x_ialdv (pc := 240) hC dX13_dances_240 g27 g26 (fun x28 hx28 => ?_)
    replace h := lt_x hx28 h
    refine x_goto (pc := 241) hC 289 dX13_dances_241 (by decide) ?_
    refine x_pick [0, 1, 2] rfl ?_
    exact t_X13_dances_289 hls hC hl hE hrc61 h
def f_X13_dances_193 (rc61 : mS → Nat → Int32 → Int32 → Option (Rs Unit)) (S : mS) (a0 : Nat) (a1 : Int32) (a2 : Int32) (a3 : Int32) : Option (Rs Unit) :=
  bd (f_X13_isBetween S a3 (0 : Int32) (2 : Int32)) fun x1 S2 => if x1 = 0 then (f_X13_dances_225 (rc61) S2 a0 a1 a2 a3) else (if a1 = 0 then (gd (gK S2 a0 = 19) (lt9 (gR S2 a0 3) fun r6 => lt9 (gR S2 a0 3) fun r7 => gd (gK S2 r7 = 30) (gd (¬ (a2 < 0 ∨ gZ S2 r7 ≤ (a2).toNatClampNeg)) (lt9 (gI S2 r7 (a2).toNatClampNeg) fun x11 => lt9 (x11 + (1 : Int32)) fun x12 => lt9 (if x12 < (40 : Int32) then x12 else (40 : Int32)) fun x13 => gd (gK S2 r6 = 30) (gd (¬ (a2 < 0 ∨ gZ S2 r6 ≤ (a2).toNatClampNeg)) (zI (sI S2 r6 (a2).toNatClampNeg x13) fun S16 => f_X13_dances_225 (rc61) S16 a0 a1 a2 a3)))))) else (f_X13_dances_225 (rc61) S2 a0 a1 a2 a3))
set_option maxHeartbeats 2000000 in
set_option maxRecDepth 100000 in
theorem t_X13_dances_193 {l : Launch} (hls : l.stackTraces = false) {C : cT} (hC : CX C cX13_dances 9 yX13_dances rm_X13_dances) (hl : C.2.1 = l) {S0 : mS} (hE : CE C S0 (Option.none : Option Jvm.ClassFile.FieldType) []) {o : Rs Unit} {rc61 : mS → Nat → Int32 → Int32 → Option (Rs Unit)} (hrc61 : ∀ (S : mS) (a0 : Nat) (a1 : Int32) (a2 : Int32), rc61 S a0 a1 a2 = some o → XX C 9 (QQ C (fun _ : Unit => none) S0 o) (0) (0) S 61 [(0, .ref a0), (1, .int a1), (2, .int a2)] []) {S : mS} {a0 : Nat} {a1 : Int32} {a2 : Int32} {a3 : Int32} (h : f_X13_dances_193 rc61 S a0 a1 a2 a3 = some o) : XX C 9 (QQ C (fun _ : Unit => none) S0 o) (0) (0) S 193 [(0, .ref a0), (1, .int a1), (2, .int a2), (3, .int a3)] [] := by
  unfold f_X13_dances_193 at h
  refine x_iload_n (pc := 193) hC 3 dX13_dances_193 rfl rfl ?_
  refine x_iconst (pc := 194) (v := (0 : Int32)) hC dX13_dances_194 (by decide) ?_
  refine x_iconst (pc := 195) (v := (2 : Int32)) hC dX13_dances_195 (by decide) ?_
  obtain ⟨o3, ho3, h⟩ := bd_some h
  refine x_callS (pc := 196) (As := [.int a3, .int (0 : Int32), .int (2 : Int32)]) (rest := []) hC hl (c_X13_isBetween l hls ho3) lk_RX13_50 dX13_dances_196 rfl rfl (Nat.le_of_ble_eq_true rfl) ⟨Nat.le_of_ble_eq_true rfl, Nat.le_of_ble_eq_true rfl⟩ ⟨(Nat.le_of_ble_eq_true rfl), (Nat.le_of_ble_eq_true rfl)⟩ ?_
  rcases o3 with ⟨x1 | E4, S2⟩
  · refine xk_i ?_
    replace h := bk_l h
    refine x_if_eq (pc := 199) hC 225 dX13_dances_199 (by decide) (fun c21 => ?_) (fun c21 => ?_)
    · rw [if_pos c21] at h
      refine x_pick [0, 1, 2, 3] rfl ?_
      exact t_X13_dances_225 hls hC hl hE hrc61 h
    · rw [if_neg c21] at h
      refine x_iload_n (pc := 202) hC 1 dX13_dances_202 rfl rfl ?_
      refine x_if_ne (pc := 203) hC 225 dX13_dances_203 (by decide) (fun c20 => ?_) (fun c20 => ?_)
      · rw [if_neg c20] at h
        refine x_pick [0, 1, 2, 3] rfl ?_
        exact t_X13_dances_225 hls hC hl hE hrc61 h
      · rw [if_pos c20] at h
        refine x_aload_n (pc := 206) hC 0 dX13_dances_206 rfl rfl ?_
        obtain ⟨g5, h⟩ := gd_some h
        refine x_getRv (pc := 207) (k := 3) hC fc_19 fl_RX13_23 dX13_dances_207 rfl g5 (fun r6 hr6 => ?_)
        replace h := lt_x hr6 h
        refine x_iload_n (pc := 210) hC 2 dX13_dances_210 rfl rfl ?_
        refine x_bipush (pc := 211) (v := (40 : Int32)) hC dX13_dances_211 (by decide) ?_
        refine x_aload_n (pc := 213) hC 0 dX13_dances_213 rfl rfl ?_
        refine x_getRv (pc := 214) (k := 3) hC fc_19 fl_RX13_23 dX13_dances_214 rfl g5 (fun r7 hr7 => ?_)
        replace h := lt_x hr7 h
        refine x_iload_n (pc := 217) hC 2 dX13_dances_217 rfl rfl ?_
        obtain ⟨g10, h⟩ := gd_some h
        obtain ⟨g9, h⟩ := gd_some h
        refine x_ialdv (pc := 218) hC dX13_dances_218 g10 g9 (fun x11 hx11 => ?_)
        replace h := lt_x hx11 h
        refine x_iconst (pc := 219) (v := (1 : Int32)) hC dX13_dances_219 (by decide) ?_
        refine x_iaddv (pc := 220) hC dX13_dances_220 (fun x12 hx12 => ?_)
        replace h := lt_x hx12 h
        refine x_mmin (pc := 221) hC wm_1898 wm_598 wm_69 wm_599 dX13_dances_221 (Nat.le_of_ble_eq_true rfl) (Nat.le_of_ble_eq_true rfl) (Nat.le_of_ble_eq_true rfl) (Nat.le_of_ble_eq_true rfl) (fun x13 hx13 => ?_)
        replace h := lt_x hx13 h
        obtain ⟨g15, h⟩ := gd_some h
        obtain ⟨g14, h⟩ := gd_some h
        refine x_iastv (pc := 224) hC dX13_dances_224 g15 g14 (fun S16 hS16 => ?_)
        replace h := zI_x hS16 h
        have g17 : gK S16 a0 = 19 := by rw [hS16]; exact g5
        have g18 : gK S16 r7 = 30 := by rw [hS16]; exact g10
        have g19 : gK S16 r6 = 30 := by rw [hS16]; exact g15
        refine x_pick [0, 1, 2, 3] rfl ?_
        exact t_X13_dances_225 hls hC hl hE hrc61 h
  · exact xk_r (xt_out hC hE (bk_r h) (Nat.le_of_ble_eq_true rfl) (Nat.le_of_ble_eq_true rfl))
def f_X13_dances_175 (rc61 : mS → Nat → Int32 → Int32 → Option (Rs Unit)) (S : mS) (a0 : Nat) (a1 : Int32) (a2 : Int32) (a3 : Int32) : Option (Rs Unit) :=
  gd (gK S a0 = 19) (lt9 (gR S a0 3) fun r2 => lt9 (gR S a0 3) fun r3 => gd (gK S r3 = 30) (gd (¬ (a2 < 0 ∨ gZ S r3 ≤ (a2).toNatClampNeg)) (lt9 (gI S r3 (a2).toNatClampNeg) fun x7 => lt9 (x7 - (1 : Int32)) fun x8 => lt9 (if (0 : Int32) < x8 then x8 else (0 : Int32)) fun x9 => gd (gK S r2 = 30) (gd (¬ (a2 < 0 ∨ gZ S r2 ≤ (a2).toNatClampNeg)) (zI (sI S r2 (a2).toNatClampNeg x9) fun S12 => f_X13_dances_193 (rc61) S12 a0 a1 a2 a3)))))
set_option maxHeartbeats 2000000 in
set_option maxRecDepth 100000 in
theorem t_X13_dances_175 {l : Launch} (hls : l.stackTraces = false) {C : cT} (hC : CX C cX13_dances 9 yX13_dances rm_X13_dances) (hl : C.2.1 = l) {S0 : mS} (hE : CE C S0 (Option.none : Option Jvm.ClassFile.FieldType) []) {o : Rs Unit} {rc61 : mS → Nat → Int32 → Int32 → Option (Rs Unit)} (hrc61 : ∀ (S : mS) (a0 : Nat) (a1 : Int32) (a2 : Int32), rc61 S a0 a1 a2 = some o → XX C 9 (QQ C (fun _ : Unit => none) S0 o) (0) (0) S 61 [(0, .ref a0), (1, .int a1), (2, .int a2)] []) {S : mS} {a0 : Nat} {a1 : Int32} {a2 : Int32} {a3 : Int32} (h : f_X13_dances_175 rc61 S a0 a1 a2 a3 = some o) : XX C 9 (QQ C (fun _ : Unit => none) S0 o) (0) (0) S 175 [(0, .ref a0), (1, .int a1), (2, .int a2), (3, .int a3)] [] := by
  unfold f_X13_dances_175 at h
  refine x_aload_n (pc := 175) hC 0 dX13_dances_175 rfl rfl ?_
  obtain ⟨g1, h⟩ := gd_some h
  refine x_getRv (pc := 176) (k := 3) hC fc_19 fl_RX13_23 dX13_dances_176 rfl g1 (fun r2 hr2 => ?_)
  replace h := lt_x hr2 h
  refine x_iload_n (pc := 179) hC 2 dX13_dances_179 rfl rfl ?_
  refine x_iconst (pc := 180) (v := (0 : Int32)) hC dX13_dances_180 (by decide) ?_
  refine x_aload_n (pc := 181) hC 0 dX13_dances_181 rfl rfl ?_
  refine x_getRv (pc := 182) (k := 3) hC fc_19 fl_RX13_23 dX13_dances_182 rfl g1 (fun r3 hr3 => ?_)
  replace h := lt_x hr3 h
  refine x_iload_n (pc := 185) hC 2 dX13_dances_185 rfl rfl ?_
  obtain ⟨g6, h⟩ := gd_some h
  obtain ⟨g5, h⟩ := gd_some h
  refine x_ialdv (pc := 186) hC dX13_dances_186 g6 g5 (fun x7 hx7 => ?_)
  replace h := lt_x hx7 h
  refine x_iconst (pc := 187) (v := (1 : Int32)) hC dX13_dances_187 (by decide) ?_
  refine x_isubv (pc := 188) hC dX13_dances_188 (fun x8 hx8 => ?_)
  replace h := lt_x hx8 h
  refine x_mmax (pc := 189) hC wm_2119 wm_650 wm_69 wm_651 dX13_dances_189 (Nat.le_of_ble_eq_true rfl) (Nat.le_of_ble_eq_true rfl) (Nat.le_of_ble_eq_true rfl) (Nat.le_of_ble_eq_true rfl) (fun x9 hx9 => ?_)
  replace h := lt_x hx9 h
  obtain ⟨g11, h⟩ := gd_some h
  obtain ⟨g10, h⟩ := gd_some h
  refine x_iastv (pc := 192) hC dX13_dances_192 g11 g10 (fun S12 hS12 => ?_)
  replace h := zI_x hS12 h
  have g13 : gK S12 a0 = 19 := by rw [hS12]; exact g1
  have g14 : gK S12 r3 = 30 := by rw [hS12]; exact g6
  have g15 : gK S12 r2 = 30 := by rw [hS12]; exact g11
  refine x_pick [0, 1, 2, 3] rfl ?_
  exact t_X13_dances_193 hls hC hl hE hrc61 h
def f_X13_dances_158 (rc61 : mS → Nat → Int32 → Int32 → Option (Rs Unit)) (rc83 : mS → Nat → Int32 → Int32 → Int32 → Nat → Int32 → Int32 → Option (Rs Unit)) (S : mS) (a0 : Nat) (a1 : Int32) (a2 : Int32) (a3 : Int32) (a4 : Nat) (a5 : Int32) (a6 : Int32) : Option (Rs Unit) :=
  lt9 (a6 + Int32.ofInt (1)) fun x1 => rc83 S a0 a1 a2 a3 a4 a5 x1
set_option maxHeartbeats 2000000 in
set_option maxRecDepth 100000 in
theorem t_X13_dances_158 {l : Launch} (hls : l.stackTraces = false) {C : cT} (hC : CX C cX13_dances 9 yX13_dances rm_X13_dances) (hl : C.2.1 = l) {S0 : mS} (hE : CE C S0 (Option.none : Option Jvm.ClassFile.FieldType) []) {o : Rs Unit} {rc61 : mS → Nat → Int32 → Int32 → Option (Rs Unit)} (hrc61 : ∀ (S : mS) (a0 : Nat) (a1 : Int32) (a2 : Int32), rc61 S a0 a1 a2 = some o → XX C 9 (QQ C (fun _ : Unit => none) S0 o) (0) (0) S 61 [(0, .ref a0), (1, .int a1), (2, .int a2)] []) {rc83 : mS → Nat → Int32 → Int32 → Int32 → Nat → Int32 → Int32 → Option (Rs Unit)} (hrc83 : ∀ (S : mS) (a0 : Nat) (a1 : Int32) (a2 : Int32) (a3 : Int32) (a4 : Nat) (a5 : Int32) (a6 : Int32), rc83 S a0 a1 a2 a3 a4 a5 a6 = some o → XX C 9 (QQ C (fun _ : Unit => none) S0 o) (0) (0) S 83 [(0, .ref a0), (1, .int a1), (2, .int a2), (3, .int a3), (4, .ref a4), (5, .int a5), (6, .int a6)] []) {S : mS} {a0 : Nat} {a1 : Int32} {a2 : Int32} {a3 : Int32} {a4 : Nat} {a5 : Int32} {a6 : Int32} (h : f_X13_dances_158 rc61 rc83 S a0 a1 a2 a3 a4 a5 a6 = some o) : XX C 9 (QQ C (fun _ : Unit => none) S0 o) (0) (0) S 158 [(0, .ref a0), (1, .int a1), (2, .int a2), (3, .int a3), (4, .ref a4), (5, .int a5), (6, .int a6)] [] := by
  unfold f_X13_dances_158 at h
  obtain ⟨x1, hx1⟩ : ∃ z, z = (a6 + Int32.ofInt (1)) := ⟨_, rfl⟩
  replace h := lt_x hx1 h
  refine x_iinc (pc := 158) hC 6 dX13_dances_158 rfl hx1.symm (by decide) (by decide) rfl ?_
  refine x_goto (pc := 161) hC 83 dX13_dances_161 (by decide) ?_
  refine x_pick [1, 2, 3, 4, 5, 6, 0] rfl ?_
  exact hrc83 _ _ _ _ _ _ _ _ h
def f_X13_dances_157 (rc61 : mS → Nat → Int32 → Int32 → Option (Rs Unit)) (rc83 : mS → Nat → Int32 → Int32 → Int32 → Nat → Int32 → Int32 → Option (Rs Unit)) (S : mS) (a0 : Nat) (a1 : Int32) (a2 : Int32) (a4 : Nat) (a5 : Int32) (a6 : Int32) (s0 : Int32) : Option (Rs Unit) :=
  f_X13_dances_158 (rc61) (rc83) S a0 a1 a2 s0 a4 a5 a6
set_option maxHeartbeats 2000000 in
set_option maxRecDepth 100000 in
theorem t_X13_dances_157 {l : Launch} (hls : l.stackTraces = false) {C : cT} (hC : CX C cX13_dances 9 yX13_dances rm_X13_dances) (hl : C.2.1 = l) {S0 : mS} (hE : CE C S0 (Option.none : Option Jvm.ClassFile.FieldType) []) {o : Rs Unit} {rc61 : mS → Nat → Int32 → Int32 → Option (Rs Unit)} (hrc61 : ∀ (S : mS) (a0 : Nat) (a1 : Int32) (a2 : Int32), rc61 S a0 a1 a2 = some o → XX C 9 (QQ C (fun _ : Unit => none) S0 o) (0) (0) S 61 [(0, .ref a0), (1, .int a1), (2, .int a2)] []) {rc83 : mS → Nat → Int32 → Int32 → Int32 → Nat → Int32 → Int32 → Option (Rs Unit)} (hrc83 : ∀ (S : mS) (a0 : Nat) (a1 : Int32) (a2 : Int32) (a3 : Int32) (a4 : Nat) (a5 : Int32) (a6 : Int32), rc83 S a0 a1 a2 a3 a4 a5 a6 = some o → XX C 9 (QQ C (fun _ : Unit => none) S0 o) (0) (0) S 83 [(0, .ref a0), (1, .int a1), (2, .int a2), (3, .int a3), (4, .ref a4), (5, .int a5), (6, .int a6)] []) {S : mS} {a0 : Nat} {a1 : Int32} {a2 : Int32} {a4 : Nat} {a5 : Int32} {a6 : Int32} {s0 : Int32} (h : f_X13_dances_157 rc61 rc83 S a0 a1 a2 a4 a5 a6 s0 = some o) : XX C 9 (QQ C (fun _ : Unit => none) S0 o) (0) (0) S 157 [(0, .ref a0), (1, .int a1), (2, .int a2), (4, .ref a4), (5, .int a5), (6, .int a6)] [.int s0] := by
  unfold f_X13_dances_157 at h
  refine x_istore_n (pc := 157) hC dX13_dances_157 rfl (by decide) (by decide) rfl ?_
  refine x_pick [1, 2, 3, 0, 4, 5, 6] rfl ?_
  exact t_X13_dances_158 hls hC hl hE hrc61 hrc83 h
def f_X13_dances_83 (rc61 : mS → Nat → Int32 → Int32 → Option (Rs Unit)) : Nat → mS → Nat → Int32 → Int32 → Int32 → Nat → Int32 → Int32 → Option (Rs Unit)
  | 0, _, _, _, _, _, _, _, _ => none
  | k + 1, S, a0, a1, a2, a3, a4, a5, a6 => if a5 ≤ a6 then (if a3 = (-1 : Int32) then (f_X13_dances_175 (rc61) S a0 a1 a2 a3) else (if a3 < (6 : Int32) then (f_X13_dances_193 (rc61) S a0 a1 a2 a3) else (f_X13_dances_175 (rc61) S a0 a1 a2 a3))) else (gd (gK S a4 = 37) (gd (¬ (a6 < 0 ∨ gZ S a4 ≤ (a6).toNatClampNeg)) (lt9 (gR S a4 (a6).toNatClampNeg) fun r6 => gd (gK S a0 = 19) (bd (f_X13_isHeard S a0 r6) fun x8 S9 => if x8 = 0 then (f_X13_dances_158 (rc61) (f_X13_dances_83 rc61 k) S9 a0 a1 a2 a3 a4 a5 a6) else (gd (gK S9 r6 = 17) (lt9 (gR S9 r6 0) fun r13 => gd (gK S9 r13 = 18) (lt9 (gI S9 r13 1) fun x15 => lt9 ((4 : Int32) * a2) fun x16 => bd (f_X13_apartKeys S9 x15 x16) fun x17 S18 => gd (gK S18 r6 = 17) (lt9 (gR S18 r6 0) fun r22 => gd (gK S18 r22 = 18) (lt9 (gI S18 r22 2) fun x24 => lt9 (x24 - a2) fun x25 => lt9 (x25 - (3 : Int32)) fun x26 => lt9 (if 0 ≤ x26 then x26 else 0 - x26) fun x27 => lt9 (x17 + x27) fun x28 => if a3 = (-1 : Int32) then (f_X13_dances_157 (rc61) (f_X13_dances_83 rc61 k) S18 a0 a1 a2 a4 a5 a6 x28) else (lt9 (if x28 < a3 then x28 else a3) fun x29 => f_X13_dances_157 (rc61) (f_X13_dances_83 rc61 k) S18 a0 a1 a2 a4 a5 a6 x29))))))))))
set_option maxHeartbeats 2000000 in
set_option maxRecDepth 100000 in
theorem t_X13_dances_83 {l : Launch} (hls : l.stackTraces = false) {C : cT} (hC : CX C cX13_dances 9 yX13_dances rm_X13_dances) (hl : C.2.1 = l) {S0 : mS} (hE : CE C S0 (Option.none : Option Jvm.ClassFile.FieldType) []) {o : Rs Unit} {rc61 : mS → Nat → Int32 → Int32 → Option (Rs Unit)} (hrc61 : ∀ (S : mS) (a0 : Nat) (a1 : Int32) (a2 : Int32), rc61 S a0 a1 a2 = some o → XX C 9 (QQ C (fun _ : Unit => none) S0 o) (0) (0) S 61 [(0, .ref a0), (1, .int a1), (2, .int a2)] []) : ∀ (k : Nat) (S : mS) (a0 : Nat) (a1 : Int32) (a2 : Int32) (a3 : Int32) (a4 : Nat) (a5 : Int32) (a6 : Int32), f_X13_dances_83 rc61 k S a0 a1 a2 a3 a4 a5 a6 = some o → XX C 9 (QQ C (fun _ : Unit => none) S0 o) (0) (0) S 83 [(0, .ref a0), (1, .int a1), (2, .int a2), (3, .int a3), (4, .ref a4), (5, .int a5), (6, .int a6)] [] := by
  intro k
  induction k with
  | zero => intro S a0 a1 a2 a3 a4 a5 a6 h; cases h
  | succ k ih =>
    intro S a0 a1 a2 a3 a4 a5 a6 h
    unfold f_X13_dances_83 at h
    refine x_iload (pc := 83) hC 6 dX13_dances_83 rfl ?_
    refine x_iload (pc := 85) hC 5 dX13_dances_85 rfl ?_
    refine x_icmp_ge (pc := 87) hC 164 dX13_dances_87 (by decide) (fun c32 => ?_) (fun c32 => ?_)
    · rw [if_pos c32] at h
      refine x_iload_n (pc := 164) hC 3 dX13_dances_164 rfl rfl ?_
      refine x_iconst (pc := 165) (v := (-1 : Int32)) hC dX13_dances_165 (by decide) ?_
      refine x_icmp_eq (pc := 166) hC 175 dX13_dances_166 (by decide) (fun c2 => ?_) (fun c2 => ?_)
      · rw [if_pos c2] at h
        refine x_pick [0, 1, 2, 3] rfl ?_
        exact t_X13_dances_175 hls hC hl hE hrc61 h
      · rw [if_neg c2] at h
        refine x_iload_n (pc := 169) hC 3 dX13_dances_169 rfl rfl ?_
        refine x_bipush (pc := 170) (v := (6 : Int32)) hC dX13_dances_170 (by decide) ?_
        refine x_icmp_lt (pc := 172) hC 193 dX13_dances_172 (by decide) (fun c1 => ?_) (fun c1 => ?_)
        · rw [if_pos c1] at h
          refine x_pick [0, 1, 2, 3] rfl ?_
          exact t_X13_dances_193 hls hC hl hE hrc61 h
        · rw [if_neg c1] at h
          refine x_pick [0, 1, 2, 3] rfl ?_
          exact t_X13_dances_175 hls hC hl hE hrc61 h
    · rw [if_neg c32] at h
      refine x_aload (pc := 90) hC 4 dX13_dances_90 rfl ?_
      refine x_iload (pc := 92) hC 6 dX13_dances_92 rfl ?_
      obtain ⟨g5, h⟩ := gd_some h
      obtain ⟨g4, h⟩ := gd_some h
      refine x_raldv (pc := 94) (t0 := 7) hC dX13_dances_94 g5 (by decide) (fun _ => rfl) g4 (fun r6 hr6 => ?_)
      replace h := lt_x hr6 h
      refine x_astore (pc := 95) hC dX13_dances_95 (by decide) (by decide) rfl ?_
      refine x_aload_n (pc := 97) hC 1 dX13_dances_97 rfl rfl ?_
      refine x_aload (pc := 98) hC 0 dX13_dances_98 rfl ?_
      obtain ⟨g7, h⟩ := gd_some h
      obtain ⟨o10, ho10, h⟩ := bd_some h
      refine x_callV (pc := 100) (As := [.ref r6]) (rest := []) hC hl (c_X13_isHeard l hls ho10) lk_RX13_256 fc_19 g7 dX13_dances_100 rfl rfl (Nat.le_of_ble_eq_true rfl) ⟨Nat.le_of_ble_eq_true rfl, Nat.le_of_ble_eq_true rfl⟩ ⟨(Nat.le_of_ble_eq_true rfl), (Nat.le_of_ble_eq_true rfl)⟩ ?_
      rcases o10 with ⟨x8 | E11, S9⟩
      · refine xk_i ?_
        replace h := bk_l h
        refine x_if_ne (pc := 103) hC 109 dX13_dances_103 (by decide) (fun c31 => ?_) (fun c31 => ?_)
        · rw [if_neg c31] at h
          refine x_aload (pc := 109) hC 0 dX13_dances_109 rfl ?_
          obtain ⟨g12, h⟩ := gd_some h
          refine x_getRv (pc := 111) (k := 0) hC fc_17 fl_RX13_60 dX13_dances_111 rfl g12 (fun r13 hr13 => ?_)
          replace h := lt_x hr13 h
          obtain ⟨g14, h⟩ := gd_some h
          refine x_getIv (pc := 114) (k := 1) hC fc_18 fl_RX13_108 dX13_dances_114 rfl g14 (fun x15 hx15 => ?_)
          replace h := lt_x hx15 h
          refine x_iconst (pc := 117) (v := (4 : Int32)) hC dX13_dances_117 (by decide) ?_
          refine x_iload_n (pc := 118) hC 3 dX13_dances_118 rfl rfl ?_
          refine x_imulv (pc := 119) hC dX13_dances_119 (fun x16 hx16 => ?_)
          replace h := lt_x hx16 h
          obtain ⟨o19, ho19, h⟩ := bd_some h
          refine x_callS (pc := 120) (As := [.int x15, .int x16]) (rest := []) hC hl (c_X13_apartKeys l hls ho19) lk_RX13_111 dX13_dances_120 rfl rfl (Nat.le_of_ble_eq_true rfl) ⟨Nat.le_of_ble_eq_true rfl, Nat.le_of_ble_eq_true rfl⟩ ⟨(Nat.le_of_ble_eq_true rfl), (Nat.le_of_ble_eq_true rfl)⟩ ?_
          rcases o19 with ⟨x17 | E20, S18⟩
          · refine xk_i ?_
            replace h := bk_l h
            refine x_aload (pc := 123) hC 0 dX13_dances_123 rfl ?_
            obtain ⟨g21, h⟩ := gd_some h
            refine x_getRv (pc := 125) (k := 0) hC fc_17 fl_RX13_60 dX13_dances_125 rfl g21 (fun r22 hr22 => ?_)
            replace h := lt_x hr22 h
            obtain ⟨g23, h⟩ := gd_some h
            refine x_getIv (pc := 128) (k := 2) hC fc_18 fl_RX13_225 dX13_dances_128 rfl g23 (fun x24 hx24 => ?_)
            replace h := lt_x hx24 h
            refine x_iload_n (pc := 131) hC 3 dX13_dances_131 rfl rfl ?_
            refine x_isubv (pc := 132) hC dX13_dances_132 (fun x25 hx25 => ?_)
            replace h := lt_x hx25 h
            refine x_iconst (pc := 133) (v := (3 : Int32)) hC dX13_dances_133 (by decide) ?_
            refine x_isubv (pc := 134) hC dX13_dances_134 (fun x26 hx26 => ?_)
            replace h := lt_x hx26 h
            refine x_mabs (pc := 135) hC wm_1897 wm_640 wm_69 wm_641 dX13_dances_135 (Nat.le_of_ble_eq_true rfl) (Nat.le_of_ble_eq_true rfl) (Nat.le_of_ble_eq_true rfl) (Nat.le_of_ble_eq_true rfl) (fun x27 hx27 => ?_)
            replace h := lt_x hx27 h
            refine x_iaddv (pc := 138) hC dX13_dances_138 (fun x28 hx28 => ?_)
            replace h := lt_x hx28 h
            refine x_istore (pc := 139) hC dX13_dances_139 (by decide) (by decide) rfl ?_
            refine x_iload_n (pc := 141) hC 5 dX13_dances_141 rfl rfl ?_
            refine x_iconst (pc := 142) (v := (-1 : Int32)) hC dX13_dances_142 (by decide) ?_
            refine x_icmp_ne (pc := 143) hC 151 dX13_dances_143 (by decide) (fun c30 => ?_) (fun c30 => ?_)
            · rw [if_neg c30] at h
              refine x_iload_n (pc := 151) hC 5 dX13_dances_151 rfl rfl ?_
              refine x_iload (pc := 152) hC 0 dX13_dances_152 rfl ?_
              refine x_mmin (pc := 154) hC wm_1898 wm_598 wm_69 wm_599 dX13_dances_154 (Nat.le_of_ble_eq_true rfl) (Nat.le_of_ble_eq_true rfl) (Nat.le_of_ble_eq_true rfl) (Nat.le_of_ble_eq_true rfl) (fun x29 hx29 => ?_)
              replace h := lt_x hx29 h
              refine x_pick [2, 3, 4, 6, 7, 8] rfl ?_
              exact t_X13_dances_157 hls hC hl hE hrc61 (fun z0 z1 z2 z3 z4 z5 z6 z7 hz => ih z0 z1 z2 z3 z4 z5 z6 z7 hz) h
            · rw [if_pos c30] at h
              refine x_iload (pc := 146) hC 0 dX13_dances_146 rfl ?_
              refine x_goto (pc := 148) hC 157 dX13_dances_148 (by decide) ?_
              refine x_pick [2, 3, 4, 6, 7, 8] rfl ?_
              exact t_X13_dances_157 hls hC hl hE hrc61 (fun z0 z1 z2 z3 z4 z5 z6 z7 hz => ih z0 z1 z2 z3 z4 z5 z6 z7 hz) h
          · exact xk_r (xt_out hC hE (bk_r h) (Nat.le_of_ble_eq_true rfl) (Nat.le_of_ble_eq_true rfl))
        · rw [if_pos c31] at h
          refine x_goto (pc := 106) hC 158 dX13_dances_106 (by decide) ?_
          refine x_pick [1, 2, 3, 4, 5, 6, 7] rfl ?_
          exact t_X13_dances_158 hls hC hl hE hrc61 (fun z0 z1 z2 z3 z4 z5 z6 z7 hz => ih z0 z1 z2 z3 z4 z5 z6 z7 hz) h
      · exact xk_r (xt_out hC hE (bk_r h) (Nat.le_of_ble_eq_true rfl) (Nat.le_of_ble_eq_true rfl))
def f_X13_dances_61  : Nat → mS → Nat → Int32 → Int32 → Option (Rs Unit)
  | 0, _, _, _, _ => none
  | k + 1, S, a0, a1, a2 => if (6 : Int32) ≤ a2 then (some (.inl (), S)) else (gd (gK S a0 = 19) (lt9 (gR S a0 2) fun r2 => gd (gK S r2 = 37) (lt9 (Int32.ofNat (gZ S r2)) fun x4 => f_X13_dances_83 (f_X13_dances_61 k) 16 S a0 a1 a2 (-1 : Int32) r2 x4 (0 : Int32))))
set_option maxHeartbeats 2000000 in
set_option maxRecDepth 100000 in
theorem t_X13_dances_61 {l : Launch} (hls : l.stackTraces = false) {C : cT} (hC : CX C cX13_dances 9 yX13_dances rm_X13_dances) (hl : C.2.1 = l) {S0 : mS} (hE : CE C S0 (Option.none : Option Jvm.ClassFile.FieldType) []) {o : Rs Unit} : ∀ (k : Nat) (S : mS) (a0 : Nat) (a1 : Int32) (a2 : Int32), f_X13_dances_61  k S a0 a1 a2 = some o → XX C 9 (QQ C (fun _ : Unit => none) S0 o) (0) (0) S 61 [(0, .ref a0), (1, .int a1), (2, .int a2)] [] := by
  intro k
  induction k with
  | zero => intro S a0 a1 a2 h; cases h
  | succ k ih =>
    intro S a0 a1 a2 h
    unfold f_X13_dances_61 at h
    refine x_iload_n (pc := 61) hC 2 dX13_dances_61 rfl rfl ?_
    refine x_bipush (pc := 62) (v := (6 : Int32)) hC dX13_dances_62 (by decide) ?_
    refine x_icmp_ge (pc := 64) hC 339 dX13_dances_64 (by decide) (fun c5 => ?_) (fun c5 => ?_)
    · rw [if_pos c5] at h
      exact x_vreturn (pc := 339) hC hE dX13_dances_339 (so h) (Nat.le_of_ble_eq_true rfl) (Nat.le_of_ble_eq_true rfl)
    · rw [if_neg c5] at h
      refine x_iconst (pc := 67) (v := (-1 : Int32)) hC dX13_dances_67 (by decide) ?_
      refine x_istore_n (pc := 68) hC dX13_dances_68 rfl (by decide) (by decide) rfl ?_
      refine x_aload_n (pc := 69) hC 1 dX13_dances_69 rfl rfl ?_
      obtain ⟨g1, h⟩ := gd_some h
      refine x_getRv (pc := 70) (k := 2) hC fc_19 fl_RX13_19 dX13_dances_70 rfl g1 (fun r2 hr2 => ?_)
      replace h := lt_x hr2 h
      refine x_astore (pc := 73) hC dX13_dances_73 (by decide) (by decide) rfl ?_
      refine x_aload (pc := 75) hC 0 dX13_dances_75 rfl ?_
      obtain ⟨g3, h⟩ := gd_some h
      refine x_alenv (pc := 77) (t0 := 7) hC dX13_dances_77 g3 (by decide) (fun _ => rfl) (fun x4 hx4 => ?_)
      replace h := lt_x hx4 h
      refine x_istore (pc := 78) hC dX13_dances_78 (by decide) (by decide) rfl ?_
      refine x_iconst (pc := 80) (v := (0 : Int32)) hC dX13_dances_80 (by decide) ?_
      refine x_istore (pc := 81) hC dX13_dances_81 (by decide) (by decide) rfl ?_
      refine x_pick [4, 5, 6, 3, 2, 1, 0] rfl ?_
      exact t_X13_dances_83 hls hC hl hE (fun z0 z1 z2 z3 hz => ih z0 z1 z2 z3 hz) 16 _ _ _ _ _ _ _ _ h
def f_X13_dances_51 (rc13 : mS → Nat → Int32 → Nat → Int32 → Int32 → Option (Rs Unit)) (S : mS) (a0 : Nat) (a2 : Nat) (a3 : Int32) (a4 : Int32) (s0 : Int32) (s1 : Int32) : Option (Rs Unit) :=
  lt9 (s0 ||| s1) fun x1 => lt9 (a4 + Int32.ofInt (1)) fun x2 => rc13 S a0 x1 a2 a3 x2
set_option maxHeartbeats 2000000 in
set_option maxRecDepth 100000 in
theorem t_X13_dances_51 {l : Launch} (hls : l.stackTraces = false) {C : cT} (hC : CX C cX13_dances 9 yX13_dances rm_X13_dances) (hl : C.2.1 = l) {S0 : mS} (hE : CE C S0 (Option.none : Option Jvm.ClassFile.FieldType) []) {o : Rs Unit} {rc13 : mS → Nat → Int32 → Nat → Int32 → Int32 → Option (Rs Unit)} (hrc13 : ∀ (S : mS) (a0 : Nat) (a1 : Int32) (a2 : Nat) (a3 : Int32) (a4 : Int32), rc13 S a0 a1 a2 a3 a4 = some o → XX C 9 (QQ C (fun _ : Unit => none) S0 o) (0) (0) S 13 [(0, .ref a0), (1, .int a1), (2, .ref a2), (3, .int a3), (4, .int a4)] []) {S : mS} {a0 : Nat} {a2 : Nat} {a3 : Int32} {a4 : Int32} {s0 : Int32} {s1 : Int32} (h : f_X13_dances_51 rc13 S a0 a2 a3 a4 s0 s1 = some o) : XX C 9 (QQ C (fun _ : Unit => none) S0 o) (0) (0) S 51 [(0, .ref a0), (2, .ref a2), (3, .int a3), (4, .int a4)] [.int s1, .int s0] := by
  unfold f_X13_dances_51 at h
  refine x_iorv (pc := 51) hC dX13_dances_51 (fun x1 hx1 => ?_)
  replace h := lt_x hx1 h
  refine x_istore_n (pc := 52) hC dX13_dances_52 rfl (by decide) (by decide) rfl ?_
  obtain ⟨x2, hx2⟩ : ∃ z, z = (a4 + Int32.ofInt (1)) := ⟨_, rfl⟩
  replace h := lt_x hx2 h
  refine x_iinc (pc := 53) hC 4 dX13_dances_53 rfl hx2.symm (by decide) (by decide) rfl ?_
  refine x_goto (pc := 56) hC 13 dX13_dances_56 (by decide) ?_
  refine x_pick [2, 1, 3, 4, 0] rfl ?_
  exact hrc13 _ _ _ _ _ _ h
def f_X13_dances_50 (rc13 : mS → Nat → Int32 → Nat → Int32 → Int32 → Option (Rs Unit)) (S : mS) (a0 : Nat) (a2 : Nat) (a3 : Int32) (a4 : Int32) (s0 : Int32) : Option (Rs Unit) :=
  f_X13_dances_51 (rc13) S a0 a2 a3 a4 s0 (0 : Int32)
set_option maxHeartbeats 2000000 in
set_option maxRecDepth 100000 in
theorem t_X13_dances_50 {l : Launch} (hls : l.stackTraces = false) {C : cT} (hC : CX C cX13_dances 9 yX13_dances rm_X13_dances) (hl : C.2.1 = l) {S0 : mS} (hE : CE C S0 (Option.none : Option Jvm.ClassFile.FieldType) []) {o : Rs Unit} {rc13 : mS → Nat → Int32 → Nat → Int32 → Int32 → Option (Rs Unit)} (hrc13 : ∀ (S : mS) (a0 : Nat) (a1 : Int32) (a2 : Nat) (a3 : Int32) (a4 : Int32), rc13 S a0 a1 a2 a3 a4 = some o → XX C 9 (QQ C (fun _ : Unit => none) S0 o) (0) (0) S 13 [(0, .ref a0), (1, .int a1), (2, .ref a2), (3, .int a3), (4, .int a4)] []) {S : mS} {a0 : Nat} {a2 : Nat} {a3 : Int32} {a4 : Int32} {s0 : Int32} (h : f_X13_dances_50 rc13 S a0 a2 a3 a4 s0 = some o) : XX C 9 (QQ C (fun _ : Unit => none) S0 o) (0) (0) S 50 [(0, .ref a0), (2, .ref a2), (3, .int a3), (4, .int a4)] [.int s0] := by
  unfold f_X13_dances_50 at h
  refine x_iconst (pc := 50) (v := (0 : Int32)) hC dX13_dances_50 (by decide) ?_
  refine x_pick [0, 1, 2, 3] rfl ?_
  exact t_X13_dances_51 hls hC hl hE hrc13 h
def f_X13_dances_13  : Nat → mS → Nat → Int32 → Nat → Int32 → Int32 → Option (Rs Unit)
  | 0, _, _, _, _, _, _ => none
  | k + 1, S, a0, a1, a2, a3, a4 => if a3 ≤ a4 then (f_X13_dances_61  16 S a0 a1 (0 : Int32)) else (gd (gK S a2 = 37) (gd (¬ (a4 < 0 ∨ gZ S a2 ≤ (a4).toNatClampNeg)) (lt9 (gR S a2 (a4).toNatClampNeg) fun r4 => gd (gK S a0 = 19) (bd (f_X13_isHeard S a0 r4) fun x6 S7 => if x6 = 0 then (f_X13_dances_50 (f_X13_dances_13 k) S7 a0 a2 a3 a4 a1) else (gd (gK S7 r4 = 17) (lt9 (gR S7 r4 0) fun r11 => gd (gK S7 r11 = 18) (lt9 (gI S7 r11 7) fun x13 => if x13 = 0 then (f_X13_dances_50 (f_X13_dances_13 k) S7 a0 a2 a3 a4 a1) else (f_X13_dances_51 (f_X13_dances_13 k) S7 a0 a2 a3 a4 a1 (1 : Int32)))))))))
set_option maxHeartbeats 2000000 in
set_option maxRecDepth 100000 in
theorem t_X13_dances_13 {l : Launch} (hls : l.stackTraces = false) {C : cT} (hC : CX C cX13_dances 9 yX13_dances rm_X13_dances) (hl : C.2.1 = l) {S0 : mS} (hE : CE C S0 (Option.none : Option Jvm.ClassFile.FieldType) []) {o : Rs Unit} : ∀ (k : Nat) (S : mS) (a0 : Nat) (a1 : Int32) (a2 : Nat) (a3 : Int32) (a4 : Int32), f_X13_dances_13  k S a0 a1 a2 a3 a4 = some o → XX C 9 (QQ C (fun _ : Unit => none) S0 o) (0) (0) S 13 [(0, .ref a0), (1, .int a1), (2, .ref a2), (3, .int a3), (4, .int a4)] [] := by
  intro k
  induction k with
  | zero => intro S a0 a1 a2 a3 a4 h; cases h
  | succ k ih =>
    intro S a0 a1 a2 a3 a4 h
    unfold f_X13_dances_13 at h
    refine x_iload (pc := 13) hC 4 dX13_dances_13 rfl ?_
    refine x_iload_n (pc := 15) hC 3 dX13_dances_15 rfl rfl ?_
    refine x_icmp_ge (pc := 16) hC 59 dX13_dances_16 (by decide) (fun c16 => ?_) (fun c16 => ?_)
    · rw [if_pos c16] at h
      refine x_iconst (pc := 59) (v := (0 : Int32)) hC dX13_dances_59 (by decide) ?_
      refine x_istore_n (pc := 60) hC dX13_dances_60 rfl (by decide) (by decide) rfl ?_
      refine x_pick [1, 2, 0] rfl ?_
      exact t_X13_dances_61 hls hC hl hE 16 _ _ _ _ h
    · rw [if_neg c16] at h
      refine x_aload_n (pc := 19) hC 2 dX13_dances_19 rfl rfl ?_
      refine x_iload (pc := 20) hC 4 dX13_dances_20 rfl ?_
      obtain ⟨g3, h⟩ := gd_some h
      obtain ⟨g2, h⟩ := gd_some h
      refine x_raldv (pc := 22) (t0 := 7) hC dX13_dances_22 g3 (by decide) (fun _ => rfl) g2 (fun r4 hr4 => ?_)
      replace h := lt_x hr4 h
      refine x_astore (pc := 23) hC dX13_dances_23 (by decide) (by decide) rfl ?_
      refine x_iload_n (pc := 25) hC 2 dX13_dances_25 rfl rfl ?_
      refine x_aload_n (pc := 26) hC 1 dX13_dances_26 rfl rfl ?_
      refine x_aload (pc := 27) hC 0 dX13_dances_27 rfl ?_
      obtain ⟨g5, h⟩ := gd_some h
      obtain ⟨o8, ho8, h⟩ := bd_some h
      refine x_callV (pc := 29) (As := [.ref r4]) (rest := [.int a1]) hC hl (c_X13_isHeard l hls ho8) lk_RX13_256 fc_19 g5 dX13_dances_29 rfl rfl (Nat.le_of_ble_eq_true rfl) ⟨Nat.le_of_ble_eq_true rfl, Nat.le_of_ble_eq_true rfl⟩ ⟨(Nat.le_of_ble_eq_true rfl), (Nat.le_of_ble_eq_true rfl)⟩ ?_
      rcases o8 with ⟨x6 | E9, S7⟩
      · refine xk_i ?_
        replace h := bk_l h
        refine x_if_eq (pc := 32) hC 50 dX13_dances_32 (by decide) (fun c15 => ?_) (fun c15 => ?_)
        · rw [if_pos c15] at h
          refine x_pick [1, 3, 4, 5] rfl ?_
          exact t_X13_dances_50 hls hC hl hE (fun z0 z1 z2 z3 z4 z5 hz => ih z0 z1 z2 z3 z4 z5 hz) h
        · rw [if_neg c15] at h
          refine x_aload (pc := 35) hC 0 dX13_dances_35 rfl ?_
          obtain ⟨g10, h⟩ := gd_some h
          refine x_getRv (pc := 37) (k := 0) hC fc_17 fl_RX13_60 dX13_dances_37 rfl g10 (fun r11 hr11 => ?_)
          replace h := lt_x hr11 h
          obtain ⟨g12, h⟩ := gd_some h
          refine x_getIv (pc := 40) (k := 7) hC fc_18 fl_RX13_114 dX13_dances_40 rfl g12 (fun x13 hx13 => ?_)
          replace h := lt_x hx13 h
          refine x_if_eq (pc := 43) hC 50 dX13_dances_43 (by decide) (fun c14 => ?_) (fun c14 => ?_)
          · rw [if_pos c14] at h
            refine x_pick [1, 3, 4, 5] rfl ?_
            exact t_X13_dances_50 hls hC hl hE (fun z0 z1 z2 z3 z4 z5 hz => ih z0 z1 z2 z3 z4 z5 hz) h
          · rw [if_neg c14] at h
            refine x_iconst (pc := 46) (v := (1 : Int32)) hC dX13_dances_46 (by decide) ?_
            refine x_goto (pc := 47) hC 51 dX13_dances_47 (by decide) ?_
            refine x_pick [1, 3, 4, 5] rfl ?_
            exact t_X13_dances_51 hls hC hl hE (fun z0 z1 z2 z3 z4 z5 hz => ih z0 z1 z2 z3 z4 z5 hz) h
      · exact xk_r (xt_out hC hE (bk_r h) (Nat.le_of_ble_eq_true rfl) (Nat.le_of_ble_eq_true rfl))
def f_X13_dances (S : mS) (a0 : Nat) : Option (Rs Unit) :=
  gd (gK S a0 = 19) (lt9 (gR S a0 2) fun r2 => gd (gK S r2 = 37) (lt9 (Int32.ofNat (gZ S r2)) fun x4 => f_X13_dances_13  16 S a0 (0 : Int32) r2 x4 (0 : Int32)))
set_option maxHeartbeats 2000000 in
set_option maxRecDepth 100000 in
theorem t_X13_dances {l : Launch} (hls : l.stackTraces = false) {C : cT} (hC : CX C cX13_dances 9 yX13_dances rm_X13_dances) (hl : C.2.1 = l) {S0 : mS} (hE : CE C S0 (Option.none : Option Jvm.ClassFile.FieldType) []) {o : Rs Unit} {S : mS} {a0 : Nat} (h : f_X13_dances S a0 = some o) : XX C 9 (QQ C (fun _ : Unit => none) S0 o) 0 0 S 0 [(0, .ref a0)] [] := by
  unfold f_X13_dances at h
  refine x_iconst (pc := 0) (v := (0 : Int32)) hC dX13_dances_0 (by decide) ?_
  refine x_istore_n (pc := 1) hC dX13_dances_1 rfl (by decide) (by decide) rfl ?_
  refine x_aload_n (pc := 2) hC 1 dX13_dances_2 rfl rfl ?_
  obtain ⟨g1, h⟩ := gd_some h
  refine x_getRv (pc := 3) (k := 2) hC fc_19 fl_RX13_19 dX13_dances_3 rfl g1 (fun r2 hr2 => ?_)
  replace h := lt_x hr2 h
  refine x_astore_n (pc := 6) hC dX13_dances_6 rfl (by decide) (by decide) rfl ?_
  refine x_aload_n (pc := 7) hC 0 dX13_dances_7 rfl rfl ?_
  obtain ⟨g3, h⟩ := gd_some h
  refine x_alenv (pc := 8) (t0 := 7) hC dX13_dances_8 g3 (by decide) (fun _ => rfl) (fun x4 hx4 => ?_)
  replace h := lt_x hx4 h
  refine x_istore_n (pc := 9) hC dX13_dances_9 rfl (by decide) (by decide) rfl ?_
  refine x_iconst (pc := 10) (v := (0 : Int32)) hC dX13_dances_10 (by decide) ?_
  refine x_istore (pc := 11) hC dX13_dances_11 (by decide) (by decide) rfl ?_
  refine x_pick [4, 3, 2, 1, 0] rfl ?_
  exact t_X13_dances_13 hls hC hl hE 16 _ _ _ _ _ _ h
theorem c_X13_dances (l : Launch) (hls : l.stackTraces = false) {S : mS} {a0 : Nat} {o : Rs Unit} (h : f_X13_dances S a0 = some o) : CT (fun _ : Unit => none) l yX13_dances (.code yX13_dances cX13_dances 9 (Option.none : Option Jvm.ClassFile.FieldType)) rm_X13_dances S [.ref a0] o := ct_of (by decide +kernel) hls (Nat.le_of_ble_eq_true rfl) (fun C hl hC hE => t_X13_dances hls hC hl hE h)
abbrev rm_X13_tick : Room := { frames := 12, cells := 10, slots := 40, locals := 242 }
def f_X13_tick_329  (S : mS) (a0 : Nat) (s0 : Nat) (s1 : Int32) (s2 : Int32) : Option (Rs Unit) :=
  lt9 (s1 + s2) fun x1 => gd (gK S s0 = 19) (zI (sI S s0 14 x1) fun S3 => gd (gK S3 a0 = 19) (zL (sL S3 a0 19 (0 : Int64)) fun S6 => some (.inl (), S6)))
set_option maxHeartbeats 2000000 in
set_option maxRecDepth 100000 in
theorem t_X13_tick_329 {l : Launch} (hls : l.stackTraces = false) {C : cT} (hC : CX C cX13_tick 8 yX13_tick rm_X13_tick) (hl : C.2.1 = l) {S0 : mS} (hE : CE C S0 (Option.none : Option Jvm.ClassFile.FieldType) []) {o : Rs Unit} {S : mS} {a0 : Nat} {s0 : Nat} {s1 : Int32} {s2 : Int32} (h : f_X13_tick_329  S a0 s0 s1 s2 = some o) : XX C 8 (QQ C (fun _ : Unit => none) S0 o) (5) (20) S 329 [(0, .ref a0)] [.int s2, .int s1, .ref s0] := by
  unfold f_X13_tick_329 at h
  refine x_iaddv (pc := 329) hC dX13_tick_329 (fun x1 hx1 => ?_)
  replace h := lt_x hx1 h
  obtain ⟨g2, h⟩ := gd_some h
  refine x_putIv (pc := 330) (k := 14) hC fc_19 fl_RX13_301 dX13_tick_330 rfl rfl (nf_int _) g2 (fun S3 hS3 => ?_)
  replace h := zI_x hS3 h
  have g4 : gK S3 s0 = 19 := by rw [hS3]; exact g2
  refine x_aload_n (pc := 333) hC 0 dX13_tick_333 rfl rfl ?_
  refine x_lconst (pc := 334) (v := (0 : Int64)) hC dX13_tick_334 (by decide) ?_
  obtain ⟨g5, h⟩ := gd_some h
  refine x_putLv (pc := 335) (k := 19) hC fc_19 fl_RX13_292 dX13_tick_335 rfl rfl rfl g5 (fun S6 hS6 => ?_)
  replace h := zL_x hS6 h
  have g7 : gK S6 s0 = 19 := by rw [hS6]; exact g4
  have g8 : gK S6 a0 = 19 := by rw [hS6]; exact g5
  exact x_vreturn (pc := 338) hC hE dX13_tick_338 (so h) (Nat.le_of_ble_eq_true rfl) (Nat.le_of_ble_eq_true rfl)
def f_X13_tick_232  (S : mS) (a0 : Nat) (s0 : Nat) (s1 : Int32) (s2 : Int32) : Option (Rs Unit) :=
  lt9 (s1 + s2) fun x1 => gd (gK S s0 = 19) (zI (sI S s0 13 x1) fun S3 => gd (gK S3 a0 = 19) (lt9 (gL S3 a0 18) fun x6 => lt9 (gI S3 a0 10) fun x7 => lt9 ((x7).toInt64) fun x8 => lt9 (x6 + x8) fun x9 => zL (sL S3 a0 18 x9) fun S10 => lt9 (gL S10 a0 19) fun x13 => lt9 (gI S10 a0 10) fun x14 => lt9 ((x14).toInt64) fun x15 => lt9 (x13 + x15) fun x16 => zL (sL S10 a0 19 x16) fun S17 => lt9 (gI S17 a0 9) fun x20 => lt9 (x20 + (1 : Int32)) fun x21 => zI (sI S17 a0 9 x21) fun S22 => lt9 (gI S22 a0 9) fun x25 => gd (¬ (100 : Int32) = 0) (lt9 (x25 - x25 / (100 : Int32) * (100 : Int32)) fun x26 => if x26 = 0 then (bd (f_X13_dances S22 a0) fun _ S29 => gd (gK S29 a0 = 19) (lt9 (gI S29 a0 14) fun x33 => lt9 (gL S29 a0 19) fun x34 => gd (¬ (100 : Int64) = 0) (lt9 (x34 / (100 : Int64)) fun x35 => lt9 (gR S29 a0 5) fun r37 => lt9 (gI S29 a0 9) fun x38 => lt9 (x38 - (1 : Int32)) fun x39 => gd (¬ (360000 : Int32) = 0) (lt9 (x39 / (360000 : Int32)) fun x40 => gd (¬ (4 : Int32) = 0) (lt9 (x40 - x40 / (4 : Int32) * (4 : Int32)) fun x42 => gd (gK S29 r37 = 30) (gd (¬ (x42 < 0 ∨ gZ S29 r37 ≤ (x42).toNatClampNeg)) (lt9 (gI S29 r37 (x42).toNatClampNeg) fun x47 => lt9 ((x47).toInt64) fun x48 => lt9 (lg_cmp x35 x48) fun x49 => if x49 ≤ 0 then (f_X13_tick_329  S29 a0 a0 x33 (0 : Int32)) else (f_X13_tick_329  S29 a0 a0 x33 (1 : Int32))))))))) else (some (.inl (), S22)))))
set_option maxHeartbeats 2000000 in
set_option maxRecDepth 100000 in
theorem t_X13_tick_232 {l : Launch} (hls : l.stackTraces = false) {C : cT} (hC : CX C cX13_tick 8 yX13_tick rm_X13_tick) (hl : C.2.1 = l) {S0 : mS} (hE : CE C S0 (Option.none : Option Jvm.ClassFile.FieldType) []) {o : Rs Unit} {S : mS} {a0 : Nat} {s0 : Nat} {s1 : Int32} {s2 : Int32} (h : f_X13_tick_232  S a0 s0 s1 s2 = some o) : XX C 8 (QQ C (fun _ : Unit => none) S0 o) (5) (20) S 232 [(0, .ref a0)] [.int s2, .int s1, .ref s0] := by
  unfold f_X13_tick_232 at h
  refine x_iaddv (pc := 232) hC dX13_tick_232 (fun x1 hx1 => ?_)
  replace h := lt_x hx1 h
  obtain ⟨g2, h⟩ := gd_some h
  refine x_putIv (pc := 233) (k := 13) hC fc_19 fl_RX13_286 dX13_tick_233 rfl rfl (nf_int _) g2 (fun S3 hS3 => ?_)
  replace h := zI_x hS3 h
  have g4 : gK S3 s0 = 19 := by rw [hS3]; exact g2
  refine x_aload_n (pc := 236) hC 0 dX13_tick_236 rfl rfl ?_
  refine x_dup (pc := 237) hC dX13_tick_237 rfl ?_
  obtain ⟨g5, h⟩ := gd_some h
  refine x_getLv (pc := 238) (k := 18) hC fc_19 fl_RX13_289 dX13_tick_238 rfl g5 (fun x6 hx6 => ?_)
  replace h := lt_x hx6 h
  refine x_aload_n (pc := 241) hC 0 dX13_tick_241 rfl rfl ?_
  refine x_getIv (pc := 242) (k := 10) hC fc_19 fl_RX13_278 dX13_tick_242 rfl g5 (fun x7 hx7 => ?_)
  replace h := lt_x hx7 h
  refine x_i2lv (pc := 245) hC dX13_tick_245 (fun x8 hx8 => ?_)
  replace h := lt_x hx8 h
  refine x_laddv (pc := 246) hC dX13_tick_246 (fun x9 hx9 => ?_)
  replace h := lt_x hx9 h
  refine x_putLv (pc := 247) (k := 18) hC fc_19 fl_RX13_289 dX13_tick_247 rfl rfl rfl g5 (fun S10 hS10 => ?_)
  replace h := zL_x hS10 h
  have g11 : gK S10 s0 = 19 := by rw [hS10]; exact g4
  have g12 : gK S10 a0 = 19 := by rw [hS10]; exact g5
  refine x_aload_n (pc := 250) hC 0 dX13_tick_250 rfl rfl ?_
  refine x_dup (pc := 251) hC dX13_tick_251 rfl ?_
  refine x_getLv (pc := 252) (k := 19) hC fc_19 fl_RX13_292 dX13_tick_252 rfl g12 (fun x13 hx13 => ?_)
  replace h := lt_x hx13 h
  refine x_aload_n (pc := 255) hC 0 dX13_tick_255 rfl rfl ?_
  refine x_getIv (pc := 256) (k := 10) hC fc_19 fl_RX13_278 dX13_tick_256 rfl g12 (fun x14 hx14 => ?_)
  replace h := lt_x hx14 h
  refine x_i2lv (pc := 259) hC dX13_tick_259 (fun x15 hx15 => ?_)
  replace h := lt_x hx15 h
  refine x_laddv (pc := 260) hC dX13_tick_260 (fun x16 hx16 => ?_)
  replace h := lt_x hx16 h
  refine x_putLv (pc := 261) (k := 19) hC fc_19 fl_RX13_292 dX13_tick_261 rfl rfl rfl g12 (fun S17 hS17 => ?_)
  replace h := zL_x hS17 h
  have g18 : gK S17 s0 = 19 := by rw [hS17]; exact g11
  have g19 : gK S17 a0 = 19 := by rw [hS17]; exact g12
  refine x_aload_n (pc := 264) hC 0 dX13_tick_264 rfl rfl ?_
  refine x_dup (pc := 265) hC dX13_tick_265 rfl ?_
  refine x_getIv (pc := 266) (k := 9) hC fc_19 fl_RX13_295 dX13_tick_266 rfl g19 (fun x20 hx20 => ?_)
  replace h := lt_x hx20 h
  refine x_iconst (pc := 269) (v := (1 : Int32)) hC dX13_tick_269 (by decide) ?_
  refine x_iaddv (pc := 270) hC dX13_tick_270 (fun x21 hx21 => ?_)
  replace h := lt_x hx21 h
  refine x_putIv (pc := 271) (k := 9) hC fc_19 fl_RX13_295 dX13_tick_271 rfl rfl (nf_int _) g19 (fun S22 hS22 => ?_)
  replace h := zI_x hS22 h
  have g23 : gK S22 s0 = 19 := by rw [hS22]; exact g18
  have g24 : gK S22 a0 = 19 := by rw [hS22]; exact g19
  refine x_aload_n (pc := 274) hC 0 dX13_tick_274 rfl rfl ?_
  refine x_getIv (pc := 275) (k := 9) hC fc_19 fl_RX13_295 dX13_tick_275 rfl g24 (fun x25 hx25 => ?_)
  replace h := lt_x hx25 h
  refine x_bipush (pc := 278) (v := (100 : Int32)) hC dX13_tick_278 (by decide) ?_
  obtain ⟨g27, h⟩ := gd_some h
  refine x_iremv (pc := 280) hC dX13_tick_280 g27 (fun x26 hx26 => ?_)
  replace h := lt_x hx26 h
  refine x_if_eq (pc := 281) hC 285 dX13_tick_281 (by decide) (fun c51 => ?_) (fun c51 => ?_)
  · rw [if_pos c51] at h
    refine x_aload_n (pc := 285) hC 0 dX13_tick_285 rfl rfl ?_
    obtain ⟨o30, ho30, h⟩ := bd_some h
    refine x_callV (pc := 286) (As := []) (rest := []) hC hl (c_X13_dances l hls ho30) lk_RX13_298 fc_19 g24 dX13_tick_286 rfl rfl (Nat.le_of_ble_eq_true rfl) ⟨Nat.le_of_ble_eq_true rfl, Nat.le_of_ble_eq_true rfl⟩ ⟨(Nat.le_of_ble_eq_true rfl), (Nat.le_of_ble_eq_true rfl)⟩ ?_
    rcases o30 with ⟨_ | E31, S29⟩
    · refine xk_v ?_
      replace h := bk_l h
      refine x_aload_n (pc := 289) hC 0 dX13_tick_289 rfl rfl ?_
      refine x_dup (pc := 290) hC dX13_tick_290 rfl ?_
      obtain ⟨g32, h⟩ := gd_some h
      refine x_getIv (pc := 291) (k := 14) hC fc_19 fl_RX13_301 dX13_tick_291 rfl g32 (fun x33 hx33 => ?_)
      replace h := lt_x hx33 h
      refine x_aload_n (pc := 294) hC 0 dX13_tick_294 rfl rfl ?_
      refine x_getLv (pc := 295) (k := 19) hC fc_19 fl_RX13_292 dX13_tick_295 rfl g32 (fun x34 hx34 => ?_)
      replace h := lt_x hx34 h
      refine x_ldc2 (pc := 298) hC wm_2249 dX13_tick_298 ?_
      obtain ⟨g36, h⟩ := gd_some h
      refine x_ldivv (pc := 301) hC dX13_tick_301 g36 (fun x35 hx35 => ?_)
      replace h := lt_x hx35 h
      refine x_aload_n (pc := 302) hC 0 dX13_tick_302 rfl rfl ?_
      refine x_getRv (pc := 303) (k := 5) hC fc_19 fl_RX13_30 dX13_tick_303 rfl g32 (fun r37 hr37 => ?_)
      replace h := lt_x hr37 h
      refine x_aload_n (pc := 306) hC 0 dX13_tick_306 rfl rfl ?_
      refine x_getIv (pc := 307) (k := 9) hC fc_19 fl_RX13_295 dX13_tick_307 rfl g32 (fun x38 hx38 => ?_)
      replace h := lt_x hx38 h
      refine x_iconst (pc := 310) (v := (1 : Int32)) hC dX13_tick_310 (by decide) ?_
      refine x_isubv (pc := 311) hC dX13_tick_311 (fun x39 hx39 => ?_)
      replace h := lt_x hx39 h
      refine x_ldcw (pc := 312) hC wm_2250 dX13_tick_312 ?_
      obtain ⟨g41, h⟩ := gd_some h
      refine x_idivv (pc := 315) hC dX13_tick_315 g41 (fun x40 hx40 => ?_)
      replace h := lt_x hx40 h
      refine x_iconst (pc := 316) (v := (4 : Int32)) hC dX13_tick_316 (by decide) ?_
      obtain ⟨g43, h⟩ := gd_some h
      refine x_iremv (pc := 317) hC dX13_tick_317 g43 (fun x42 hx42 => ?_)
      replace h := lt_x hx42 h
      obtain ⟨g46, h⟩ := gd_some h
      obtain ⟨g45, h⟩ := gd_some h
      refine x_ialdv (pc := 318) hC dX13_tick_318 g46 g45 (fun x47 hx47 => ?_)
      replace h := lt_x hx47 h
      refine x_i2lv (pc := 319) hC dX13_tick_319 (fun x48 hx48 => ?_)
      replace h := lt_x hx48 h
      refine x_lcmpv (pc := 320) hC dX13_tick_320 (fun x49 hx49 => ?_)
      replace h := lt_x hx49 h
      refine x_if_le (pc := 321) hC 328 dX13_tick_321 (by decide) (fun c50 => ?_) (fun c50 => ?_)
      · rw [if_pos c50] at h
        refine x_iconst (pc := 328) (v := (0 : Int32)) hC dX13_tick_328 (by decide) ?_
        refine x_pick [0] rfl ?_
        exact t_X13_tick_329 hls hC hl hE h
      · rw [if_neg c50] at h
        refine x_iconst (pc := 324) (v := (1 : Int32)) hC dX13_tick_324 (by decide) ?_
        refine x_goto (pc := 325) hC 329 dX13_tick_325 (by decide) ?_
        refine x_pick [0] rfl ?_
        exact t_X13_tick_329 hls hC hl hE h
    · exact xk_r (xt_out hC hE (bk_r h) (Nat.le_of_ble_eq_true rfl) (Nat.le_of_ble_eq_true rfl))
  · rw [if_neg c51] at h
    exact x_vreturn (pc := 284) hC hE dX13_tick_284 (so h) (Nat.le_of_ble_eq_true rfl) (Nat.le_of_ble_eq_true rfl)
def f_X13_tick_213  (S : mS) (a0 : Nat) (a3 : Int32) (s0 : Nat) (s1 : Int32) (s2 : Int32) : Option (Rs Unit) :=
  lt9 (s1 + s2) fun x1 => gd (gK S s0 = 19) (zI (sI S s0 12 x1) fun S3 => gd (gK S3 a0 = 19) (lt9 (gI S3 a0 13) fun x6 => if a3 ≤ (1 : Int32) then (f_X13_tick_232  S3 a0 a0 x6 (0 : Int32)) else (f_X13_tick_232  S3 a0 a0 x6 (1 : Int32))))
set_option maxHeartbeats 2000000 in
set_option maxRecDepth 100000 in
theorem t_X13_tick_213 {l : Launch} (hls : l.stackTraces = false) {C : cT} (hC : CX C cX13_tick 8 yX13_tick rm_X13_tick) (hl : C.2.1 = l) {S0 : mS} (hE : CE C S0 (Option.none : Option Jvm.ClassFile.FieldType) []) {o : Rs Unit} {S : mS} {a0 : Nat} {a3 : Int32} {s0 : Nat} {s1 : Int32} {s2 : Int32} (h : f_X13_tick_213  S a0 a3 s0 s1 s2 = some o) : XX C 8 (QQ C (fun _ : Unit => none) S0 o) (5) (20) S 213 [(0, .ref a0), (3, .int a3)] [.int s2, .int s1, .ref s0] := by
  unfold f_X13_tick_213 at h
  refine x_iaddv (pc := 213) hC dX13_tick_213 (fun x1 hx1 => ?_)
  replace h := lt_x hx1 h
  obtain ⟨g2, h⟩ := gd_some h
  refine x_putIv (pc := 214) (k := 12) hC fc_19 fl_RX13_283 dX13_tick_214 rfl rfl (nf_int _) g2 (fun S3 hS3 => ?_)
  replace h := zI_x hS3 h
  have g4 : gK S3 s0 = 19 := by rw [hS3]; exact g2
  refine x_aload_n (pc := 217) hC 0 dX13_tick_217 rfl rfl ?_
  refine x_dup (pc := 218) hC dX13_tick_218 rfl ?_
  obtain ⟨g5, h⟩ := gd_some h
  refine x_getIv (pc := 219) (k := 13) hC fc_19 fl_RX13_286 dX13_tick_219 rfl g5 (fun x6 hx6 => ?_)
  replace h := lt_x hx6 h
  refine x_iload_n (pc := 222) hC 1 dX13_tick_222 rfl rfl ?_
  refine x_iconst (pc := 223) (v := (1 : Int32)) hC dX13_tick_223 (by decide) ?_
  refine x_icmp_le (pc := 224) hC 231 dX13_tick_224 (by decide) (fun c7 => ?_) (fun c7 => ?_)
  · rw [if_pos c7] at h
    refine x_iconst (pc := 231) (v := (0 : Int32)) hC dX13_tick_231 (by decide) ?_
    refine x_pick [0] rfl ?_
    exact t_X13_tick_232 hls hC hl hE h
  · rw [if_neg c7] at h
    refine x_iconst (pc := 227) (v := (1 : Int32)) hC dX13_tick_227 (by decide) ?_
    refine x_goto (pc := 228) hC 232 dX13_tick_228 (by decide) ?_
    refine x_pick [0] rfl ?_
    exact t_X13_tick_232 hls hC hl hE h
def f_X13_tick_194  (S : mS) (a0 : Nat) (a2 : Int32) (a3 : Int32) (s0 : Nat) (s1 : Int32) (s2 : Int32) : Option (Rs Unit) :=
  lt9 (s1 + s2) fun x1 => gd (gK S s0 = 19) (zI (sI S s0 11 x1) fun S3 => gd (gK S3 a0 = 19) (lt9 (gI S3 a0 12) fun x6 => if a2 ≤ (1 : Int32) then (f_X13_tick_213  S3 a0 a3 a0 x6 (0 : Int32)) else (f_X13_tick_213  S3 a0 a3 a0 x6 (1 : Int32))))
set_option maxHeartbeats 2000000 in
set_option maxRecDepth 100000 in
theorem t_X13_tick_194 {l : Launch} (hls : l.stackTraces = false) {C : cT} (hC : CX C cX13_tick 8 yX13_tick rm_X13_tick) (hl : C.2.1 = l) {S0 : mS} (hE : CE C S0 (Option.none : Option Jvm.ClassFile.FieldType) []) {o : Rs Unit} {S : mS} {a0 : Nat} {a2 : Int32} {a3 : Int32} {s0 : Nat} {s1 : Int32} {s2 : Int32} (h : f_X13_tick_194  S a0 a2 a3 s0 s1 s2 = some o) : XX C 8 (QQ C (fun _ : Unit => none) S0 o) (5) (20) S 194 [(0, .ref a0), (2, .int a2), (3, .int a3)] [.int s2, .int s1, .ref s0] := by
  unfold f_X13_tick_194 at h
  refine x_iaddv (pc := 194) hC dX13_tick_194 (fun x1 hx1 => ?_)
  replace h := lt_x hx1 h
  obtain ⟨g2, h⟩ := gd_some h
  refine x_putIv (pc := 195) (k := 11) hC fc_19 fl_RX13_280 dX13_tick_195 rfl rfl (nf_int _) g2 (fun S3 hS3 => ?_)
  replace h := zI_x hS3 h
  have g4 : gK S3 s0 = 19 := by rw [hS3]; exact g2
  refine x_aload_n (pc := 198) hC 0 dX13_tick_198 rfl rfl ?_
  refine x_dup (pc := 199) hC dX13_tick_199 rfl ?_
  obtain ⟨g5, h⟩ := gd_some h
  refine x_getIv (pc := 200) (k := 12) hC fc_19 fl_RX13_283 dX13_tick_200 rfl g5 (fun x6 hx6 => ?_)
  replace h := lt_x hx6 h
  refine x_iload_n (pc := 203) hC 1 dX13_tick_203 rfl rfl ?_
  refine x_iconst (pc := 204) (v := (1 : Int32)) hC dX13_tick_204 (by decide) ?_
  refine x_icmp_le (pc := 205) hC 212 dX13_tick_205 (by decide) (fun c7 => ?_) (fun c7 => ?_)
  · rw [if_pos c7] at h
    refine x_iconst (pc := 212) (v := (0 : Int32)) hC dX13_tick_212 (by decide) ?_
    refine x_pick [0, 2] rfl ?_
    exact t_X13_tick_213 hls hC hl hE h
  · rw [if_neg c7] at h
    refine x_iconst (pc := 208) (v := (1 : Int32)) hC dX13_tick_208 (by decide) ?_
    refine x_goto (pc := 209) hC 213 dX13_tick_209 (by decide) ?_
    refine x_pick [0, 2] rfl ?_
    exact t_X13_tick_213 hls hC hl hE h
def f_X13_tick_160 (rc51 : mS → Nat → Int32 → Int32 → Int32 → Nat → Int32 → Int32 → Option (Rs Unit)) (S : mS) (a0 : Nat) (a1 : Int32) (a2 : Int32) (a3 : Int32) (a4 : Nat) (a5 : Int32) (a6 : Int32) : Option (Rs Unit) :=
  lt9 (a6 + Int32.ofInt (1)) fun x1 => rc51 S a0 a1 a2 a3 a4 a5 x1
set_option maxHeartbeats 2000000 in
set_option maxRecDepth 100000 in
theorem t_X13_tick_160 {l : Launch} (hls : l.stackTraces = false) {C : cT} (hC : CX C cX13_tick 8 yX13_tick rm_X13_tick) (hl : C.2.1 = l) {S0 : mS} (hE : CE C S0 (Option.none : Option Jvm.ClassFile.FieldType) []) {o : Rs Unit} {cs51 sl51 : Nat} (hcs51 : cs51 ≤ 5) (hsl51 : sl51 ≤ 20) {rc51 : mS → Nat → Int32 → Int32 → Int32 → Nat → Int32 → Int32 → Option (Rs Unit)} (hrc51 : ∀ (S : mS) (a0 : Nat) (a1 : Int32) (a2 : Int32) (a3 : Int32) (a4 : Nat) (a5 : Int32) (a6 : Int32), rc51 S a0 a1 a2 a3 a4 a5 a6 = some o → XX C 8 (QQ C (fun _ : Unit => none) S0 o) (cs51 + 1) (sl51 + 4) S 51 [(0, .ref a0), (1, .int a1), (2, .int a2), (3, .int a3), (4, .ref a4), (5, .int a5), (6, .int a6)] []) {S : mS} {a0 : Nat} {a1 : Int32} {a2 : Int32} {a3 : Int32} {a4 : Nat} {a5 : Int32} {a6 : Int32} (h : f_X13_tick_160 rc51 S a0 a1 a2 a3 a4 a5 a6 = some o) : XX C 8 (QQ C (fun _ : Unit => none) S0 o) (cs51 + 1) (sl51 + 4) S 160 [(0, .ref a0), (1, .int a1), (2, .int a2), (3, .int a3), (4, .ref a4), (5, .int a5), (6, .int a6)] [] := by
  unfold f_X13_tick_160 at h
  obtain ⟨x1, hx1⟩ : ∃ z, z = (a6 + Int32.ofInt (1)) := ⟨_, rfl⟩
  replace h := lt_x hx1 h
  refine x_iinc (pc := 160) hC 6 dX13_tick_160 rfl hx1.symm (by decide) (by decide) rfl ?_
  refine x_goto (pc := 163) hC 51 dX13_tick_163 (by decide) ?_
  refine x_pick [1, 2, 3, 4, 5, 6, 0] rfl ?_
  refine x_widen (ce' := cs51 + 1) (sl' := sl51 + 4) (by omega) (by omega) ?_
  exact hrc51 _ _ _ _ _ _ _ _ h
def f_X13_tick_144 (rc51 : mS → Nat → Int32 → Int32 → Int32 → Nat → Int32 → Int32 → Option (Rs Unit)) (S : mS) (a0 : Nat) (a1 : Int32) (a2 : Int32) (a4 : Nat) (a5 : Int32) (a6 : Int32) (a7 : Nat) (s0 : Int32) (s1 : Int32) : Option (Rs Unit) :=
  lt9 (s0 + s1) fun x1 => gd (gK S a7 = 17) (lt9 (gR S a7 0) fun r3 => gd (gK S r3 = 18) (lt9 (gL S r3 9) fun x5 => lt9 (x5 + (1 : Int64)) fun x6 => zL (sL S r3 9 x6) fun S7 => f_X13_tick_160 (rc51) S7 a0 a1 a2 x1 a4 a5 a6))
set_option maxHeartbeats 2000000 in
set_option maxRecDepth 100000 in
theorem t_X13_tick_144 {l : Launch} (hls : l.stackTraces = false) {C : cT} (hC : CX C cX13_tick 8 yX13_tick rm_X13_tick) (hl : C.2.1 = l) {S0 : mS} (hE : CE C S0 (Option.none : Option Jvm.ClassFile.FieldType) []) {o : Rs Unit} {cs51 sl51 : Nat} (hcs51 : cs51 ≤ 5) (hsl51 : sl51 ≤ 20) {rc51 : mS → Nat → Int32 → Int32 → Int32 → Nat → Int32 → Int32 → Option (Rs Unit)} (hrc51 : ∀ (S : mS) (a0 : Nat) (a1 : Int32) (a2 : Int32) (a3 : Int32) (a4 : Nat) (a5 : Int32) (a6 : Int32), rc51 S a0 a1 a2 a3 a4 a5 a6 = some o → XX C 8 (QQ C (fun _ : Unit => none) S0 o) (cs51 + 1) (sl51 + 4) S 51 [(0, .ref a0), (1, .int a1), (2, .int a2), (3, .int a3), (4, .ref a4), (5, .int a5), (6, .int a6)] []) {S : mS} {a0 : Nat} {a1 : Int32} {a2 : Int32} {a4 : Nat} {a5 : Int32} {a6 : Int32} {a7 : Nat} {s0 : Int32} {s1 : Int32} (h : f_X13_tick_144 rc51 S a0 a1 a2 a4 a5 a6 a7 s0 s1 = some o) : XX C 8 (QQ C (fun _ : Unit => none) S0 o) (cs51 + 1) (sl51 + 4) S 144 [(0, .ref a0), (1, .int a1), (2, .int a2), (4, .ref a4), (5, .int a5), (6, .int a6), (7, .ref a7)] [.int s1, .int s0] := by
  unfold f_X13_tick_144 at h
  refine x_iaddv (pc := 144) hC dX13_tick_144 (fun x1 hx1 => ?_)
  replace h := lt_x hx1 h
  refine x_istore_n (pc := 145) hC dX13_tick_145 rfl (by decide) (by decide) rfl ?_
  refine x_aload (pc := 146) hC 7 dX13_tick_146 rfl ?_
  obtain ⟨g2, h⟩ := gd_some h
  refine x_getRv (pc := 148) (k := 0) hC fc_17 fl_RX13_60 dX13_tick_148 rfl g2 (fun r3 hr3 => ?_)
  replace h := lt_x hr3 h
  refine x_dup (pc := 151) hC dX13_tick_151 rfl ?_
  obtain ⟨g4, h⟩ := gd_some h
  refine x_getLv (pc := 152) (k := 9) hC fc_18 fl_RX13_275 dX13_tick_152 rfl g4 (fun x5 hx5 => ?_)
  replace h := lt_x hx5 h
  refine x_lconst (pc := 155) (v := (1 : Int64)) hC dX13_tick_155 (by decide) ?_
  refine x_laddv (pc := 156) hC dX13_tick_156 (fun x6 hx6 => ?_)
  replace h := lt_x hx6 h
  refine x_putLv (pc := 157) (k := 9) hC fc_18 fl_RX13_275 dX13_tick_157 rfl rfl rfl g4 (fun S7 hS7 => ?_)
  replace h := zL_x hS7 h
  have g8 : gK S7 a7 = 17 := by rw [hS7]; exact g2
  have g9 : gK S7 r3 = 18 := by rw [hS7]; exact g4
  refine x_pick [1, 2, 3, 0, 4, 5, 6] rfl ?_
  exact t_X13_tick_160 hls hC hl hE (by omega) (by omega) hrc51 h
def f_X13_tick_143 (rc51 : mS → Nat → Int32 → Int32 → Int32 → Nat → Int32 → Int32 → Option (Rs Unit)) (S : mS) (a0 : Nat) (a1 : Int32) (a2 : Int32) (a4 : Nat) (a5 : Int32) (a6 : Int32) (a7 : Nat) (s0 : Int32) : Option (Rs Unit) :=
  f_X13_tick_144 (rc51) S a0 a1 a2 a4 a5 a6 a7 s0 (0 : Int32)
set_option maxHeartbeats 2000000 in
set_option maxRecDepth 100000 in
theorem t_X13_tick_143 {l : Launch} (hls : l.stackTraces = false) {C : cT} (hC : CX C cX13_tick 8 yX13_tick rm_X13_tick) (hl : C.2.1 = l) {S0 : mS} (hE : CE C S0 (Option.none : Option Jvm.ClassFile.FieldType) []) {o : Rs Unit} {cs51 sl51 : Nat} (hcs51 : cs51 ≤ 5) (hsl51 : sl51 ≤ 20) {rc51 : mS → Nat → Int32 → Int32 → Int32 → Nat → Int32 → Int32 → Option (Rs Unit)} (hrc51 : ∀ (S : mS) (a0 : Nat) (a1 : Int32) (a2 : Int32) (a3 : Int32) (a4 : Nat) (a5 : Int32) (a6 : Int32), rc51 S a0 a1 a2 a3 a4 a5 a6 = some o → XX C 8 (QQ C (fun _ : Unit => none) S0 o) (cs51 + 1) (sl51 + 4) S 51 [(0, .ref a0), (1, .int a1), (2, .int a2), (3, .int a3), (4, .ref a4), (5, .int a5), (6, .int a6)] []) {S : mS} {a0 : Nat} {a1 : Int32} {a2 : Int32} {a4 : Nat} {a5 : Int32} {a6 : Int32} {a7 : Nat} {s0 : Int32} (h : f_X13_tick_143 rc51 S a0 a1 a2 a4 a5 a6 a7 s0 = some o) : XX C 8 (QQ C (fun _ : Unit => none) S0 o) (cs51 + 1) (sl51 + 4) S 143 [(0, .ref a0), (1, .int a1), (2, .int a2), (4, .ref a4), (5, .int a5), (6, .int a6), (7, .ref a7)] [.int s0] := by
  unfold f_X13_tick_143 at h
  refine x_iconst (pc := 143) (v := (0 : Int32)) hC dX13_tick_143 (by decide) ?_
  refine x_pick [0, 1, 2, 3, 4, 5, 6] rfl ?_
  exact t_X13_tick_144 hls hC hl hE (by omega) (by omega) hrc51 h
def f_X13_tick_108 (rc51 : mS → Nat → Int32 → Int32 → Int32 → Nat → Int32 → Int32 → Option (Rs Unit)) (S : mS) (a0 : Nat) (a1 : Int32) (a3 : Int32) (a4 : Nat) (a5 : Int32) (a6 : Int32) (a7 : Nat) (s0 : Int32) (s1 : Int32) : Option (Rs Unit) :=
  lt9 (s0 + s1) fun x1 => gd (gK S a7 = 17) (lt9 (gR S a7 0) fun r3 => gd (gK S r3 = 18) (lt9 (gI S r3 5) fun x5 => bd (f_X11_has S a7 x5) fun x6 S7 => if x6 = 0 then (gd (gK S7 a7 = 17) (lt9 (gR S7 a7 6) fun r11 => gd (gK S7 r11 = 30) (gd (¬ ((0 : Int32) < 0 ∨ gZ S7 r11 ≤ ((0 : Int32)).toNatClampNeg)) (lt9 (gI S7 r11 ((0 : Int32)).toNatClampNeg) fun x15 => if x15 < (50 : Int32) then (f_X13_tick_143 (rc51) S7 a0 a1 x1 a4 a5 a6 a7 a3) else (f_X13_tick_144 (rc51) S7 a0 a1 x1 a4 a5 a6 a7 a3 (1 : Int32)))))) else (f_X13_tick_143 (rc51) S7 a0 a1 x1 a4 a5 a6 a7 a3)))
set_option maxHeartbeats 2000000 in
set_option maxRecDepth 100000 in
theorem t_X13_tick_108 {l : Launch} (hls : l.stackTraces = false) {C : cT} (hC : CX C cX13_tick 8 yX13_tick rm_X13_tick) (hl : C.2.1 = l) {S0 : mS} (hE : CE C S0 (Option.none : Option Jvm.ClassFile.FieldType) []) {o : Rs Unit} {cs51 sl51 : Nat} (hcs51 : cs51 ≤ 5) (hsl51 : sl51 ≤ 20) {rc51 : mS → Nat → Int32 → Int32 → Int32 → Nat → Int32 → Int32 → Option (Rs Unit)} (hrc51 : ∀ (S : mS) (a0 : Nat) (a1 : Int32) (a2 : Int32) (a3 : Int32) (a4 : Nat) (a5 : Int32) (a6 : Int32), rc51 S a0 a1 a2 a3 a4 a5 a6 = some o → XX C 8 (QQ C (fun _ : Unit => none) S0 o) (cs51 + 1) (sl51 + 4) S 51 [(0, .ref a0), (1, .int a1), (2, .int a2), (3, .int a3), (4, .ref a4), (5, .int a5), (6, .int a6)] []) {S : mS} {a0 : Nat} {a1 : Int32} {a3 : Int32} {a4 : Nat} {a5 : Int32} {a6 : Int32} {a7 : Nat} {s0 : Int32} {s1 : Int32} (h : f_X13_tick_108 rc51 S a0 a1 a3 a4 a5 a6 a7 s0 s1 = some o) : XX C 8 (QQ C (fun _ : Unit => none) S0 o) (cs51 + 1) (sl51 + 4) S 108 [(0, .ref a0), (1, .int a1), (3, .int a3), (4, .ref a4), (5, .int a5), (6, .int a6), (7, .ref a7)] [.int s1, .int s0] := by
  unfold f_X13_tick_108 at h
  refine x_iaddv (pc := 108) hC dX13_tick_108 (fun x1 hx1 => ?_)
  replace h := lt_x hx1 h
  refine x_istore_n (pc := 109) hC dX13_tick_109 rfl (by decide) (by decide) rfl ?_
  refine x_iload_n (pc := 110) hC 3 dX13_tick_110 rfl rfl ?_
  refine x_aload (pc := 111) hC 7 dX13_tick_111 rfl ?_
  refine x_aload (pc := 113) hC 7 dX13_tick_113 rfl ?_
  obtain ⟨g2, h⟩ := gd_some h
  refine x_getRv (pc := 115) (k := 0) hC fc_17 fl_RX13_60 dX13_tick_115 rfl g2 (fun r3 hr3 => ?_)
  replace h := lt_x hr3 h
  obtain ⟨g4, h⟩ := gd_some h
  refine x_getIv (pc := 118) (k := 5) hC fc_18 fl_RX13_272 dX13_tick_118 rfl g4 (fun x5 hx5 => ?_)
  replace h := lt_x hx5 h
  obtain ⟨o8, ho8, h⟩ := bd_some h
  refine x_callV (pc := 121) (As := [.int x5]) (rest := [.int a3]) hC hl (c_X11_has l hls ho8) lk_RX13_269 fc_17 g2 dX13_tick_121 rfl rfl (Nat.le_of_ble_eq_true rfl) ⟨Nat.le_of_ble_eq_true rfl, Nat.le_of_ble_eq_true rfl⟩ ⟨(show cs51 + 1 ≤ (10 : Nat) from by omega), (show sl51 + 4 ≤ (40 : Nat) from by omega)⟩ ?_
  rcases o8 with ⟨x6 | E9, S7⟩
  · refine xk_i ?_
    replace h := bk_l h
    refine x_widen (ce' := cs51 + 1) (sl' := sl51 + 4) (Nat.le_refl _) (Nat.le_refl _) ?_
    refine x_if_ne (pc := 124) hC 143 dX13_tick_124 (by decide) (fun c17 => ?_) (fun c17 => ?_)
    · rw [if_neg c17] at h
      refine x_pick [1, 2, 0, 4, 5, 6, 7] rfl ?_
      exact t_X13_tick_143 hls hC hl hE (by omega) (by omega) hrc51 h
    · rw [if_pos c17] at h
      refine x_aload (pc := 127) hC 7 dX13_tick_127 rfl ?_
      obtain ⟨g10, h⟩ := gd_some h
      refine x_getRv (pc := 129) (k := 6) hC fc_17 fl_RX13_202 dX13_tick_129 rfl g10 (fun r11 hr11 => ?_)
      replace h := lt_x hr11 h
      refine x_iconst (pc := 132) (v := (0 : Int32)) hC dX13_tick_132 (by decide) ?_
      obtain ⟨g14, h⟩ := gd_some h
      obtain ⟨g13, h⟩ := gd_some h
      refine x_ialdv (pc := 133) hC dX13_tick_133 g14 g13 (fun x15 hx15 => ?_)
      replace h := lt_x hx15 h
      refine x_bipush (pc := 134) (v := (50 : Int32)) hC dX13_tick_134 (by decide) ?_
      refine x_icmp_lt (pc := 136) hC 143 dX13_tick_136 (by decide) (fun c16 => ?_) (fun c16 => ?_)
      · rw [if_pos c16] at h
        refine x_pick [1, 2, 0, 4, 5, 6, 7] rfl ?_
        exact t_X13_tick_143 hls hC hl hE (by omega) (by omega) hrc51 h
      · rw [if_neg c16] at h
        refine x_iconst (pc := 139) (v := (1 : Int32)) hC dX13_tick_139 (by decide) ?_
        refine x_goto (pc := 140) hC 144 dX13_tick_140 (by decide) ?_
        refine x_pick [1, 2, 0, 4, 5, 6, 7] rfl ?_
        exact t_X13_tick_144 hls hC hl hE (by omega) (by omega) hrc51 h
  · exact xk_r (xt_out hC hE (bk_r h) (show cs51 + 1 ≤ (10 : Nat) from by omega) (show sl51 + 4 ≤ (40 : Nat) from by omega))
def f_X13_tick_51  : Nat → mS → Nat → Int32 → Int32 → Int32 → Nat → Int32 → Int32 → Option (Rs Unit)
  | 0, _, _, _, _, _, _, _, _ => none
  | k + 1, S, a0, a1, a2, a3, a4, a5, a6 => if a5 ≤ a6 then (lt9 (if a1 < (2000 : Int32) then a1 else (2000 : Int32)) fun x1 => gd (gK S a0 = 19) (zI (sI S a0 10 x1) fun S3 => lt9 (gI S3 a0 11) fun x5 => lt9 (gI S3 a0 10) fun x6 => if x6 = 0 then (f_X13_tick_194  S3 a0 a2 a3 a0 x5 (1 : Int32)) else (f_X13_tick_194  S3 a0 a2 a3 a0 x5 (0 : Int32)))) else (gd (gK S a4 = 37) (gd (¬ (a6 < 0 ∨ gZ S a4 ≤ (a6).toNatClampNeg)) (lt9 (gR S a4 (a6).toNatClampNeg) fun r11 => gd (gK S a0 = 19) (bd (f_X13_sounds S a0 r11) fun x13 S14 => lt9 (a1 + x13) fun x17 => gd (gK S14 a0 = 19) (bd (f_X13_isHeard S14 a0 r11) fun x19 S20 => if x19 = 0 then (f_X13_tick_160 (f_X13_tick_51 k) S20 a0 x17 a2 a3 a4 a5 a6) else (gd (gK S20 r11 = 17) (lt9 (gR S20 r11 0) fun r24 => gd (gK S20 r24 = 18) (lt9 (gI S20 r24 4) fun x26 => bd (f_X11_has S20 r11 x26) fun x27 S28 => if x27 = 0 then (f_X13_tick_108 (f_X13_tick_51 k) S28 a0 x17 a3 a4 a5 a6 r11 a2 (0 : Int32)) else (f_X13_tick_108 (f_X13_tick_51 k) S28 a0 x17 a3 a4 a5 a6 r11 a2 (1 : Int32))))))))))
set_option maxHeartbeats 2000000 in
set_option maxRecDepth 100000 in
theorem t_X13_tick_51 {l : Launch} (hls : l.stackTraces = false) {C : cT} (hC : CX C cX13_tick 8 yX13_tick rm_X13_tick) (hl : C.2.1 = l) {S0 : mS} (hE : CE C S0 (Option.none : Option Jvm.ClassFile.FieldType) []) {o : Rs Unit} : ∀ (k cs51 sl51 : Nat) (S : mS) (a0 : Nat) (a1 : Int32) (a2 : Int32) (a3 : Int32) (a4 : Nat) (a5 : Int32) (a6 : Int32), cs51 + k * 1 ≤ 5 → sl51 + k * 4 ≤ 20 → f_X13_tick_51  k S a0 a1 a2 a3 a4 a5 a6 = some o → XX C 8 (QQ C (fun _ : Unit => none) S0 o) cs51 sl51 S 51 [(0, .ref a0), (1, .int a1), (2, .int a2), (3, .int a3), (4, .ref a4), (5, .int a5), (6, .int a6)] [] := by
  intro k
  induction k with
  | zero => intro cs51 sl51 S a0 a1 a2 a3 a4 a5 a6 hcs51 hsl51 h; cases h
  | succ k ih =>
    intro cs51 sl51 S a0 a1 a2 a3 a4 a5 a6 hcs51 hsl51 h
    unfold f_X13_tick_51 at h
    refine x_iload (pc := 51) hC 6 dX13_tick_51 rfl ?_
    refine x_iload (pc := 53) hC 5 dX13_tick_53 rfl ?_
    refine x_icmp_ge (pc := 55) hC 166 dX13_tick_55 (by decide) (fun c33 => ?_) (fun c33 => ?_)
    · rw [if_pos c33] at h
      refine x_aload_n (pc := 166) hC 0 dX13_tick_166 rfl rfl ?_
      refine x_sipush (pc := 167) (v := (2000 : Int32)) hC dX13_tick_167 (by decide) ?_
      refine x_iload_n (pc := 170) hC 1 dX13_tick_170 rfl rfl ?_
      refine x_mmin (pc := 171) hC wm_1898 wm_598 wm_69 wm_599 dX13_tick_171 (Nat.le_of_ble_eq_true rfl) (Nat.le_of_ble_eq_true rfl) (show cs51 ≤ (10 : Nat) from by omega) (show sl51 ≤ (40 : Nat) from by omega) (fun x1 hx1 => ?_)
      replace h := lt_x hx1 h
      obtain ⟨g2, h⟩ := gd_some h
      refine x_putIv (pc := 174) (k := 10) hC fc_19 fl_RX13_278 dX13_tick_174 rfl rfl (nf_int _) g2 (fun S3 hS3 => ?_)
      replace h := zI_x hS3 h
      have g4 : gK S3 a0 = 19 := by rw [hS3]; exact g2
      refine x_aload_n (pc := 177) hC 0 dX13_tick_177 rfl rfl ?_
      refine x_dup (pc := 178) hC dX13_tick_178 rfl ?_
      refine x_getIv (pc := 179) (k := 11) hC fc_19 fl_RX13_280 dX13_tick_179 rfl g4 (fun x5 hx5 => ?_)
      replace h := lt_x hx5 h
      refine x_aload_n (pc := 182) hC 0 dX13_tick_182 rfl rfl ?_
      refine x_getIv (pc := 183) (k := 10) hC fc_19 fl_RX13_278 dX13_tick_183 rfl g4 (fun x6 hx6 => ?_)
      replace h := lt_x hx6 h
      refine x_if_ne (pc := 186) hC 193 dX13_tick_186 (by decide) (fun c7 => ?_) (fun c7 => ?_)
      · rw [if_neg c7] at h
        refine x_iconst (pc := 193) (v := (0 : Int32)) hC dX13_tick_193 (by decide) ?_
        refine x_pick [0, 2, 3] rfl ?_
        refine x_widen (ce' := 5) (sl' := 20) (by omega) (by omega) ?_
        exact t_X13_tick_194 hls hC hl hE h
      · rw [if_pos c7] at h
        refine x_iconst (pc := 189) (v := (1 : Int32)) hC dX13_tick_189 (by decide) ?_
        refine x_goto (pc := 190) hC 194 dX13_tick_190 (by decide) ?_
        refine x_pick [0, 2, 3] rfl ?_
        refine x_widen (ce' := 5) (sl' := 20) (by omega) (by omega) ?_
        exact t_X13_tick_194 hls hC hl hE h
    · rw [if_neg c33] at h
      refine x_aload (pc := 58) hC 4 dX13_tick_58 rfl ?_
      refine x_iload (pc := 60) hC 6 dX13_tick_60 rfl ?_
      obtain ⟨g10, h⟩ := gd_some h
      obtain ⟨g9, h⟩ := gd_some h
      refine x_raldv (pc := 62) (t0 := 7) hC dX13_tick_62 g10 (by decide) (fun _ => rfl) g9 (fun r11 hr11 => ?_)
      replace h := lt_x hr11 h
      refine x_astore (pc := 63) hC dX13_tick_63 (by decide) (by decide) rfl ?_
      refine x_iload_n (pc := 65) hC 2 dX13_tick_65 rfl rfl ?_
      refine x_aload_n (pc := 66) hC 1 dX13_tick_66 rfl rfl ?_
      refine x_aload (pc := 67) hC 0 dX13_tick_67 rfl ?_
      obtain ⟨g12, h⟩ := gd_some h
      obtain ⟨o15, ho15, h⟩ := bd_some h
      refine x_callV (pc := 69) (As := [.ref r11]) (rest := [.int a1]) hC hl (c_X13_sounds l hls ho15) lk_RX13_263 fc_19 g12 dX13_tick_69 rfl rfl (Nat.le_of_ble_eq_true rfl) ⟨Nat.le_of_ble_eq_true rfl, Nat.le_of_ble_eq_true rfl⟩ ⟨(show cs51 + 1 ≤ (10 : Nat) from by omega), (show sl51 + 4 ≤ (40 : Nat) from by omega)⟩ ?_
      rcases o15 with ⟨x13 | E16, S14⟩
      · refine xk_i ?_
        replace h := bk_l h
        refine x_widen (ce' := cs51 + 1) (sl' := sl51 + 4) (Nat.le_refl _) (Nat.le_refl _) ?_
        refine x_iaddv (pc := 72) hC dX13_tick_72 (fun x17 hx17 => ?_)
        replace h := lt_x hx17 h
        refine x_istore_n (pc := 73) hC dX13_tick_73 rfl (by decide) (by decide) rfl ?_
        refine x_aload_n (pc := 74) hC 2 dX13_tick_74 rfl rfl ?_
        refine x_aload (pc := 75) hC 1 dX13_tick_75 rfl ?_
        obtain ⟨g18, h⟩ := gd_some h
        obtain ⟨o21, ho21, h⟩ := bd_some h
        refine x_callV (pc := 77) (As := [.ref r11]) (rest := []) hC hl (c_X13_isHeard l hls ho21) lk_RX13_256 fc_19 g18 dX13_tick_77 rfl rfl (Nat.le_of_ble_eq_true rfl) ⟨Nat.le_of_ble_eq_true rfl, Nat.le_of_ble_eq_true rfl⟩ ⟨(show cs51 + 1 ≤ (10 : Nat) from by omega), (show sl51 + 4 ≤ (40 : Nat) from by omega)⟩ ?_
        rcases o21 with ⟨x19 | E22, S20⟩
        · refine xk_i ?_
          replace h := bk_l h
          refine x_widen (ce' := cs51 + 1) (sl' := sl51 + 4) (Nat.le_refl _) (Nat.le_refl _) ?_
          refine x_if_ne (pc := 80) hC 86 dX13_tick_80 (by decide) (fun c32 => ?_) (fun c32 => ?_)
          · rw [if_neg c32] at h
            refine x_iload_n (pc := 86) hC 3 dX13_tick_86 rfl rfl ?_
            refine x_aload (pc := 87) hC 1 dX13_tick_87 rfl ?_
            refine x_aload (pc := 89) hC 1 dX13_tick_89 rfl ?_
            obtain ⟨g23, h⟩ := gd_some h
            refine x_getRv (pc := 91) (k := 0) hC fc_17 fl_RX13_60 dX13_tick_91 rfl g23 (fun r24 hr24 => ?_)
            replace h := lt_x hr24 h
            obtain ⟨g25, h⟩ := gd_some h
            refine x_getIv (pc := 94) (k := 4) hC fc_18 fl_RX13_266 dX13_tick_94 rfl g25 (fun x26 hx26 => ?_)
            replace h := lt_x hx26 h
            obtain ⟨o29, ho29, h⟩ := bd_some h
            refine x_callV (pc := 97) (As := [.int x26]) (rest := [.int a2]) hC hl (c_X11_has l hls ho29) lk_RX13_269 fc_17 g23 dX13_tick_97 rfl rfl (Nat.le_of_ble_eq_true rfl) ⟨Nat.le_of_ble_eq_true rfl, Nat.le_of_ble_eq_true rfl⟩ ⟨(show cs51 + 1 ≤ (10 : Nat) from by omega), (show sl51 + 4 ≤ (40 : Nat) from by omega)⟩ ?_
            rcases o29 with ⟨x27 | E30, S28⟩
            · refine xk_i ?_
              replace h := bk_l h
              refine x_widen (ce' := cs51 + 1) (sl' := sl51 + 4) (Nat.le_refl _) (Nat.le_refl _) ?_
              refine x_if_eq (pc := 100) hC 107 dX13_tick_100 (by decide) (fun c31 => ?_) (fun c31 => ?_)
              · rw [if_pos c31] at h
                refine x_iconst (pc := 107) (v := (0 : Int32)) hC dX13_tick_107 (by decide) ?_
                refine x_pick [2, 0, 4, 5, 6, 7, 1] rfl ?_
                exact t_X13_tick_108 hls hC hl hE (by omega) (by omega) (fun z0 z1 z2 z3 z4 z5 z6 z7 hz => ih (cs51 + 1) (sl51 + 4) z0 z1 z2 z3 z4 z5 z6 z7 (by omega) (by omega) hz) h
              · rw [if_neg c31] at h
                refine x_iconst (pc := 103) (v := (1 : Int32)) hC dX13_tick_103 (by decide) ?_
                refine x_goto (pc := 104) hC 108 dX13_tick_104 (by decide) ?_
                refine x_pick [2, 0, 4, 5, 6, 7, 1] rfl ?_
                exact t_X13_tick_108 hls hC hl hE (by omega) (by omega) (fun z0 z1 z2 z3 z4 z5 z6 z7 hz => ih (cs51 + 1) (sl51 + 4) z0 z1 z2 z3 z4 z5 z6 z7 (by omega) (by omega) hz) h
            · exact xk_r (xt_out hC hE (bk_r h) (show cs51 + 1 ≤ (10 : Nat) from by omega) (show sl51 + 4 ≤ (40 : Nat) from by omega))
          · rw [if_pos c32] at h
            refine x_goto (pc := 83) hC 160 dX13_tick_83 (by decide) ?_
            refine x_pick [2, 0, 3, 4, 5, 6, 7] rfl ?_
            exact t_X13_tick_160 hls hC hl hE (by omega) (by omega) (fun z0 z1 z2 z3 z4 z5 z6 z7 hz => ih (cs51 + 1) (sl51 + 4) z0 z1 z2 z3 z4 z5 z6 z7 (by omega) (by omega) hz) h
        · exact xk_r (xt_out hC hE (bk_r h) (show cs51 + 1 ≤ (10 : Nat) from by omega) (show sl51 + 4 ≤ (40 : Nat) from by omega))
      · exact xk_r (xt_out hC hE (bk_r h) (show cs51 + 1 ≤ (10 : Nat) from by omega) (show sl51 + 4 ≤ (40 : Nat) from by omega))
def f_X13_tick_10  : Nat → mS → Nat → Nat → Int32 → Int32 → Option (Rs Unit)
  | 0, _, _, _, _, _ => none
  | k + 1, S, a0, a1, a2, a3 => if a2 ≤ a3 then (gd (gK S a0 = 19) (lt9 (gR S a0 2) fun r2 => gd (gK S r2 = 37) (lt9 (Int32.ofNat (gZ S r2)) fun x4 => f_X13_tick_51  5 S a0 (0 : Int32) (0 : Int32) (0 : Int32) r2 x4 (0 : Int32)))) else (gd (gK S a1 = 37) (gd (¬ (a3 < 0 ∨ gZ S a1 ≤ (a3).toNatClampNeg)) (lt9 (gR S a1 (a3).toNatClampNeg) fun r8 => gd (gK S r8 = 17) (bd (f_X11_goesOn S r8) fun _ S11 => lt9 (a3 + Int32.ofInt (1)) fun x14 => f_X13_tick_10 k S11 a0 a1 a2 x14))))
set_option maxHeartbeats 2000000 in
set_option maxRecDepth 100000 in
theorem t_X13_tick_10 {l : Launch} (hls : l.stackTraces = false) {C : cT} (hC : CX C cX13_tick 8 yX13_tick rm_X13_tick) (hl : C.2.1 = l) {S0 : mS} (hE : CE C S0 (Option.none : Option Jvm.ClassFile.FieldType) []) {o : Rs Unit} : ∀ (k : Nat) (S : mS) (a0 : Nat) (a1 : Nat) (a2 : Int32) (a3 : Int32), f_X13_tick_10  k S a0 a1 a2 a3 = some o → XX C 8 (QQ C (fun _ : Unit => none) S0 o) (0) (0) S 10 [(0, .ref a0), (1, .ref a1), (2, .int a2), (3, .int a3)] [] := by
  intro k
  induction k with
  | zero => intro S a0 a1 a2 a3 h; cases h
  | succ k ih =>
    intro S a0 a1 a2 a3 h
    unfold f_X13_tick_10 at h
    refine x_iload_n (pc := 10) hC 3 dX13_tick_10 rfl rfl ?_
    refine x_iload_n (pc := 11) hC 2 dX13_tick_11 rfl rfl ?_
    refine x_icmp_ge (pc := 12) hC 31 dX13_tick_12 (by decide) (fun c15 => ?_) (fun c15 => ?_)
    · rw [if_pos c15] at h
      refine x_iconst (pc := 31) (v := (0 : Int32)) hC dX13_tick_31 (by decide) ?_
      refine x_istore_n (pc := 32) hC dX13_tick_32 rfl (by decide) (by decide) rfl ?_
      refine x_iconst (pc := 33) (v := (0 : Int32)) hC dX13_tick_33 (by decide) ?_
      refine x_istore_n (pc := 34) hC dX13_tick_34 rfl (by decide) (by decide) rfl ?_
      refine x_iconst (pc := 35) (v := (0 : Int32)) hC dX13_tick_35 (by decide) ?_
      refine x_istore_n (pc := 36) hC dX13_tick_36 rfl (by decide) (by decide) rfl ?_
      refine x_aload_n (pc := 37) hC 3 dX13_tick_37 rfl rfl ?_
      obtain ⟨g1, h⟩ := gd_some h
      refine x_getRv (pc := 38) (k := 2) hC fc_19 fl_RX13_19 dX13_tick_38 rfl g1 (fun r2 hr2 => ?_)
      replace h := lt_x hr2 h
      refine x_astore (pc := 41) hC dX13_tick_41 (by decide) (by decide) rfl ?_
      refine x_aload (pc := 43) hC 0 dX13_tick_43 rfl ?_
      obtain ⟨g3, h⟩ := gd_some h
      refine x_alenv (pc := 45) (t0 := 7) hC dX13_tick_45 g3 (by decide) (fun _ => rfl) (fun x4 hx4 => ?_)
      replace h := lt_x hx4 h
      refine x_istore (pc := 46) hC dX13_tick_46 (by decide) (by decide) rfl ?_
      refine x_iconst (pc := 48) (v := (0 : Int32)) hC dX13_tick_48 (by decide) ?_
      refine x_istore (pc := 49) hC dX13_tick_49 (by decide) (by decide) rfl ?_
      refine x_pick [6, 5, 4, 3, 2, 1, 0] rfl ?_
      refine x_widen (ce' := 0) (sl' := 0) (Nat.le_of_ble_eq_true rfl) (Nat.le_of_ble_eq_true rfl) ?_
      exact t_X13_tick_51 hls hC hl hE 5 _ _ _ _ _ _ _ _ _ _ (by omega) (by omega) h
    · rw [if_neg c15] at h
      refine x_aload_n (pc := 15) hC 1 dX13_tick_15 rfl rfl ?_
      refine x_iload_n (pc := 16) hC 3 dX13_tick_16 rfl rfl ?_
      obtain ⟨g7, h⟩ := gd_some h
      obtain ⟨g6, h⟩ := gd_some h
      refine x_raldv (pc := 17) (t0 := 7) hC dX13_tick_17 g7 (by decide) (fun _ => rfl) g6 (fun r8 hr8 => ?_)
      replace h := lt_x hr8 h
      refine x_astore (pc := 18) hC dX13_tick_18 (by decide) (by decide) rfl ?_
      refine x_aload (pc := 20) hC 0 dX13_tick_20 rfl ?_
      obtain ⟨g9, h⟩ := gd_some h
      obtain ⟨o12, ho12, h⟩ := bd_some h
      refine x_callV (pc := 22) (As := []) (rest := []) hC hl (c_X11_goesOn l hls ho12) lk_RX13_260 fc_17 g9 dX13_tick_22 rfl rfl (Nat.le_of_ble_eq_true rfl) ⟨Nat.le_of_ble_eq_true rfl, Nat.le_of_ble_eq_true rfl⟩ ⟨(Nat.le_of_ble_eq_true rfl), (Nat.le_of_ble_eq_true rfl)⟩ ?_
      rcases o12 with ⟨_ | E13, S11⟩
      · refine xk_v ?_
        replace h := bk_l h
        obtain ⟨x14, hx14⟩ : ∃ z, z = (a3 + Int32.ofInt (1)) := ⟨_, rfl⟩
        replace h := lt_x hx14 h
        refine x_iinc (pc := 25) hC 4 dX13_tick_25 rfl hx14.symm (by decide) (by decide) rfl ?_
        refine x_goto (pc := 28) hC 10 dX13_tick_28 (by decide) ?_
        refine x_pick [2, 3, 4, 0] rfl ?_
        exact ih _ _ _ _ _ h
      · exact xk_r (xt_out hC hE (bk_r h) (Nat.le_of_ble_eq_true rfl) (Nat.le_of_ble_eq_true rfl))
def f_X13_tick (S : mS) (a0 : Nat) : Option (Rs Unit) :=
  gd (gK S a0 = 19) (lt9 (gR S a0 2) fun r2 => gd (gK S r2 = 37) (lt9 (Int32.ofNat (gZ S r2)) fun x4 => f_X13_tick_10  5 S a0 r2 x4 (0 : Int32)))
set_option maxHeartbeats 2000000 in
set_option maxRecDepth 100000 in
theorem t_X13_tick {l : Launch} (hls : l.stackTraces = false) {C : cT} (hC : CX C cX13_tick 8 yX13_tick rm_X13_tick) (hl : C.2.1 = l) {S0 : mS} (hE : CE C S0 (Option.none : Option Jvm.ClassFile.FieldType) []) {o : Rs Unit} {S : mS} {a0 : Nat} (h : f_X13_tick S a0 = some o) : XX C 8 (QQ C (fun _ : Unit => none) S0 o) 0 0 S 0 [(0, .ref a0)] [] := by
  unfold f_X13_tick at h
  refine x_aload_n (pc := 0) hC 0 dX13_tick_0 rfl rfl ?_
  obtain ⟨g1, h⟩ := gd_some h
  refine x_getRv (pc := 1) (k := 2) hC fc_19 fl_RX13_19 dX13_tick_1 rfl g1 (fun r2 hr2 => ?_)
  replace h := lt_x hr2 h
  refine x_astore_n (pc := 4) hC dX13_tick_4 rfl (by decide) (by decide) rfl ?_
  refine x_aload_n (pc := 5) hC 0 dX13_tick_5 rfl rfl ?_
  obtain ⟨g3, h⟩ := gd_some h
  refine x_alenv (pc := 6) (t0 := 7) hC dX13_tick_6 g3 (by decide) (fun _ => rfl) (fun x4 hx4 => ?_)
  replace h := lt_x hx4 h
  refine x_istore_n (pc := 7) hC dX13_tick_7 rfl (by decide) (by decide) rfl ?_
  refine x_iconst (pc := 8) (v := (0 : Int32)) hC dX13_tick_8 (by decide) ?_
  refine x_istore_n (pc := 9) hC dX13_tick_9 rfl (by decide) (by decide) rfl ?_
  refine x_pick [3, 2, 1, 0] rfl ?_
  exact t_X13_tick_10 hls hC hl hE 5 _ _ _ _ _ h
theorem c_X13_tick (l : Launch) (hls : l.stackTraces = false) {S : mS} {a0 : Nat} {o : Rs Unit} (h : f_X13_tick S a0 = some o) : CT (fun _ : Unit => none) l yX13_tick (.code yX13_tick cX13_tick 8 (Option.none : Option Jvm.ClassFile.FieldType)) rm_X13_tick S [.ref a0] o := ct_of (by decide +kernel) hls (Nat.le_of_ble_eq_true rfl) (fun C hl hC hE => t_X13_tick hls hC hl hE h)
abbrev rm_X13_go : Room := { frames := 13, cells := 40020, slots := 160080, locals := 269 }
def f_X13_go_32  : Nat → mS → Nat → Int32 → Int32 → Int32 → Option (Rs Int32)
  | 0, _, _, _, _, _ => none
  | k + 1, S, a0, a1, a2, a3 => if a1 ≤ a3 then (gd (gK S a0 = 19) (bd (f_X13_logs S a0) fun _ S3 => gd (gK S3 a0 = 19) (lt9 (gI S3 a0 11) fun x7 => lt9 (x7 - a2) fun x8 => some (.inl x8, S3)))) else (gd (gK S a0 = 19) (bd (f_X13_tick S a0) fun _ S11 => lt9 (a3 + Int32.ofInt (1)) fun x14 => f_X13_go_32 k S11 a0 a1 a2 x14))
set_option maxHeartbeats 2000000 in
set_option maxRecDepth 100000 in
theorem t_X13_go_32 {l : Launch} (hls : l.stackTraces = false) {C : cT} (hC : CX C cX13_go 4 yX13_go rm_X13_go) (hl : C.2.1 = l) {S0 : mS} (hE : CE C S0 (Option.some Jvm.ClassFile.FieldType.int) []) {o : Rs Int32} : ∀ (k cs32 sl32 : Nat) (S : mS) (a0 : Nat) (a1 : Int32) (a2 : Int32) (a3 : Int32), cs32 + k * 10 ≤ 20010 → sl32 + k * 40 ≤ 80040 → f_X13_go_32  k S a0 a1 a2 a3 = some o → XX C 4 (QQ C (fun r : Int32 => some (.int r)) S0 o) cs32 sl32 S 32 [(0, .ref a0), (1, .int a1), (2, .int a2), (3, .int a3)] [] := by
  intro k
  induction k with
  | zero => intro cs32 sl32 S a0 a1 a2 a3 hcs32 hsl32 h; cases h
  | succ k ih =>
    intro cs32 sl32 S a0 a1 a2 a3 hcs32 hsl32 h
    unfold f_X13_go_32 at h
    refine x_iload_n (pc := 32) hC 3 dX13_go_32 rfl rfl ?_
    refine x_iload_n (pc := 33) hC 1 dX13_go_33 rfl rfl ?_
    refine x_icmp_ge (pc := 34) hC 47 dX13_go_34 (by decide) (fun c15 => ?_) (fun c15 => ?_)
    · rw [if_pos c15] at h
      refine x_aload_n (pc := 47) hC 0 dX13_go_47 rfl rfl ?_
      obtain ⟨g1, h⟩ := gd_some h
      obtain ⟨o4, ho4, h⟩ := bd_some h
      refine x_callV (pc := 48) (As := []) (rest := []) hC hl (c_X13_logs l hls ho4) lk_RX13_81 fc_19 g1 dX13_go_48 rfl rfl (Nat.le_of_ble_eq_true rfl) ⟨Nat.le_of_ble_eq_true rfl, Nat.le_of_ble_eq_true rfl⟩ ⟨(show cs32 ≤ (40020 : Nat) from by omega), (show sl32 ≤ (160080 : Nat) from by omega)⟩ ?_
      rcases o4 with ⟨_ | E5, S3⟩
      · refine xk_v ?_
        replace h := bk_l h
        refine x_widen (ce' := cs32) (sl' := sl32) (Nat.le_refl _) (Nat.le_refl _) ?_
        refine x_aload_n (pc := 51) hC 0 dX13_go_51 rfl rfl ?_
        obtain ⟨g6, h⟩ := gd_some h
        refine x_getIv (pc := 52) (k := 11) hC fc_19 fl_RX13_280 dX13_go_52 rfl g6 (fun x7 hx7 => ?_)
        replace h := lt_x hx7 h
        refine x_iload_n (pc := 55) hC 2 dX13_go_55 rfl rfl ?_
        refine x_isubv (pc := 56) hC dX13_go_56 (fun x8 hx8 => ?_)
        replace h := lt_x hx8 h
        exact x_ireturn (pc := 57) hC hE dX13_go_57 (so h) (show cs32 ≤ (40020 : Nat) from by omega) (show sl32 ≤ (160080 : Nat) from by omega)
      · exact xk_r (xt_out hC hE (bk_r h) (show cs32 ≤ (40020 : Nat) from by omega) (show sl32 ≤ (160080 : Nat) from by omega))
    · rw [if_neg c15] at h
      refine x_aload_n (pc := 37) hC 0 dX13_go_37 rfl rfl ?_
      obtain ⟨g9, h⟩ := gd_some h
      obtain ⟨o12, ho12, h⟩ := bd_some h
      refine x_callV (pc := 38) (As := []) (rest := []) hC hl (c_X13_tick l hls ho12) lk_RX13_307 fc_19 g9 dX13_go_38 rfl rfl (Nat.le_of_ble_eq_true rfl) ⟨Nat.le_of_ble_eq_true rfl, Nat.le_of_ble_eq_true rfl⟩ ⟨(show cs32 + 10 ≤ (40020 : Nat) from by omega), (show sl32 + 40 ≤ (160080 : Nat) from by omega)⟩ ?_
      rcases o12 with ⟨_ | E13, S11⟩
      · refine xk_v ?_
        replace h := bk_l h
        refine x_widen (ce' := cs32 + 10) (sl' := sl32 + 40) (Nat.le_refl _) (Nat.le_refl _) ?_
        obtain ⟨x14, hx14⟩ : ∃ z, z = (a3 + Int32.ofInt (1)) := ⟨_, rfl⟩
        replace h := lt_x hx14 h
        refine x_iinc (pc := 41) hC 3 dX13_go_41 rfl hx14.symm (by decide) (by decide) rfl ?_
        refine x_goto (pc := 44) hC 32 dX13_go_44 (by decide) ?_
        refine x_pick [1, 2, 3, 0] rfl ?_
        refine x_widen (ce' := cs32 + 10) (sl' := sl32 + 40) (by omega) (by omega) ?_
        exact ih _ _ _ _ _ _ _ (by omega) (by omega) h
      · exact xk_r (xt_out hC hE (bk_r h) (show cs32 + 10 ≤ (40020 : Nat) from by omega) (show sl32 + 40 ≤ (160080 : Nat) from by omega))
def f_X13_go_17  (S : mS) (a0 : Nat) (a1 : Int32) (s0 : Nat) (s1 : Int32) : Option (Rs Int32) :=
  gd (gK S s0 = 19) (bd (f_X13_isWrong S s0 s1) fun x2 S3 => if x2 = 0 then (gd (gK S3 a0 = 19) (lt9 (gI S3 a0 11) fun x7 => f_X13_go_32  2001 S3 a0 a1 x7 (0 : Int32))) else (some (.inl (0 : Int32), S3)))
set_option maxHeartbeats 2000000 in
set_option maxRecDepth 100000 in
theorem t_X13_go_17 {l : Launch} (hls : l.stackTraces = false) {C : cT} (hC : CX C cX13_go 4 yX13_go rm_X13_go) (hl : C.2.1 = l) {S0 : mS} (hE : CE C S0 (Option.some Jvm.ClassFile.FieldType.int) []) {o : Rs Int32} {S : mS} {a0 : Nat} {a1 : Int32} {s0 : Nat} {s1 : Int32} (h : f_X13_go_17  S a0 a1 s0 s1 = some o) : XX C 4 (QQ C (fun r : Int32 => some (.int r)) S0 o) (0) (0) S 17 [(0, .ref a0), (1, .int a1)] [.int s1, .ref s0] := by
  unfold f_X13_go_17 at h
  obtain ⟨g1, h⟩ := gd_some h
  obtain ⟨o4, ho4, h⟩ := bd_some h
  refine x_callV (pc := 17) (As := [.int s1]) (rest := []) hC hl (c_X13_isWrong l hls ho4) lk_RX13_68 fc_19 g1 dX13_go_17 rfl rfl (Nat.le_of_ble_eq_true rfl) ⟨Nat.le_of_ble_eq_true rfl, Nat.le_of_ble_eq_true rfl⟩ ⟨(Nat.le_of_ble_eq_true rfl), (Nat.le_of_ble_eq_true rfl)⟩ ?_
  rcases o4 with ⟨x2 | E5, S3⟩
  · refine xk_i ?_
    replace h := bk_l h
    refine x_if_eq (pc := 20) hC 25 dX13_go_20 (by decide) (fun c8 => ?_) (fun c8 => ?_)
    · rw [if_pos c8] at h
      refine x_aload_n (pc := 25) hC 0 dX13_go_25 rfl rfl ?_
      obtain ⟨g6, h⟩ := gd_some h
      refine x_getIv (pc := 26) (k := 11) hC fc_19 fl_RX13_280 dX13_go_26 rfl g6 (fun x7 hx7 => ?_)
      replace h := lt_x hx7 h
      refine x_istore_n (pc := 29) hC dX13_go_29 rfl (by decide) (by decide) rfl ?_
      refine x_iconst (pc := 30) (v := (0 : Int32)) hC dX13_go_30 (by decide) ?_
      refine x_istore_n (pc := 31) hC dX13_go_31 rfl (by decide) (by decide) rfl ?_
      refine x_pick [2, 3, 1, 0] rfl ?_
      refine x_widen (ce' := 0) (sl' := 0) (Nat.le_of_ble_eq_true rfl) (Nat.le_of_ble_eq_true rfl) ?_
      exact t_X13_go_32 hls hC hl hE 2001 _ _ _ _ _ _ _ (by omega) (by omega) h
    · rw [if_neg c8] at h
      refine x_iconst (pc := 23) (v := (0 : Int32)) hC dX13_go_23 (by decide) ?_
      exact x_ireturn (pc := 24) hC hE dX13_go_24 (so h) (Nat.le_of_ble_eq_true rfl) (Nat.le_of_ble_eq_true rfl)
  · exact xk_r (xt_out hC hE (bk_r h) (Nat.le_of_ble_eq_true rfl) (Nat.le_of_ble_eq_true rfl))
def f_X13_go (S : mS) (a0 : Nat) (a1 : Int32) : Option (Rs Int32) :=
  bd (f_X13_isBetween S a1 (1 : Int32) (2000 : Int32)) fun x1 S2 => if x1 = 0 then (f_X13_go_17  S2 a0 a1 a0 (1 : Int32)) else (f_X13_go_17  S2 a0 a1 a0 (0 : Int32))
set_option maxHeartbeats 2000000 in
set_option maxRecDepth 100000 in
theorem t_X13_go {l : Launch} (hls : l.stackTraces = false) {C : cT} (hC : CX C cX13_go 4 yX13_go rm_X13_go) (hl : C.2.1 = l) {S0 : mS} (hE : CE C S0 (Option.some Jvm.ClassFile.FieldType.int) []) {o : Rs Int32} {S : mS} {a0 : Nat} {a1 : Int32} (h : f_X13_go S a0 a1 = some o) : XX C 4 (QQ C (fun r : Int32 => some (.int r)) S0 o) 0 0 S 0 [(0, .ref a0), (1, .int a1)] [] := by
  unfold f_X13_go at h
  refine x_aload_n (pc := 0) hC 0 dX13_go_0 rfl rfl ?_
  refine x_iload_n (pc := 1) hC 1 dX13_go_1 rfl rfl ?_
  refine x_iconst (pc := 2) (v := (1 : Int32)) hC dX13_go_2 (by decide) ?_
  refine x_sipush (pc := 3) (v := (2000 : Int32)) hC dX13_go_3 (by decide) ?_
  obtain ⟨o3, ho3, h⟩ := bd_some h
  refine x_callS (pc := 6) (As := [.int a1, .int (1 : Int32), .int (2000 : Int32)]) (rest := [.ref a0]) hC hl (c_X13_isBetween l hls ho3) lk_RX13_50 dX13_go_6 rfl rfl (Nat.le_of_ble_eq_true rfl) ⟨Nat.le_of_ble_eq_true rfl, Nat.le_of_ble_eq_true rfl⟩ ⟨(Nat.le_of_ble_eq_true rfl), (Nat.le_of_ble_eq_true rfl)⟩ ?_
  rcases o3 with ⟨x1 | E4, S2⟩
  · refine xk_i ?_
    replace h := bk_l h
    refine x_if_eq (pc := 9) hC 16 dX13_go_9 (by decide) (fun c5 => ?_) (fun c5 => ?_)
    · rw [if_pos c5] at h
      refine x_iconst (pc := 16) (v := (1 : Int32)) hC dX13_go_16 (by decide) ?_
      refine x_pick [0, 1] rfl ?_
      exact t_X13_go_17 hls hC hl hE h
    · rw [if_neg c5] at h
      refine x_iconst (pc := 12) (v := (0 : Int32)) hC dX13_go_12 (by decide) ?_
      refine x_goto (pc := 13) hC 17 dX13_go_13 (by decide) ?_
      refine x_pick [0, 1] rfl ?_
      exact t_X13_go_17 hls hC hl hE h
  · exact xk_r (xt_out hC hE (bk_r h) (Nat.le_of_ble_eq_true rfl) (Nat.le_of_ble_eq_true rfl))
theorem c_X13_go (l : Launch) (hls : l.stackTraces = false) {S : mS} {a0 : Nat} {a1 : Int32} {o : Rs Int32} (h : f_X13_go S a0 a1 = some o) : CT (fun r : Int32 => some (.int r)) l yX13_go (.code yX13_go cX13_go 4 (Option.some Jvm.ClassFile.FieldType.int)) rm_X13_go S [.ref a0, .int a1] o := ct_of (by decide +kernel) hls (Nat.le_of_ble_eq_true rfl) (fun C hl hC hE => t_X13_go hls hC hl hE h)
abbrev rm_X13_plain : Room := { frames := 8, cells := 0, slots := 0, locals := 150 }
def f_X13_plain (S : mS) (a0 : Nat) (a1 : Int32) : Option (Rs Int32) :=
  gd (gK S a0 = 19) (zI (sI S a0 0 (0 : Int32)) fun S2 => some (.inl a1, S2))
set_option maxHeartbeats 2000000 in
set_option maxRecDepth 100000 in
theorem t_X13_plain {l : Launch} (hls : l.stackTraces = false) {C : cT} (hC : CX C cX13_plain 2 yX13_plain rm_X13_plain) (hl : C.2.1 = l) {S0 : mS} (hE : CE C S0 (Option.some Jvm.ClassFile.FieldType.int) []) {o : Rs Int32} {S : mS} {a0 : Nat} {a1 : Int32} (h : f_X13_plain S a0 a1 = some o) : XX C 2 (QQ C (fun r : Int32 => some (.int r)) S0 o) 0 0 S 0 [(0, .ref a0), (1, .int a1)] [] := by
  unfold f_X13_plain at h
  refine x_aload_n (pc := 0) hC 0 dX13_plain_0 rfl rfl ?_
  refine x_iconst (pc := 1) (v := (0 : Int32)) hC dX13_plain_1 (by decide) ?_
  obtain ⟨g1, h⟩ := gd_some h
  refine x_putIv (pc := 2) (k := 0) hC fc_19 fl_RX13_46 dX13_plain_2 rfl rfl (nf_int _) g1 (fun S2 hS2 => ?_)
  replace h := zI_x hS2 h
  have g3 : gK S2 a0 = 19 := by rw [hS2]; exact g1
  refine x_iload_n (pc := 5) hC 1 dX13_plain_5 rfl rfl ?_
  exact x_ireturn (pc := 6) hC hE dX13_plain_6 (so h) (Nat.le_of_ble_eq_true rfl) (Nat.le_of_ble_eq_true rfl)
theorem c_X13_plain (l : Launch) (hls : l.stackTraces = false) {S : mS} {a0 : Nat} {a1 : Int32} {o : Rs Int32} (h : f_X13_plain S a0 a1 = some o) : CT (fun r : Int32 => some (.int r)) l yX13_plain (.code yX13_plain cX13_plain 2 (Option.some Jvm.ClassFile.FieldType.int)) rm_X13_plain S [.ref a0, .int a1] o := ct_of (by decide +kernel) hls (Nat.le_of_ble_eq_true rfl) (fun C hl hC hE => t_X13_plain hls hC hl hE h)
abbrev rm_X13_ticks : Room := { frames := 9, cells := 0, slots := 0, locals := 171 }
def f_X13_ticks (S : mS) (a0 : Nat) : Option (Rs Int32) :=
  gd (gK S a0 = 19) (lt9 (gI S a0 9) fun x2 => bd (f_X13_plain S a0 x2) fun x3 S4 => some (.inl x3, S4))
set_option maxHeartbeats 2000000 in
set_option maxRecDepth 100000 in
theorem t_X13_ticks {l : Launch} (hls : l.stackTraces = false) {C : cT} (hC : CX C cX13_ticks 1 yX13_ticks rm_X13_ticks) (hl : C.2.1 = l) {S0 : mS} (hE : CE C S0 (Option.some Jvm.ClassFile.FieldType.int) []) {o : Rs Int32} {S : mS} {a0 : Nat} (h : f_X13_ticks S a0 = some o) : XX C 1 (QQ C (fun r : Int32 => some (.int r)) S0 o) 0 0 S 0 [(0, .ref a0)] [] := by
  unfold f_X13_ticks at h
  refine x_aload_n (pc := 0) hC 0 dX13_ticks_0 rfl rfl ?_
  refine x_aload_n (pc := 1) hC 0 dX13_ticks_1 rfl rfl ?_
  obtain ⟨g1, h⟩ := gd_some h
  refine x_getIv (pc := 2) (k := 9) hC fc_19 fl_RX13_295 dX13_ticks_2 rfl g1 (fun x2 hx2 => ?_)
  replace h := lt_x hx2 h
  obtain ⟨o5, ho5, h⟩ := bd_some h
  refine x_callV (pc := 5) (As := [.int x2]) (rest := []) hC hl (c_X13_plain l hls ho5) lk_RX13_310 fc_19 g1 dX13_ticks_5 rfl rfl (Nat.le_of_ble_eq_true rfl) ⟨Nat.le_of_ble_eq_true rfl, Nat.le_of_ble_eq_true rfl⟩ ⟨(Nat.le_of_ble_eq_true rfl), (Nat.le_of_ble_eq_true rfl)⟩ ?_
  rcases o5 with ⟨x3 | E6, S4⟩
  · refine xk_i ?_
    replace h := bk_l h
    exact x_ireturn (pc := 8) hC hE dX13_ticks_8 (so h) (Nat.le_of_ble_eq_true rfl) (Nat.le_of_ble_eq_true rfl)
  · exact xk_r (xt_out hC hE (bk_r h) (Nat.le_of_ble_eq_true rfl) (Nat.le_of_ble_eq_true rfl))
theorem c_X13_ticks (l : Launch) (hls : l.stackTraces = false) {S : mS} {a0 : Nat} {o : Rs Int32} (h : f_X13_ticks S a0 = some o) : CT (fun r : Int32 => some (.int r)) l yX13_ticks (.code yX13_ticks cX13_ticks 1 (Option.some Jvm.ClassFile.FieldType.int)) rm_X13_ticks S [.ref a0] o := ct_of (by decide +kernel) hls (Nat.le_of_ble_eq_true rfl) (fun C hl hC hE => t_X13_ticks hls hC hl hE h)
abbrev rm_X13_heard : Room := { frames := 9, cells := 0, slots := 0, locals := 171 }
def f_X13_heard (S : mS) (a0 : Nat) : Option (Rs Int32) :=
  gd (gK S a0 = 19) (lt9 (gI S a0 10) fun x2 => bd (f_X13_plain S a0 x2) fun x3 S4 => some (.inl x3, S4))
set_option maxHeartbeats 2000000 in
set_option maxRecDepth 100000 in
theorem t_X13_heard {l : Launch} (hls : l.stackTraces = false) {C : cT} (hC : CX C cX13_heard 1 yX13_heard rm_X13_heard) (hl : C.2.1 = l) {S0 : mS} (hE : CE C S0 (Option.some Jvm.ClassFile.FieldType.int) []) {o : Rs Int32} {S : mS} {a0 : Nat} (h : f_X13_heard S a0 = some o) : XX C 1 (QQ C (fun r : Int32 => some (.int r)) S0 o) 0 0 S 0 [(0, .ref a0)] [] := by
  unfold f_X13_heard at h
  refine x_aload_n (pc := 0) hC 0 dX13_heard_0 rfl rfl ?_
  refine x_aload_n (pc := 1) hC 0 dX13_heard_1 rfl rfl ?_
  obtain ⟨g1, h⟩ := gd_some h
  refine x_getIv (pc := 2) (k := 10) hC fc_19 fl_RX13_278 dX13_heard_2 rfl g1 (fun x2 hx2 => ?_)
  replace h := lt_x hx2 h
  obtain ⟨o5, ho5, h⟩ := bd_some h
  refine x_callV (pc := 5) (As := [.int x2]) (rest := []) hC hl (c_X13_plain l hls ho5) lk_RX13_310 fc_19 g1 dX13_heard_5 rfl rfl (Nat.le_of_ble_eq_true rfl) ⟨Nat.le_of_ble_eq_true rfl, Nat.le_of_ble_eq_true rfl⟩ ⟨(Nat.le_of_ble_eq_true rfl), (Nat.le_of_ble_eq_true rfl)⟩ ?_
  rcases o5 with ⟨x3 | E6, S4⟩
  · refine xk_i ?_
    replace h := bk_l h
    exact x_ireturn (pc := 8) hC hE dX13_heard_8 (so h) (Nat.le_of_ble_eq_true rfl) (Nat.le_of_ble_eq_true rfl)
  · exact xk_r (xt_out hC hE (bk_r h) (Nat.le_of_ble_eq_true rfl) (Nat.le_of_ble_eq_true rfl))
theorem c_X13_heard (l : Launch) (hls : l.stackTraces = false) {S : mS} {a0 : Nat} {o : Rs Int32} (h : f_X13_heard S a0 = some o) : CT (fun r : Int32 => some (.int r)) l yX13_heard (.code yX13_heard cX13_heard 1 (Option.some Jvm.ClassFile.FieldType.int)) rm_X13_heard S [.ref a0] o := ct_of (by decide +kernel) hls (Nat.le_of_ble_eq_true rfl) (fun C hl hC hE => t_X13_heard hls hC hl hE h)
abbrev rm_X13_silence : Room := { frames := 9, cells := 0, slots := 0, locals := 171 }
def f_X13_silence (S : mS) (a0 : Nat) : Option (Rs Int32) :=
  gd (gK S a0 = 19) (lt9 (gI S a0 11) fun x2 => bd (f_X13_plain S a0 x2) fun x3 S4 => some (.inl x3, S4))
set_option maxHeartbeats 2000000 in
set_option maxRecDepth 100000 in
theorem t_X13_silence {l : Launch} (hls : l.stackTraces = false) {C : cT} (hC : CX C cX13_silence 1 yX13_silence rm_X13_silence) (hl : C.2.1 = l) {S0 : mS} (hE : CE C S0 (Option.some Jvm.ClassFile.FieldType.int) []) {o : Rs Int32} {S : mS} {a0 : Nat} (h : f_X13_silence S a0 = some o) : XX C 1 (QQ C (fun r : Int32 => some (.int r)) S0 o) 0 0 S 0 [(0, .ref a0)] [] := by
  unfold f_X13_silence at h
  refine x_aload_n (pc := 0) hC 0 dX13_silence_0 rfl rfl ?_
  refine x_aload_n (pc := 1) hC 0 dX13_silence_1 rfl rfl ?_
  obtain ⟨g1, h⟩ := gd_some h
  refine x_getIv (pc := 2) (k := 11) hC fc_19 fl_RX13_280 dX13_silence_2 rfl g1 (fun x2 hx2 => ?_)
  replace h := lt_x hx2 h
  obtain ⟨o5, ho5, h⟩ := bd_some h
  refine x_callV (pc := 5) (As := [.int x2]) (rest := []) hC hl (c_X13_plain l hls ho5) lk_RX13_310 fc_19 g1 dX13_silence_5 rfl rfl (Nat.le_of_ble_eq_true rfl) ⟨Nat.le_of_ble_eq_true rfl, Nat.le_of_ble_eq_true rfl⟩ ⟨(Nat.le_of_ble_eq_true rfl), (Nat.le_of_ble_eq_true rfl)⟩ ?_
  rcases o5 with ⟨x3 | E6, S4⟩
  · refine xk_i ?_
    replace h := bk_l h
    exact x_ireturn (pc := 8) hC hE dX13_silence_8 (so h) (Nat.le_of_ble_eq_true rfl) (Nat.le_of_ble_eq_true rfl)
  · exact xk_r (xt_out hC hE (bk_r h) (Nat.le_of_ble_eq_true rfl) (Nat.le_of_ble_eq_true rfl))
theorem c_X13_silence (l : Launch) (hls : l.stackTraces = false) {S : mS} {a0 : Nat} {o : Rs Int32} (h : f_X13_silence S a0 = some o) : CT (fun r : Int32 => some (.int r)) l yX13_silence (.code yX13_silence cX13_silence 1 (Option.some Jvm.ClassFile.FieldType.int)) rm_X13_silence S [.ref a0] o := ct_of (by decide +kernel) hls (Nat.le_of_ble_eq_true rfl) (fun C hl hC hE => t_X13_silence hls hC hl hE h)
abbrev rm_X13_clashes : Room := { frames := 9, cells := 0, slots := 0, locals := 171 }
def f_X13_clashes_45  (S : mS) (s0 : Int32) : Option (Rs Int32) :=
  some (.inl s0, S)
set_option maxHeartbeats 2000000 in
set_option maxRecDepth 100000 in
theorem t_X13_clashes_45 {l : Launch} (hls : l.stackTraces = false) {C : cT} (hC : CX C cX13_clashes 2 yX13_clashes rm_X13_clashes) (hl : C.2.1 = l) {S0 : mS} (hE : CE C S0 (Option.some Jvm.ClassFile.FieldType.int) []) {o : Rs Int32} {S : mS} {s0 : Int32} (h : f_X13_clashes_45  S s0 = some o) : XX C 2 (QQ C (fun r : Int32 => some (.int r)) S0 o) (0) (0) S 45 [] [.int s0] := by
  unfold f_X13_clashes_45 at h
  exact x_ireturn (pc := 45) hC hE dX13_clashes_45 (so h) (Nat.le_of_ble_eq_true rfl) (Nat.le_of_ble_eq_true rfl)
def f_X13_clashes_18  (S : mS) (a0 : Nat) (a1 : Int32) (s0 : Nat) (s1 : Int32) : Option (Rs Int32) :=
  gd (gK S s0 = 19) (bd (f_X13_isWrong S s0 s1) fun x2 S3 => if x2 = 0 then (if a1 = (118 : Int32) then (gd (gK S3 a0 = 19) (lt9 (gI S3 a0 12) fun x9 => f_X13_clashes_45  S3 x9)) else (gd (gK S3 a0 = 19) (lt9 (gI S3 a0 13) fun x7 => f_X13_clashes_45  S3 x7))) else (f_X13_clashes_45  S3 (0 : Int32)))
set_option maxHeartbeats 2000000 in
set_option maxRecDepth 100000 in
theorem t_X13_clashes_18 {l : Launch} (hls : l.stackTraces = false) {C : cT} (hC : CX C cX13_clashes 2 yX13_clashes rm_X13_clashes) (hl : C.2.1 = l) {S0 : mS} (hE : CE C S0 (Option.some Jvm.ClassFile.FieldType.int) []) {o : Rs Int32} {S : mS} {a0 : Nat} {a1 : Int32} {s0 : Nat} {s1 : Int32} (h : f_X13_clashes_18  S a0 a1 s0 s1 = some o) : XX C 2 (QQ C (fun r : Int32 => some (.int r)) S0 o) (0) (0) S 18 [(0, .ref a0), (1, .int a1)] [.int s1, .ref s0] := by
  unfold f_X13_clashes_18 at h
  obtain ⟨g1, h⟩ := gd_some h
  obtain ⟨o4, ho4, h⟩ := bd_some h
  refine x_callV (pc := 18) (As := [.int s1]) (rest := []) hC hl (c_X13_isWrong l hls ho4) lk_RX13_68 fc_19 g1 dX13_clashes_18 rfl rfl (Nat.le_of_ble_eq_true rfl) ⟨Nat.le_of_ble_eq_true rfl, Nat.le_of_ble_eq_true rfl⟩ ⟨(Nat.le_of_ble_eq_true rfl), (Nat.le_of_ble_eq_true rfl)⟩ ?_
  rcases o4 with ⟨x2 | E5, S3⟩
  · refine xk_i ?_
    replace h := bk_l h
    refine x_if_eq (pc := 21) hC 28 dX13_clashes_21 (by decide) (fun c11 => ?_) (fun c11 => ?_)
    · rw [if_pos c11] at h
      refine x_iload_n (pc := 28) hC 1 dX13_clashes_28 rfl rfl ?_
      refine x_bipush (pc := 29) (v := (118 : Int32)) hC dX13_clashes_29 (by decide) ?_
      refine x_icmp_ne (pc := 31) hC 41 dX13_clashes_31 (by decide) (fun c10 => ?_) (fun c10 => ?_)
      · rw [if_neg c10] at h
        refine x_aload_n (pc := 41) hC 0 dX13_clashes_41 rfl rfl ?_
        obtain ⟨g6, h⟩ := gd_some h
        refine x_getIv (pc := 42) (k := 13) hC fc_19 fl_RX13_286 dX13_clashes_42 rfl g6 (fun x7 hx7 => ?_)
        replace h := lt_x hx7 h
        refine x_pick [] rfl ?_
        exact t_X13_clashes_45 hls hC hl hE h
      · rw [if_pos c10] at h
        refine x_aload_n (pc := 34) hC 0 dX13_clashes_34 rfl rfl ?_
        obtain ⟨g8, h⟩ := gd_some h
        refine x_getIv (pc := 35) (k := 12) hC fc_19 fl_RX13_283 dX13_clashes_35 rfl g8 (fun x9 hx9 => ?_)
        replace h := lt_x hx9 h
        refine x_goto (pc := 38) hC 45 dX13_clashes_38 (by decide) ?_
        refine x_pick [] rfl ?_
        exact t_X13_clashes_45 hls hC hl hE h
    · rw [if_neg c11] at h
      refine x_iconst (pc := 24) (v := (0 : Int32)) hC dX13_clashes_24 (by decide) ?_
      refine x_goto (pc := 25) hC 45 dX13_clashes_25 (by decide) ?_
      refine x_pick [] rfl ?_
      exact t_X13_clashes_45 hls hC hl hE h
  · exact xk_r (xt_out hC hE (bk_r h) (Nat.le_of_ble_eq_true rfl) (Nat.le_of_ble_eq_true rfl))
def f_X13_clashes_17  (S : mS) (a0 : Nat) (a1 : Int32) (s0 : Nat) : Option (Rs Int32) :=
  f_X13_clashes_18  S a0 a1 s0 (0 : Int32)
set_option maxHeartbeats 2000000 in
set_option maxRecDepth 100000 in
theorem t_X13_clashes_17 {l : Launch} (hls : l.stackTraces = false) {C : cT} (hC : CX C cX13_clashes 2 yX13_clashes rm_X13_clashes) (hl : C.2.1 = l) {S0 : mS} (hE : CE C S0 (Option.some Jvm.ClassFile.FieldType.int) []) {o : Rs Int32} {S : mS} {a0 : Nat} {a1 : Int32} {s0 : Nat} (h : f_X13_clashes_17  S a0 a1 s0 = some o) : XX C 2 (QQ C (fun r : Int32 => some (.int r)) S0 o) (0) (0) S 17 [(0, .ref a0), (1, .int a1)] [.ref s0] := by
  unfold f_X13_clashes_17 at h
  refine x_iconst (pc := 17) (v := (0 : Int32)) hC dX13_clashes_17 (by decide) ?_
  refine x_pick [0, 1] rfl ?_
  exact t_X13_clashes_18 hls hC hl hE h
def f_X13_clashes (S : mS) (a0 : Nat) (a1 : Int32) : Option (Rs Int32) :=
  if a1 = (118 : Int32) then (f_X13_clashes_17  S a0 a1 a0) else (if a1 = (98 : Int32) then (f_X13_clashes_17  S a0 a1 a0) else (f_X13_clashes_18  S a0 a1 a0 (1 : Int32)))
set_option maxHeartbeats 2000000 in
set_option maxRecDepth 100000 in
theorem t_X13_clashes {l : Launch} (hls : l.stackTraces = false) {C : cT} (hC : CX C cX13_clashes 2 yX13_clashes rm_X13_clashes) (hl : C.2.1 = l) {S0 : mS} (hE : CE C S0 (Option.some Jvm.ClassFile.FieldType.int) []) {o : Rs Int32} {S : mS} {a0 : Nat} {a1 : Int32} (h : f_X13_clashes S a0 a1 = some o) : XX C 2 (QQ C (fun r : Int32 => some (.int r)) S0 o) 0 0 S 0 [(0, .ref a0), (1, .int a1)] [] := by
  unfold f_X13_clashes at h
  refine x_aload_n (pc := 0) hC 0 dX13_clashes_0 rfl rfl ?_
  refine x_iload_n (pc := 1) hC 1 dX13_clashes_1 rfl rfl ?_
  refine x_bipush (pc := 2) (v := (118 : Int32)) hC dX13_clashes_2 (by decide) ?_
  refine x_icmp_eq (pc := 4) hC 17 dX13_clashes_4 (by decide) (fun c2 => ?_) (fun c2 => ?_)
  · rw [if_pos c2] at h
    refine x_pick [0, 1] rfl ?_
    exact t_X13_clashes_17 hls hC hl hE h
  · rw [if_neg c2] at h
    refine x_iload_n (pc := 7) hC 1 dX13_clashes_7 rfl rfl ?_
    refine x_bipush (pc := 8) (v := (98 : Int32)) hC dX13_clashes_8 (by decide) ?_
    refine x_icmp_eq (pc := 10) hC 17 dX13_clashes_10 (by decide) (fun c1 => ?_) (fun c1 => ?_)
    · rw [if_pos c1] at h
      refine x_pick [0, 1] rfl ?_
      exact t_X13_clashes_17 hls hC hl hE h
    · rw [if_neg c1] at h
      refine x_iconst (pc := 13) (v := (1 : Int32)) hC dX13_clashes_13 (by decide) ?_
      refine x_goto (pc := 14) hC 18 dX13_clashes_14 (by decide) ?_
      refine x_pick [0, 1] rfl ?_
      exact t_X13_clashes_18 hls hC hl hE h
theorem c_X13_clashes (l : Launch) (hls : l.stackTraces = false) {S : mS} {a0 : Nat} {a1 : Int32} {o : Rs Int32} (h : f_X13_clashes S a0 a1 = some o) : CT (fun r : Int32 => some (.int r)) l yX13_clashes (.code yX13_clashes cX13_clashes 2 (Option.some Jvm.ClassFile.FieldType.int)) rm_X13_clashes S [.ref a0, .int a1] o := ct_of (by decide +kernel) hls (Nat.le_of_ble_eq_true rfl) (fun C hl hC hE => t_X13_clashes hls hC hl hE h)
abbrev rm_X13_off : Room := { frames := 9, cells := 0, slots := 0, locals := 175 }
def f_X13_off_41  (S : mS) (s0 : Int32) : Option (Rs Int32) :=
  some (.inl s0, S)
set_option maxHeartbeats 2000000 in
set_option maxRecDepth 100000 in
theorem t_X13_off_41 {l : Launch} (hls : l.stackTraces = false) {C : cT} (hC : CX C cX13_off 3 yX13_off rm_X13_off) (hl : C.2.1 = l) {S0 : mS} (hE : CE C S0 (Option.some Jvm.ClassFile.FieldType.int) []) {o : Rs Int32} {S : mS} {s0 : Int32} (h : f_X13_off_41  S s0 = some o) : XX C 3 (QQ C (fun r : Int32 => some (.int r)) S0 o) (0) (0) S 41 [] [.int s0] := by
  unfold f_X13_off_41 at h
  exact x_ireturn (pc := 41) hC hE dX13_off_41 (so h) (Nat.le_of_ble_eq_true rfl) (Nat.le_of_ble_eq_true rfl)
def f_X13_off (S : mS) (a0 : Nat) (a1 : Nat) : Option (Rs Int32) :=
  gd (gK S a0 = 17) (lt9 (gL S a0 9) fun x2 => gd (gK S a1 = 17) (lt9 (gL S a1 9) fun x4 => lt9 (x2 - x4) fun x5 => bd (f_J9_floorMod_f86c9 S x5 (60000000 : Int64)) fun x6 S7 => lt9 (x6 * (1000 : Int64)) fun x10 => gd (¬ (60000000 : Int64) = 0) (lt9 (x10 / (60000000 : Int64)) fun x11 => lt9 ((x11).toInt32) fun x13 => if x13 < (500 : Int32) then (f_X13_off_41  S7 x13) else (lt9 (x13 - (1000 : Int32)) fun x14 => f_X13_off_41  S7 x14))))
set_option maxHeartbeats 2000000 in
set_option maxRecDepth 100000 in
theorem t_X13_off {l : Launch} (hls : l.stackTraces = false) {C : cT} (hC : CX C cX13_off 3 yX13_off rm_X13_off) (hl : C.2.1 = l) {S0 : mS} (hE : CE C S0 (Option.some Jvm.ClassFile.FieldType.int) []) {o : Rs Int32} {S : mS} {a0 : Nat} {a1 : Nat} (h : f_X13_off S a0 a1 = some o) : XX C 3 (QQ C (fun r : Int32 => some (.int r)) S0 o) 0 0 S 0 [(0, .ref a0), (1, .ref a1)] [] := by
  unfold f_X13_off at h
  refine x_aload_n (pc := 0) hC 0 dX13_off_0 rfl rfl ?_
  obtain ⟨g1, h⟩ := gd_some h
  refine x_getLv (pc := 1) (k := 9) hC fc_17 fl_RX13_163 dX13_off_1 rfl g1 (fun x2 hx2 => ?_)
  replace h := lt_x hx2 h
  refine x_aload_n (pc := 4) hC 1 dX13_off_4 rfl rfl ?_
  obtain ⟨g3, h⟩ := gd_some h
  refine x_getLv (pc := 5) (k := 9) hC fc_17 fl_RX13_163 dX13_off_5 rfl g3 (fun x4 hx4 => ?_)
  replace h := lt_x hx4 h
  refine x_lsubv (pc := 8) hC dX13_off_8 (fun x5 hx5 => ?_)
  replace h := lt_x hx5 h
  refine x_ldc2 (pc := 9) hC wm_1968 dX13_off_9 ?_
  obtain ⟨o8, ho8, h⟩ := bd_some h
  refine x_callS (pc := 12) (As := [.long x5, .long (60000000 : Int64)]) (rest := []) hC hl (c_J9_floorMod_f86c9 l hls ho8) lk_RX13_313 dX13_off_12 rfl rfl (Nat.le_of_ble_eq_true rfl) ⟨Nat.le_of_ble_eq_true rfl, Nat.le_of_ble_eq_true rfl⟩ ⟨(Nat.le_of_ble_eq_true rfl), (Nat.le_of_ble_eq_true rfl)⟩ ?_
  rcases o8 with ⟨x6 | E9, S7⟩
  · refine xk_j ?_
    replace h := bk_l h
    refine x_ldc2 (pc := 15) hC wm_2279 dX13_off_15 ?_
    refine x_lmulv (pc := 18) hC dX13_off_18 (fun x10 hx10 => ?_)
    replace h := lt_x hx10 h
    refine x_ldc2 (pc := 19) hC wm_1968 dX13_off_19 ?_
    obtain ⟨g12, h⟩ := gd_some h
    refine x_ldivv (pc := 22) hC dX13_off_22 g12 (fun x11 hx11 => ?_)
    replace h := lt_x hx11 h
    refine x_l2iv (pc := 23) hC dX13_off_23 (fun x13 hx13 => ?_)
    replace h := lt_x hx13 h
    refine x_istore_n (pc := 24) hC dX13_off_24 rfl (by decide) (by decide) rfl ?_
    refine x_iload_n (pc := 25) hC 0 dX13_off_25 rfl rfl ?_
    refine x_sipush (pc := 26) (v := (500 : Int32)) hC dX13_off_26 (by decide) ?_
    refine x_icmp_lt (pc := 29) hC 40 dX13_off_29 (by decide) (fun c15 => ?_) (fun c15 => ?_)
    · rw [if_pos c15] at h
      refine x_iload_n (pc := 40) hC 0 dX13_off_40 rfl rfl ?_
      refine x_pick [] rfl ?_
      exact t_X13_off_41 hls hC hl hE h
    · rw [if_neg c15] at h
      refine x_iload_n (pc := 32) hC 0 dX13_off_32 rfl rfl ?_
      refine x_sipush (pc := 33) (v := (1000 : Int32)) hC dX13_off_33 (by decide) ?_
      refine x_isubv (pc := 36) hC dX13_off_36 (fun x14 hx14 => ?_)
      replace h := lt_x hx14 h
      refine x_goto (pc := 37) hC 41 dX13_off_37 (by decide) ?_
      refine x_pick [] rfl ?_
      exact t_X13_off_41 hls hC hl hE h
  · exact xk_r (xt_out hC hE (bk_r h) (Nat.le_of_ble_eq_true rfl) (Nat.le_of_ble_eq_true rfl))
theorem c_X13_off (l : Launch) (hls : l.stackTraces = false) {S : mS} {a0 : Nat} {a1 : Nat} {o : Rs Int32} (h : f_X13_off S a0 a1 = some o) : CT (fun r : Int32 => some (.int r)) l yX13_off (.code yX13_off cX13_off 3 (Option.some Jvm.ClassFile.FieldType.int)) rm_X13_off S [.ref a0, .ref a1] o := ct_of (by decide +kernel) hls (Nat.le_of_ble_eq_true rfl) (fun C hl hC hE => t_X13_off hls hC hl hE h)
abbrev rm_X13_between : Room := { frames := 10, cells := 0, slots := 0, locals := 197 }
def f_X13_between_65  (S : mS) (s0 : Int32) : Option (Rs Int32) :=
  some (.inl s0, S)
set_option maxHeartbeats 2000000 in
set_option maxRecDepth 100000 in
theorem t_X13_between_65 {l : Launch} (hls : l.stackTraces = false) {C : cT} (hC : CX C cX13_between 3 yX13_between rm_X13_between) (hl : C.2.1 = l) {S0 : mS} (hE : CE C S0 (Option.some Jvm.ClassFile.FieldType.int) []) {o : Rs Int32} {S : mS} {s0 : Int32} (h : f_X13_between_65  S s0 = some o) : XX C 3 (QQ C (fun r : Int32 => some (.int r)) S0 o) (0) (0) S 65 [] [.int s0] := by
  unfold f_X13_between_65 at h
  exact x_ireturn (pc := 65) hC hE dX13_between_65 (so h) (Nat.le_of_ble_eq_true rfl) (Nat.le_of_ble_eq_true rfl)
def f_X13_between_40  (S : mS) (a0 : Nat) (a1 : Int32) (a2 : Int32) (s0 : Nat) (s1 : Int32) : Option (Rs Int32) :=
  gd (gK S s0 = 19) (bd (f_X13_isWrong S s0 s1) fun x2 S3 => if x2 = 0 then (gd (gK S3 a0 = 19) (lt9 (gR S3 a0 2) fun r7 => gd (gK S3 r7 = 37) (gd (¬ (a1 < 0 ∨ gZ S3 r7 ≤ (a1).toNatClampNeg)) (lt9 (gR S3 r7 (a1).toNatClampNeg) fun r11 => lt9 (gR S3 a0 2) fun r12 => gd (gK S3 r12 = 37) (gd (¬ (a2 < 0 ∨ gZ S3 r12 ≤ (a2).toNatClampNeg)) (lt9 (gR S3 r12 (a2).toNatClampNeg) fun r16 => bd (f_X13_off S3 r11 r16) fun x17 S18 => f_X13_between_65  S18 x17)))))) else (f_X13_between_65  S3 (0 : Int32)))
set_option maxHeartbeats 2000000 in
set_option maxRecDepth 100000 in
theorem t_X13_between_40 {l : Launch} (hls : l.stackTraces = false) {C : cT} (hC : CX C cX13_between 3 yX13_between rm_X13_between) (hl : C.2.1 = l) {S0 : mS} (hE : CE C S0 (Option.some Jvm.ClassFile.FieldType.int) []) {o : Rs Int32} {S : mS} {a0 : Nat} {a1 : Int32} {a2 : Int32} {s0 : Nat} {s1 : Int32} (h : f_X13_between_40  S a0 a1 a2 s0 s1 = some o) : XX C 3 (QQ C (fun r : Int32 => some (.int r)) S0 o) (0) (0) S 40 [(0, .ref a0), (1, .int a1), (2, .int a2)] [.int s1, .ref s0] := by
  unfold f_X13_between_40 at h
  obtain ⟨g1, h⟩ := gd_some h
  obtain ⟨o4, ho4, h⟩ := bd_some h
  refine x_callV (pc := 40) (As := [.int s1]) (rest := []) hC hl (c_X13_isWrong l hls ho4) lk_RX13_68 fc_19 g1 dX13_between_40 rfl rfl (Nat.le_of_ble_eq_true rfl) ⟨Nat.le_of_ble_eq_true rfl, Nat.le_of_ble_eq_true rfl⟩ ⟨(Nat.le_of_ble_eq_true rfl), (Nat.le_of_ble_eq_true rfl)⟩ ?_
  rcases o4 with ⟨x2 | E5, S3⟩
  · refine xk_i ?_
    replace h := bk_l h
    refine x_if_eq (pc := 43) hC 50 dX13_between_43 (by decide) (fun c21 => ?_) (fun c21 => ?_)
    · rw [if_pos c21] at h
      refine x_aload_n (pc := 50) hC 0 dX13_between_50 rfl rfl ?_
      obtain ⟨g6, h⟩ := gd_some h
      refine x_getRv (pc := 51) (k := 2) hC fc_19 fl_RX13_19 dX13_between_51 rfl g6 (fun r7 hr7 => ?_)
      replace h := lt_x hr7 h
      refine x_iload_n (pc := 54) hC 1 dX13_between_54 rfl rfl ?_
      obtain ⟨g10, h⟩ := gd_some h
      obtain ⟨g9, h⟩ := gd_some h
      refine x_raldv (pc := 55) (t0 := 7) hC dX13_between_55 g10 (by decide) (fun _ => rfl) g9 (fun r11 hr11 => ?_)
      replace h := lt_x hr11 h
      refine x_aload_n (pc := 56) hC 0 dX13_between_56 rfl rfl ?_
      refine x_getRv (pc := 57) (k := 2) hC fc_19 fl_RX13_19 dX13_between_57 rfl g6 (fun r12 hr12 => ?_)
      replace h := lt_x hr12 h
      refine x_iload_n (pc := 60) hC 2 dX13_between_60 rfl rfl ?_
      obtain ⟨g15, h⟩ := gd_some h
      obtain ⟨g14, h⟩ := gd_some h
      refine x_raldv (pc := 61) (t0 := 7) hC dX13_between_61 g15 (by decide) (fun _ => rfl) g14 (fun r16 hr16 => ?_)
      replace h := lt_x hr16 h
      obtain ⟨o19, ho19, h⟩ := bd_some h
      refine x_callS (pc := 62) (As := [.ref r11, .ref r16]) (rest := []) hC hl (c_X13_off l hls ho19) lk_RX13_318 dX13_between_62 rfl rfl (Nat.le_of_ble_eq_true rfl) ⟨Nat.le_of_ble_eq_true rfl, Nat.le_of_ble_eq_true rfl⟩ ⟨(Nat.le_of_ble_eq_true rfl), (Nat.le_of_ble_eq_true rfl)⟩ ?_
      rcases o19 with ⟨x17 | E20, S18⟩
      · refine xk_i ?_
        replace h := bk_l h
        refine x_pick [] rfl ?_
        exact t_X13_between_65 hls hC hl hE h
      · exact xk_r (xt_out hC hE (bk_r h) (Nat.le_of_ble_eq_true rfl) (Nat.le_of_ble_eq_true rfl))
    · rw [if_neg c21] at h
      refine x_iconst (pc := 46) (v := (0 : Int32)) hC dX13_between_46 (by decide) ?_
      refine x_goto (pc := 47) hC 65 dX13_between_47 (by decide) ?_
      refine x_pick [] rfl ?_
      exact t_X13_between_65 hls hC hl hE h
  · exact xk_r (xt_out hC hE (bk_r h) (Nat.le_of_ble_eq_true rfl) (Nat.le_of_ble_eq_true rfl))
def f_X13_between_15  (S : mS) (a0 : Nat) (a1 : Int32) (a2 : Int32) (s0 : Nat) : Option (Rs Int32) :=
  f_X13_between_40  S a0 a1 a2 s0 (1 : Int32)
set_option maxHeartbeats 2000000 in
set_option maxRecDepth 100000 in
theorem t_X13_between_15 {l : Launch} (hls : l.stackTraces = false) {C : cT} (hC : CX C cX13_between 3 yX13_between rm_X13_between) (hl : C.2.1 = l) {S0 : mS} (hE : CE C S0 (Option.some Jvm.ClassFile.FieldType.int) []) {o : Rs Int32} {S : mS} {a0 : Nat} {a1 : Int32} {a2 : Int32} {s0 : Nat} (h : f_X13_between_15  S a0 a1 a2 s0 = some o) : XX C 3 (QQ C (fun r : Int32 => some (.int r)) S0 o) (0) (0) S 15 [(0, .ref a0), (1, .int a1), (2, .int a2)] [.ref s0] := by
  unfold f_X13_between_15 at h
  refine x_iconst (pc := 15) (v := (1 : Int32)) hC dX13_between_15 (by decide) ?_
  refine x_goto (pc := 16) hC 40 dX13_between_16 (by decide) ?_
  refine x_pick [0, 1, 2] rfl ?_
  exact t_X13_between_40 hls hC hl hE h
def f_X13_between_35  (S : mS) (a0 : Nat) (a1 : Int32) (a2 : Int32) (s0 : Nat) : Option (Rs Int32) :=
  f_X13_between_40  S a0 a1 a2 s0 (2 : Int32)
set_option maxHeartbeats 2000000 in
set_option maxRecDepth 100000 in
theorem t_X13_between_35 {l : Launch} (hls : l.stackTraces = false) {C : cT} (hC : CX C cX13_between 3 yX13_between rm_X13_between) (hl : C.2.1 = l) {S0 : mS} (hE : CE C S0 (Option.some Jvm.ClassFile.FieldType.int) []) {o : Rs Int32} {S : mS} {a0 : Nat} {a1 : Int32} {a2 : Int32} {s0 : Nat} (h : f_X13_between_35  S a0 a1 a2 s0 = some o) : XX C 3 (QQ C (fun r : Int32 => some (.int r)) S0 o) (0) (0) S 35 [(0, .ref a0), (1, .int a1), (2, .int a2)] [.ref s0] := by
  unfold f_X13_between_35 at h
  refine x_iconst (pc := 35) (v := (2 : Int32)) hC dX13_between_35 (by decide) ?_
  refine x_goto (pc := 36) hC 40 dX13_between_36 (by decide) ?_
  refine x_pick [0, 1, 2] rfl ?_
  exact t_X13_between_40 hls hC hl hE h
def f_X13_between (S : mS) (a0 : Nat) (a1 : Int32) (a2 : Int32) : Option (Rs Int32) :=
  bd (f_X13_isDeck S a1) fun x1 S2 => if x1 = 0 then (f_X13_between_15  S2 a0 a1 a2 a0) else (bd (f_X13_isDeck S2 a2) fun x5 S6 => if x5 = 0 then (f_X13_between_15  S6 a0 a1 a2 a0) else (gd (gK S6 a0 = 19) (bd (f_X13_isEmpty S6 a0 a1) fun x10 S11 => if x10 = 0 then (gd (gK S11 a0 = 19) (bd (f_X13_isEmpty S11 a0 a2) fun x15 S16 => if x15 = 0 then (f_X13_between_40  S16 a0 a1 a2 a0 (0 : Int32)) else (f_X13_between_35  S16 a0 a1 a2 a0))) else (f_X13_between_35  S11 a0 a1 a2 a0))))
set_option maxHeartbeats 2000000 in
set_option maxRecDepth 100000 in
theorem t_X13_between {l : Launch} (hls : l.stackTraces = false) {C : cT} (hC : CX C cX13_between 3 yX13_between rm_X13_between) (hl : C.2.1 = l) {S0 : mS} (hE : CE C S0 (Option.some Jvm.ClassFile.FieldType.int) []) {o : Rs Int32} {S : mS} {a0 : Nat} {a1 : Int32} {a2 : Int32} (h : f_X13_between S a0 a1 a2 = some o) : XX C 3 (QQ C (fun r : Int32 => some (.int r)) S0 o) 0 0 S 0 [(0, .ref a0), (1, .int a1), (2, .int a2)] [] := by
  unfold f_X13_between at h
  refine x_aload_n (pc := 0) hC 0 dX13_between_0 rfl rfl ?_
  refine x_iload_n (pc := 1) hC 1 dX13_between_1 rfl rfl ?_
  obtain ⟨o3, ho3, h⟩ := bd_some h
  refine x_callS (pc := 2) (As := [.int a1]) (rest := [.ref a0]) hC hl (c_X13_isDeck l hls ho3) lk_RX13_121 dX13_between_2 rfl rfl (Nat.le_of_ble_eq_true rfl) ⟨Nat.le_of_ble_eq_true rfl, Nat.le_of_ble_eq_true rfl⟩ ⟨(Nat.le_of_ble_eq_true rfl), (Nat.le_of_ble_eq_true rfl)⟩ ?_
  rcases o3 with ⟨x1 | E4, S2⟩
  · refine xk_i ?_
    replace h := bk_l h
    refine x_if_eq (pc := 5) hC 15 dX13_between_5 (by decide) (fun c22 => ?_) (fun c22 => ?_)
    · rw [if_pos c22] at h
      refine x_pick [0, 1, 2] rfl ?_
      exact t_X13_between_15 hls hC hl hE h
    · rw [if_neg c22] at h
      refine x_iload_n (pc := 8) hC 2 dX13_between_8 rfl rfl ?_
      obtain ⟨o7, ho7, h⟩ := bd_some h
      refine x_callS (pc := 9) (As := [.int a2]) (rest := [.ref a0]) hC hl (c_X13_isDeck l hls ho7) lk_RX13_121 dX13_between_9 rfl rfl (Nat.le_of_ble_eq_true rfl) ⟨Nat.le_of_ble_eq_true rfl, Nat.le_of_ble_eq_true rfl⟩ ⟨(Nat.le_of_ble_eq_true rfl), (Nat.le_of_ble_eq_true rfl)⟩ ?_
      rcases o7 with ⟨x5 | E8, S6⟩
      · refine xk_i ?_
        replace h := bk_l h
        refine x_if_ne (pc := 12) hC 19 dX13_between_12 (by decide) (fun c21 => ?_) (fun c21 => ?_)
        · rw [if_neg c21] at h
          refine x_aload_n (pc := 19) hC 0 dX13_between_19 rfl rfl ?_
          refine x_iload_n (pc := 20) hC 1 dX13_between_20 rfl rfl ?_
          obtain ⟨g9, h⟩ := gd_some h
          obtain ⟨o12, ho12, h⟩ := bd_some h
          refine x_callV (pc := 21) (As := [.int a1]) (rest := [.ref a0]) hC hl (c_X13_isEmpty l hls ho12) lk_RX13_133 fc_19 g9 dX13_between_21 rfl rfl (Nat.le_of_ble_eq_true rfl) ⟨Nat.le_of_ble_eq_true rfl, Nat.le_of_ble_eq_true rfl⟩ ⟨(Nat.le_of_ble_eq_true rfl), (Nat.le_of_ble_eq_true rfl)⟩ ?_
          rcases o12 with ⟨x10 | E13, S11⟩
          · refine xk_i ?_
            replace h := bk_l h
            refine x_if_ne (pc := 24) hC 35 dX13_between_24 (by decide) (fun c20 => ?_) (fun c20 => ?_)
            · rw [if_neg c20] at h
              refine x_pick [0, 1, 2] rfl ?_
              exact t_X13_between_35 hls hC hl hE h
            · rw [if_pos c20] at h
              refine x_aload_n (pc := 27) hC 0 dX13_between_27 rfl rfl ?_
              refine x_iload_n (pc := 28) hC 2 dX13_between_28 rfl rfl ?_
              obtain ⟨g14, h⟩ := gd_some h
              obtain ⟨o17, ho17, h⟩ := bd_some h
              refine x_callV (pc := 29) (As := [.int a2]) (rest := [.ref a0]) hC hl (c_X13_isEmpty l hls ho17) lk_RX13_133 fc_19 g14 dX13_between_29 rfl rfl (Nat.le_of_ble_eq_true rfl) ⟨Nat.le_of_ble_eq_true rfl, Nat.le_of_ble_eq_true rfl⟩ ⟨(Nat.le_of_ble_eq_true rfl), (Nat.le_of_ble_eq_true rfl)⟩ ?_
              rcases o17 with ⟨x15 | E18, S16⟩
              · refine xk_i ?_
                replace h := bk_l h
                refine x_if_eq (pc := 32) hC 39 dX13_between_32 (by decide) (fun c19 => ?_) (fun c19 => ?_)
                · rw [if_pos c19] at h
                  refine x_iconst (pc := 39) (v := (0 : Int32)) hC dX13_between_39 (by decide) ?_
                  refine x_pick [0, 1, 2] rfl ?_
                  exact t_X13_between_40 hls hC hl hE h
                · rw [if_neg c19] at h
                  refine x_pick [0, 1, 2] rfl ?_
                  exact t_X13_between_35 hls hC hl hE h
              · exact xk_r (xt_out hC hE (bk_r h) (Nat.le_of_ble_eq_true rfl) (Nat.le_of_ble_eq_true rfl))
          · exact xk_r (xt_out hC hE (bk_r h) (Nat.le_of_ble_eq_true rfl) (Nat.le_of_ble_eq_true rfl))
        · rw [if_pos c21] at h
          refine x_pick [0, 1, 2] rfl ?_
          exact t_X13_between_15 hls hC hl hE h
      · exact xk_r (xt_out hC hE (bk_r h) (Nat.le_of_ble_eq_true rfl) (Nat.le_of_ble_eq_true rfl))
  · exact xk_r (xt_out hC hE (bk_r h) (Nat.le_of_ble_eq_true rfl) (Nat.le_of_ble_eq_true rfl))
theorem c_X13_between (l : Launch) (hls : l.stackTraces = false) {S : mS} {a0 : Nat} {a1 : Int32} {a2 : Int32} {o : Rs Int32} (h : f_X13_between S a0 a1 a2 = some o) : CT (fun r : Int32 => some (.int r)) l yX13_between (.code yX13_between cX13_between 3 (Option.some Jvm.ClassFile.FieldType.int)) rm_X13_between S [.ref a0, .int a1, .int a2] o := ct_of (by decide +kernel) hls (Nat.le_of_ble_eq_true rfl) (fun C hl hC hE => t_X13_between hls hC hl hE h)
abbrev rm_X13_sync : Room := { frames := 10, cells := 0, slots := 0, locals := 192 }
def f_X13_sync_208  (S : mS) (a0 : Nat) (a6 : Int32) (s0 : Nat) (s1 : Int64) (s2 : Int64) : Option (Rs Int32) :=
  lt9 (s1 + s2) fun x1 => gd (gK S s0 = 17) (bd (f_X11_puts S s0 x1) fun _ S4 => gd (gK S4 a0 = 19) (bd (f_X13_logs S4 a0) fun _ S9 => some (.inl a6, S9)))
set_option maxHeartbeats 2000000 in
set_option maxRecDepth 100000 in
theorem t_X13_sync_208 {l : Launch} (hls : l.stackTraces = false) {C : cT} (hC : CX C cX13_sync 9 yX13_sync rm_X13_sync) (hl : C.2.1 = l) {S0 : mS} (hE : CE C S0 (Option.some Jvm.ClassFile.FieldType.int) []) {o : Rs Int32} {S : mS} {a0 : Nat} {a6 : Int32} {s0 : Nat} {s1 : Int64} {s2 : Int64} (h : f_X13_sync_208  S a0 a6 s0 s1 s2 = some o) : XX C 9 (QQ C (fun r : Int32 => some (.int r)) S0 o) (0) (0) S 208 [(0, .ref a0), (6, .int a6)] [.long s2, .long s1, .ref s0] := by
  unfold f_X13_sync_208 at h
  refine x_laddv (pc := 208) hC dX13_sync_208 (fun x1 hx1 => ?_)
  replace h := lt_x hx1 h
  obtain ⟨g2, h⟩ := gd_some h
  obtain ⟨o5, ho5, h⟩ := bd_some h
  refine x_callV (pc := 209) (As := [.long x1]) (rest := []) hC hl (c_X11_puts l hls ho5) lk_RX13_322 fc_17 g2 dX13_sync_209 rfl rfl (Nat.le_of_ble_eq_true rfl) ⟨Nat.le_of_ble_eq_true rfl, Nat.le_of_ble_eq_true rfl⟩ ⟨(Nat.le_of_ble_eq_true rfl), (Nat.le_of_ble_eq_true rfl)⟩ ?_
  rcases o5 with ⟨_ | E6, S4⟩
  · refine xk_v ?_
    replace h := bk_l h
    refine x_aload_n (pc := 212) hC 0 dX13_sync_212 rfl rfl ?_
    obtain ⟨g7, h⟩ := gd_some h
    obtain ⟨o10, ho10, h⟩ := bd_some h
    refine x_callV (pc := 213) (As := []) (rest := []) hC hl (c_X13_logs l hls ho10) lk_RX13_81 fc_19 g7 dX13_sync_213 rfl rfl (Nat.le_of_ble_eq_true rfl) ⟨Nat.le_of_ble_eq_true rfl, Nat.le_of_ble_eq_true rfl⟩ ⟨(Nat.le_of_ble_eq_true rfl), (Nat.le_of_ble_eq_true rfl)⟩ ?_
    rcases o10 with ⟨_ | E11, S9⟩
    · refine xk_v ?_
      replace h := bk_l h
      refine x_iload (pc := 216) hC 1 dX13_sync_216 rfl ?_
      exact x_ireturn (pc := 218) hC hE dX13_sync_218 (so h) (Nat.le_of_ble_eq_true rfl) (Nat.le_of_ble_eq_true rfl)
    · exact xk_r (xt_out hC hE (bk_r h) (Nat.le_of_ble_eq_true rfl) (Nat.le_of_ble_eq_true rfl))
  · exact xk_r (xt_out hC hE (bk_r h) (Nat.le_of_ble_eq_true rfl) (Nat.le_of_ble_eq_true rfl))
def f_X13_sync_153 (rc98 : mS → Nat → Nat → Nat → Int32 → Int32 → Int32 → Option (Rs Int32)) (S : mS) (a0 : Nat) (a3 : Nat) (a4 : Nat) (a5 : Int32) (a6 : Int32) (a7 : Int32) : Option (Rs Int32) :=
  lt9 (a7 + Int32.ofInt (1)) fun x1 => rc98 S a0 a3 a4 a5 a6 x1
set_option maxHeartbeats 2000000 in
set_option maxRecDepth 100000 in
theorem t_X13_sync_153 {l : Launch} (hls : l.stackTraces = false) {C : cT} (hC : CX C cX13_sync 9 yX13_sync rm_X13_sync) (hl : C.2.1 = l) {S0 : mS} (hE : CE C S0 (Option.some Jvm.ClassFile.FieldType.int) []) {o : Rs Int32} {rc98 : mS → Nat → Nat → Nat → Int32 → Int32 → Int32 → Option (Rs Int32)} (hrc98 : ∀ (S : mS) (a0 : Nat) (a3 : Nat) (a4 : Nat) (a5 : Int32) (a6 : Int32) (a7 : Int32), rc98 S a0 a3 a4 a5 a6 a7 = some o → XX C 9 (QQ C (fun r : Int32 => some (.int r)) S0 o) (0) (0) S 98 [(0, .ref a0), (3, .ref a3), (4, .ref a4), (5, .int a5), (6, .int a6), (7, .int a7)] []) {S : mS} {a0 : Nat} {a3 : Nat} {a4 : Nat} {a5 : Int32} {a6 : Int32} {a7 : Int32} (h : f_X13_sync_153 rc98 S a0 a3 a4 a5 a6 a7 = some o) : XX C 9 (QQ C (fun r : Int32 => some (.int r)) S0 o) (0) (0) S 153 [(0, .ref a0), (3, .ref a3), (4, .ref a4), (5, .int a5), (6, .int a6), (7, .int a7)] [] := by
  unfold f_X13_sync_153 at h
  obtain ⟨x1, hx1⟩ : ∃ z, z = (a7 + Int32.ofInt (1)) := ⟨_, rfl⟩
  replace h := lt_x hx1 h
  refine x_iinc (pc := 153) hC 5 dX13_sync_153 rfl hx1.symm (by decide) (by decide) rfl ?_
  refine x_goto (pc := 156) hC 98 dX13_sync_156 (by decide) ?_
  refine x_pick [1, 2, 3, 4, 5, 0] rfl ?_
  exact hrc98 _ _ _ _ _ _ _ h
def f_X13_sync_98  : Nat → mS → Nat → Nat → Nat → Int32 → Int32 → Int32 → Option (Rs Int32)
  | 0, _, _, _, _, _, _, _ => none
  | k + 1, S, a0, a3, a4, a5, a6, a7 => if (160 : Int32) < a7 then (gd (gK S a3 = 17) (zI (sI S a3 2 a6) fun S2 => gd (gK S2 a4 = 17) (lt9 (gL S2 a4 9) fun x5 => lt9 (gL S2 a3 9) fun x6 => lt9 (x5 - x6) fun x7 => bd (f_J9_floorMod_f86c9 S2 x7 (60000000 : Int64)) fun x8 S9 => gd (gK S9 a3 = 17) (lt9 (gL S9 a3 9) fun x13 => lt9 (lg_cmp x8 (30000000 : Int64)) fun x14 => if x14 < 0 then (f_X13_sync_208  S9 a0 a6 a3 x13 x8) else (lt9 (x8 - (60000000 : Int64)) fun x15 => f_X13_sync_208  S9 a0 a6 a3 x13 x15))))) else (gd (gK S a3 = 17) (lt9 (gR S a3 0) fun r18 => gd (gK S r18 = 18) (lt9 (gI S r18 6) fun x20 => lt9 ((1000 : Int32) + a7) fun x21 => lt9 (x20 * x21) fun x22 => lt9 (x22 - a5) fun x23 => lt9 (if 0 ≤ x23 then x23 else 0 - x23) fun x24 => lt9 (gR S a3 0) fun r25 => gd (gK S r25 = 18) (lt9 (gI S r25 6) fun x27 => lt9 ((1000 : Int32) + a6) fun x28 => lt9 (x27 * x28) fun x29 => lt9 (x29 - a5) fun x30 => lt9 (if 0 ≤ x30 then x30 else 0 - x30) fun x31 => if x31 ≤ x24 then (f_X13_sync_153 (f_X13_sync_98 k) S a0 a3 a4 a5 a6 a7) else (f_X13_sync_153 (f_X13_sync_98 k) S a0 a3 a4 a5 a7 a7)))))
set_option maxHeartbeats 2000000 in
set_option maxRecDepth 100000 in
theorem t_X13_sync_98 {l : Launch} (hls : l.stackTraces = false) {C : cT} (hC : CX C cX13_sync 9 yX13_sync rm_X13_sync) (hl : C.2.1 = l) {S0 : mS} (hE : CE C S0 (Option.some Jvm.ClassFile.FieldType.int) []) {o : Rs Int32} : ∀ (k : Nat) (S : mS) (a0 : Nat) (a3 : Nat) (a4 : Nat) (a5 : Int32) (a6 : Int32) (a7 : Int32), f_X13_sync_98  k S a0 a3 a4 a5 a6 a7 = some o → XX C 9 (QQ C (fun r : Int32 => some (.int r)) S0 o) (0) (0) S 98 [(0, .ref a0), (3, .ref a3), (4, .ref a4), (5, .int a5), (6, .int a6), (7, .int a7)] [] := by
  intro k
  induction k with
  | zero => intro S a0 a3 a4 a5 a6 a7 h; cases h
  | succ k ih =>
    intro S a0 a3 a4 a5 a6 a7 h
    unfold f_X13_sync_98 at h
    refine x_iload (pc := 98) hC 5 dX13_sync_98 rfl ?_
    refine x_sipush (pc := 100) (v := (160 : Int32)) hC dX13_sync_100 (by decide) ?_
    refine x_icmp_gt (pc := 103) hC 159 dX13_sync_103 (by decide) (fun c33 => ?_) (fun c33 => ?_)
    · rw [if_pos c33] at h
      refine x_aload_n (pc := 159) hC 1 dX13_sync_159 rfl rfl ?_
      refine x_iload (pc := 160) hC 4 dX13_sync_160 rfl ?_
      obtain ⟨g1, h⟩ := gd_some h
      refine x_putIv (pc := 162) (k := 2) hC fc_17 fl_RX13_146 dX13_sync_162 rfl rfl (nf_int _) g1 (fun S2 hS2 => ?_)
      replace h := zI_x hS2 h
      have g3 : gK S2 a3 = 17 := by rw [hS2]; exact g1
      refine x_aload (pc := 165) hC 2 dX13_sync_165 rfl ?_
      obtain ⟨g4, h⟩ := gd_some h
      refine x_getLv (pc := 167) (k := 9) hC fc_17 fl_RX13_163 dX13_sync_167 rfl g4 (fun x5 hx5 => ?_)
      replace h := lt_x hx5 h
      refine x_aload_n (pc := 170) hC 1 dX13_sync_170 rfl rfl ?_
      refine x_getLv (pc := 171) (k := 9) hC fc_17 fl_RX13_163 dX13_sync_171 rfl g3 (fun x6 hx6 => ?_)
      replace h := lt_x hx6 h
      refine x_lsubv (pc := 174) hC dX13_sync_174 (fun x7 hx7 => ?_)
      replace h := lt_x hx7 h
      refine x_ldc2 (pc := 175) hC wm_1968 dX13_sync_175 ?_
      obtain ⟨o10, ho10, h⟩ := bd_some h
      refine x_callS (pc := 178) (As := [.long x7, .long (60000000 : Int64)]) (rest := []) hC hl (c_J9_floorMod_f86c9 l hls ho10) lk_RX13_313 dX13_sync_178 rfl rfl (Nat.le_of_ble_eq_true rfl) ⟨Nat.le_of_ble_eq_true rfl, Nat.le_of_ble_eq_true rfl⟩ ⟨(Nat.le_of_ble_eq_true rfl), (Nat.le_of_ble_eq_true rfl)⟩ ?_
      rcases o10 with ⟨x8 | E11, S9⟩
      · refine xk_j ?_
        replace h := bk_l h
        refine x_lstore (pc := 181) hC dX13_sync_181 (by decide) (by decide) rfl ?_
        refine x_aload_n (pc := 183) hC 2 dX13_sync_183 rfl rfl ?_
        refine x_aload_n (pc := 184) hC 2 dX13_sync_184 rfl rfl ?_
        obtain ⟨g12, h⟩ := gd_some h
        refine x_getLv (pc := 185) (k := 9) hC fc_17 fl_RX13_163 dX13_sync_185 rfl g12 (fun x13 hx13 => ?_)
        replace h := lt_x hx13 h
        refine x_lload (pc := 188) hC 0 dX13_sync_188 rfl ?_
        refine x_ldc2 (pc := 190) hC wm_1976 dX13_sync_190 ?_
        refine x_lcmpv (pc := 193) hC dX13_sync_193 (fun x14 hx14 => ?_)
        replace h := lt_x hx14 h
        refine x_if_lt (pc := 194) hC 206 dX13_sync_194 (by decide) (fun c16 => ?_) (fun c16 => ?_)
        · rw [if_pos c16] at h
          refine x_lload (pc := 206) hC 0 dX13_sync_206 rfl ?_
          refine x_pick [1, 5] rfl ?_
          exact t_X13_sync_208 hls hC hl hE h
        · rw [if_neg c16] at h
          refine x_lload (pc := 197) hC 0 dX13_sync_197 rfl ?_
          refine x_ldc2 (pc := 199) hC wm_1968 dX13_sync_199 ?_
          refine x_lsubv (pc := 202) hC dX13_sync_202 (fun x15 hx15 => ?_)
          replace h := lt_x hx15 h
          refine x_goto (pc := 203) hC 208 dX13_sync_203 (by decide) ?_
          refine x_pick [1, 5] rfl ?_
          exact t_X13_sync_208 hls hC hl hE h
      · exact xk_r (xt_out hC hE (bk_r h) (Nat.le_of_ble_eq_true rfl) (Nat.le_of_ble_eq_true rfl))
    · rw [if_neg c33] at h
      refine x_aload_n (pc := 106) hC 1 dX13_sync_106 rfl rfl ?_
      obtain ⟨g17, h⟩ := gd_some h
      refine x_getRv (pc := 107) (k := 0) hC fc_17 fl_RX13_60 dX13_sync_107 rfl g17 (fun r18 hr18 => ?_)
      replace h := lt_x hr18 h
      obtain ⟨g19, h⟩ := gd_some h
      refine x_getIv (pc := 110) (k := 6) hC fc_18 fl_RX13_95 dX13_sync_110 rfl g19 (fun x20 hx20 => ?_)
      replace h := lt_x hx20 h
      refine x_sipush (pc := 113) (v := (1000 : Int32)) hC dX13_sync_113 (by decide) ?_
      refine x_iload (pc := 116) hC 5 dX13_sync_116 rfl ?_
      refine x_iaddv (pc := 118) hC dX13_sync_118 (fun x21 hx21 => ?_)
      replace h := lt_x hx21 h
      refine x_imulv (pc := 119) hC dX13_sync_119 (fun x22 hx22 => ?_)
      replace h := lt_x hx22 h
      refine x_iload (pc := 120) hC 3 dX13_sync_120 rfl ?_
      refine x_isubv (pc := 122) hC dX13_sync_122 (fun x23 hx23 => ?_)
      replace h := lt_x hx23 h
      refine x_mabs (pc := 123) hC wm_1897 wm_640 wm_69 wm_641 dX13_sync_123 (Nat.le_of_ble_eq_true rfl) (Nat.le_of_ble_eq_true rfl) (Nat.le_of_ble_eq_true rfl) (Nat.le_of_ble_eq_true rfl) (fun x24 hx24 => ?_)
      replace h := lt_x hx24 h
      refine x_aload_n (pc := 126) hC 1 dX13_sync_126 rfl rfl ?_
      refine x_getRv (pc := 127) (k := 0) hC fc_17 fl_RX13_60 dX13_sync_127 rfl g17 (fun r25 hr25 => ?_)
      replace h := lt_x hr25 h
      obtain ⟨g26, h⟩ := gd_some h
      refine x_getIv (pc := 130) (k := 6) hC fc_18 fl_RX13_95 dX13_sync_130 rfl g26 (fun x27 hx27 => ?_)
      replace h := lt_x hx27 h
      refine x_sipush (pc := 133) (v := (1000 : Int32)) hC dX13_sync_133 (by decide) ?_
      refine x_iload (pc := 136) hC 4 dX13_sync_136 rfl ?_
      refine x_iaddv (pc := 138) hC dX13_sync_138 (fun x28 hx28 => ?_)
      replace h := lt_x hx28 h
      refine x_imulv (pc := 139) hC dX13_sync_139 (fun x29 hx29 => ?_)
      replace h := lt_x hx29 h
      refine x_iload (pc := 140) hC 3 dX13_sync_140 rfl ?_
      refine x_isubv (pc := 142) hC dX13_sync_142 (fun x30 hx30 => ?_)
      replace h := lt_x hx30 h
      refine x_mabs (pc := 143) hC wm_1897 wm_640 wm_69 wm_641 dX13_sync_143 (Nat.le_of_ble_eq_true rfl) (Nat.le_of_ble_eq_true rfl) (Nat.le_of_ble_eq_true rfl) (Nat.le_of_ble_eq_true rfl) (fun x31 hx31 => ?_)
      replace h := lt_x hx31 h
      refine x_icmp_ge (pc := 146) hC 153 dX13_sync_146 (by decide) (fun c32 => ?_) (fun c32 => ?_)
      · rw [if_pos c32] at h
        refine x_pick [0, 1, 2, 3, 4, 5] rfl ?_
        exact t_X13_sync_153 hls hC hl hE (fun z0 z1 z2 z3 z4 z5 z6 hz => ih z0 z1 z2 z3 z4 z5 z6 hz) h
      · rw [if_neg c32] at h
        refine x_iload (pc := 149) hC 5 dX13_sync_149 rfl ?_
        refine x_istore (pc := 151) hC dX13_sync_151 (by decide) (by decide) rfl ?_
        refine x_pick [1, 2, 3, 4, 0, 5] rfl ?_
        exact t_X13_sync_153 hls hC hl hE (fun z0 z1 z2 z3 z4 z5 z6 hz => ih z0 z1 z2 z3 z4 z5 z6 hz) h
def f_X13_sync_45  (S : mS) (a0 : Nat) (a1 : Int32) (a2 : Int32) (s0 : Nat) (s1 : Int32) : Option (Rs Int32) :=
  gd (gK S s0 = 19) (bd (f_X13_isWrong S s0 s1) fun x2 S3 => if x2 = 0 then (gd (gK S3 a0 = 19) (lt9 (gR S3 a0 2) fun r7 => gd (gK S3 r7 = 37) (gd (¬ (a1 < 0 ∨ gZ S3 r7 ≤ (a1).toNatClampNeg)) (lt9 (gR S3 r7 (a1).toNatClampNeg) fun r11 => lt9 (gR S3 a0 2) fun r12 => gd (gK S3 r12 = 37) (gd (¬ (a2 < 0 ∨ gZ S3 r12 ≤ (a2).toNatClampNeg)) (lt9 (gR S3 r12 (a2).toNatClampNeg) fun r16 => gd (gK S3 r16 = 17) (lt9 (gR S3 r16 0) fun r18 => gd (gK S3 r18 = 18) (lt9 (gI S3 r18 6) fun x20 => lt9 (gI S3 r16 2) fun x21 => lt9 ((1000 : Int32) + x21) fun x22 => lt9 (x20 * x22) fun x23 => f_X13_sync_98  16 S3 a0 r11 r16 x23 (-160 : Int32) (-159 : Int32))))))))) else (some (.inl (0 : Int32), S3)))
set_option maxHeartbeats 2000000 in
set_option maxRecDepth 100000 in
theorem t_X13_sync_45 {l : Launch} (hls : l.stackTraces = false) {C : cT} (hC : CX C cX13_sync 9 yX13_sync rm_X13_sync) (hl : C.2.1 = l) {S0 : mS} (hE : CE C S0 (Option.some Jvm.ClassFile.FieldType.int) []) {o : Rs Int32} {S : mS} {a0 : Nat} {a1 : Int32} {a2 : Int32} {s0 : Nat} {s1 : Int32} (h : f_X13_sync_45  S a0 a1 a2 s0 s1 = some o) : XX C 9 (QQ C (fun r : Int32 => some (.int r)) S0 o) (0) (0) S 45 [(0, .ref a0), (1, .int a1), (2, .int a2)] [.int s1, .ref s0] := by
  unfold f_X13_sync_45 at h
  obtain ⟨g1, h⟩ := gd_some h
  obtain ⟨o4, ho4, h⟩ := bd_some h
  refine x_callV (pc := 45) (As := [.int s1]) (rest := []) hC hl (c_X13_isWrong l hls ho4) lk_RX13_68 fc_19 g1 dX13_sync_45 rfl rfl (Nat.le_of_ble_eq_true rfl) ⟨Nat.le_of_ble_eq_true rfl, Nat.le_of_ble_eq_true rfl⟩ ⟨(Nat.le_of_ble_eq_true rfl), (Nat.le_of_ble_eq_true rfl)⟩ ?_
  rcases o4 with ⟨x2 | E5, S3⟩
  · refine xk_i ?_
    replace h := bk_l h
    refine x_if_eq (pc := 48) hC 53 dX13_sync_48 (by decide) (fun c24 => ?_) (fun c24 => ?_)
    · rw [if_pos c24] at h
      refine x_aload_n (pc := 53) hC 0 dX13_sync_53 rfl rfl ?_
      obtain ⟨g6, h⟩ := gd_some h
      refine x_getRv (pc := 54) (k := 2) hC fc_19 fl_RX13_19 dX13_sync_54 rfl g6 (fun r7 hr7 => ?_)
      replace h := lt_x hr7 h
      refine x_iload_n (pc := 57) hC 1 dX13_sync_57 rfl rfl ?_
      obtain ⟨g10, h⟩ := gd_some h
      obtain ⟨g9, h⟩ := gd_some h
      refine x_raldv (pc := 58) (t0 := 7) hC dX13_sync_58 g10 (by decide) (fun _ => rfl) g9 (fun r11 hr11 => ?_)
      replace h := lt_x hr11 h
      refine x_astore_n (pc := 59) hC dX13_sync_59 rfl (by decide) (by decide) rfl ?_
      refine x_aload_n (pc := 60) hC 1 dX13_sync_60 rfl rfl ?_
      refine x_getRv (pc := 61) (k := 2) hC fc_19 fl_RX13_19 dX13_sync_61 rfl g6 (fun r12 hr12 => ?_)
      replace h := lt_x hr12 h
      refine x_iload_n (pc := 64) hC 3 dX13_sync_64 rfl rfl ?_
      obtain ⟨g15, h⟩ := gd_some h
      obtain ⟨g14, h⟩ := gd_some h
      refine x_raldv (pc := 65) (t0 := 7) hC dX13_sync_65 g15 (by decide) (fun _ => rfl) g14 (fun r16 hr16 => ?_)
      replace h := lt_x hr16 h
      refine x_astore (pc := 66) hC dX13_sync_66 (by decide) (by decide) rfl ?_
      refine x_aload (pc := 68) hC 0 dX13_sync_68 rfl ?_
      obtain ⟨g17, h⟩ := gd_some h
      refine x_getRv (pc := 70) (k := 0) hC fc_17 fl_RX13_60 dX13_sync_70 rfl g17 (fun r18 hr18 => ?_)
      replace h := lt_x hr18 h
      obtain ⟨g19, h⟩ := gd_some h
      refine x_getIv (pc := 73) (k := 6) hC fc_18 fl_RX13_95 dX13_sync_73 rfl g19 (fun x20 hx20 => ?_)
      replace h := lt_x hx20 h
      refine x_sipush (pc := 76) (v := (1000 : Int32)) hC dX13_sync_76 (by decide) ?_
      refine x_aload (pc := 79) hC 0 dX13_sync_79 rfl ?_
      refine x_getIv (pc := 81) (k := 2) hC fc_17 fl_RX13_146 dX13_sync_81 rfl g17 (fun x21 hx21 => ?_)
      replace h := lt_x hx21 h
      refine x_iaddv (pc := 84) hC dX13_sync_84 (fun x22 hx22 => ?_)
      replace h := lt_x hx22 h
      refine x_imulv (pc := 85) hC dX13_sync_85 (fun x23 hx23 => ?_)
      replace h := lt_x hx23 h
      refine x_istore (pc := 86) hC dX13_sync_86 (by decide) (by decide) rfl ?_
      refine x_sipush (pc := 88) (v := (-160 : Int32)) hC dX13_sync_88 (by decide) ?_
      refine x_istore (pc := 91) hC dX13_sync_91 (by decide) (by decide) rfl ?_
      refine x_sipush (pc := 93) (v := (-159 : Int32)) hC dX13_sync_93 (by decide) ?_
      refine x_istore (pc := 96) hC dX13_sync_96 (by decide) (by decide) rfl ?_
      refine x_pick [5, 4, 3, 2, 1, 0] rfl ?_
      exact t_X13_sync_98 hls hC hl hE 16 _ _ _ _ _ _ _ h
    · rw [if_neg c24] at h
      refine x_iconst (pc := 51) (v := (0 : Int32)) hC dX13_sync_51 (by decide) ?_
      exact x_ireturn (pc := 52) hC hE dX13_sync_52 (so h) (Nat.le_of_ble_eq_true rfl) (Nat.le_of_ble_eq_true rfl)
  · exact xk_r (xt_out hC hE (bk_r h) (Nat.le_of_ble_eq_true rfl) (Nat.le_of_ble_eq_true rfl))
def f_X13_sync_15  (S : mS) (a0 : Nat) (a1 : Int32) (a2 : Int32) (s0 : Nat) : Option (Rs Int32) :=
  f_X13_sync_45  S a0 a1 a2 s0 (1 : Int32)
set_option maxHeartbeats 2000000 in
set_option maxRecDepth 100000 in
theorem t_X13_sync_15 {l : Launch} (hls : l.stackTraces = false) {C : cT} (hC : CX C cX13_sync 9 yX13_sync rm_X13_sync) (hl : C.2.1 = l) {S0 : mS} (hE : CE C S0 (Option.some Jvm.ClassFile.FieldType.int) []) {o : Rs Int32} {S : mS} {a0 : Nat} {a1 : Int32} {a2 : Int32} {s0 : Nat} (h : f_X13_sync_15  S a0 a1 a2 s0 = some o) : XX C 9 (QQ C (fun r : Int32 => some (.int r)) S0 o) (0) (0) S 15 [(0, .ref a0), (1, .int a1), (2, .int a2)] [.ref s0] := by
  unfold f_X13_sync_15 at h
  refine x_iconst (pc := 15) (v := (1 : Int32)) hC dX13_sync_15 (by decide) ?_
  refine x_goto (pc := 16) hC 45 dX13_sync_16 (by decide) ?_
  refine x_pick [0, 1, 2] rfl ?_
  exact t_X13_sync_45 hls hC hl hE h
def f_X13_sync_40  (S : mS) (a0 : Nat) (a1 : Int32) (a2 : Int32) (s0 : Nat) : Option (Rs Int32) :=
  f_X13_sync_45  S a0 a1 a2 s0 (2 : Int32)
set_option maxHeartbeats 2000000 in
set_option maxRecDepth 100000 in
theorem t_X13_sync_40 {l : Launch} (hls : l.stackTraces = false) {C : cT} (hC : CX C cX13_sync 9 yX13_sync rm_X13_sync) (hl : C.2.1 = l) {S0 : mS} (hE : CE C S0 (Option.some Jvm.ClassFile.FieldType.int) []) {o : Rs Int32} {S : mS} {a0 : Nat} {a1 : Int32} {a2 : Int32} {s0 : Nat} (h : f_X13_sync_40  S a0 a1 a2 s0 = some o) : XX C 9 (QQ C (fun r : Int32 => some (.int r)) S0 o) (0) (0) S 40 [(0, .ref a0), (1, .int a1), (2, .int a2)] [.ref s0] := by
  unfold f_X13_sync_40 at h
  refine x_iconst (pc := 40) (v := (2 : Int32)) hC dX13_sync_40 (by decide) ?_
  refine x_goto (pc := 41) hC 45 dX13_sync_41 (by decide) ?_
  refine x_pick [0, 1, 2] rfl ?_
  exact t_X13_sync_45 hls hC hl hE h
def f_X13_sync (S : mS) (a0 : Nat) (a1 : Int32) (a2 : Int32) : Option (Rs Int32) :=
  bd (f_X13_isDeck S a1) fun x1 S2 => if x1 = 0 then (f_X13_sync_15  S2 a0 a1 a2 a0) else (bd (f_X13_isDeck S2 a2) fun x5 S6 => if x5 = 0 then (f_X13_sync_15  S6 a0 a1 a2 a0) else (gd (gK S6 a0 = 19) (bd (f_X13_isEmpty S6 a0 a1) fun x10 S11 => if x10 = 0 then (gd (gK S11 a0 = 19) (bd (f_X13_isEmpty S11 a0 a2) fun x15 S16 => if x15 = 0 then (if a1 = a2 then (f_X13_sync_40  S16 a0 a1 a2 a0) else (f_X13_sync_45  S16 a0 a1 a2 a0 (0 : Int32))) else (f_X13_sync_40  S16 a0 a1 a2 a0))) else (f_X13_sync_40  S11 a0 a1 a2 a0))))
set_option maxHeartbeats 2000000 in
set_option maxRecDepth 100000 in
theorem t_X13_sync {l : Launch} (hls : l.stackTraces = false) {C : cT} (hC : CX C cX13_sync 9 yX13_sync rm_X13_sync) (hl : C.2.1 = l) {S0 : mS} (hE : CE C S0 (Option.some Jvm.ClassFile.FieldType.int) []) {o : Rs Int32} {S : mS} {a0 : Nat} {a1 : Int32} {a2 : Int32} (h : f_X13_sync S a0 a1 a2 = some o) : XX C 9 (QQ C (fun r : Int32 => some (.int r)) S0 o) 0 0 S 0 [(0, .ref a0), (1, .int a1), (2, .int a2)] [] := by
  unfold f_X13_sync at h
  refine x_aload_n (pc := 0) hC 0 dX13_sync_0 rfl rfl ?_
  refine x_iload_n (pc := 1) hC 1 dX13_sync_1 rfl rfl ?_
  obtain ⟨o3, ho3, h⟩ := bd_some h
  refine x_callS (pc := 2) (As := [.int a1]) (rest := [.ref a0]) hC hl (c_X13_isDeck l hls ho3) lk_RX13_121 dX13_sync_2 rfl rfl (Nat.le_of_ble_eq_true rfl) ⟨Nat.le_of_ble_eq_true rfl, Nat.le_of_ble_eq_true rfl⟩ ⟨(Nat.le_of_ble_eq_true rfl), (Nat.le_of_ble_eq_true rfl)⟩ ?_
  rcases o3 with ⟨x1 | E4, S2⟩
  · refine xk_i ?_
    replace h := bk_l h
    refine x_if_eq (pc := 5) hC 15 dX13_sync_5 (by decide) (fun c23 => ?_) (fun c23 => ?_)
    · rw [if_pos c23] at h
      refine x_pick [0, 1, 2] rfl ?_
      exact t_X13_sync_15 hls hC hl hE h
    · rw [if_neg c23] at h
      refine x_iload_n (pc := 8) hC 2 dX13_sync_8 rfl rfl ?_
      obtain ⟨o7, ho7, h⟩ := bd_some h
      refine x_callS (pc := 9) (As := [.int a2]) (rest := [.ref a0]) hC hl (c_X13_isDeck l hls ho7) lk_RX13_121 dX13_sync_9 rfl rfl (Nat.le_of_ble_eq_true rfl) ⟨Nat.le_of_ble_eq_true rfl, Nat.le_of_ble_eq_true rfl⟩ ⟨(Nat.le_of_ble_eq_true rfl), (Nat.le_of_ble_eq_true rfl)⟩ ?_
      rcases o7 with ⟨x5 | E8, S6⟩
      · refine xk_i ?_
        replace h := bk_l h
        refine x_if_ne (pc := 12) hC 19 dX13_sync_12 (by decide) (fun c22 => ?_) (fun c22 => ?_)
        · rw [if_neg c22] at h
          refine x_aload_n (pc := 19) hC 0 dX13_sync_19 rfl rfl ?_
          refine x_iload_n (pc := 20) hC 1 dX13_sync_20 rfl rfl ?_
          obtain ⟨g9, h⟩ := gd_some h
          obtain ⟨o12, ho12, h⟩ := bd_some h
          refine x_callV (pc := 21) (As := [.int a1]) (rest := [.ref a0]) hC hl (c_X13_isEmpty l hls ho12) lk_RX13_133 fc_19 g9 dX13_sync_21 rfl rfl (Nat.le_of_ble_eq_true rfl) ⟨Nat.le_of_ble_eq_true rfl, Nat.le_of_ble_eq_true rfl⟩ ⟨(Nat.le_of_ble_eq_true rfl), (Nat.le_of_ble_eq_true rfl)⟩ ?_
          rcases o12 with ⟨x10 | E13, S11⟩
          · refine xk_i ?_
            replace h := bk_l h
            refine x_if_ne (pc := 24) hC 40 dX13_sync_24 (by decide) (fun c21 => ?_) (fun c21 => ?_)
            · rw [if_neg c21] at h
              refine x_pick [0, 1, 2] rfl ?_
              exact t_X13_sync_40 hls hC hl hE h
            · rw [if_pos c21] at h
              refine x_aload_n (pc := 27) hC 0 dX13_sync_27 rfl rfl ?_
              refine x_iload_n (pc := 28) hC 2 dX13_sync_28 rfl rfl ?_
              obtain ⟨g14, h⟩ := gd_some h
              obtain ⟨o17, ho17, h⟩ := bd_some h
              refine x_callV (pc := 29) (As := [.int a2]) (rest := [.ref a0]) hC hl (c_X13_isEmpty l hls ho17) lk_RX13_133 fc_19 g14 dX13_sync_29 rfl rfl (Nat.le_of_ble_eq_true rfl) ⟨Nat.le_of_ble_eq_true rfl, Nat.le_of_ble_eq_true rfl⟩ ⟨(Nat.le_of_ble_eq_true rfl), (Nat.le_of_ble_eq_true rfl)⟩ ?_
              rcases o17 with ⟨x15 | E18, S16⟩
              · refine xk_i ?_
                replace h := bk_l h
                refine x_if_ne (pc := 32) hC 40 dX13_sync_32 (by decide) (fun c20 => ?_) (fun c20 => ?_)
                · rw [if_neg c20] at h
                  refine x_pick [0, 1, 2] rfl ?_
                  exact t_X13_sync_40 hls hC hl hE h
                · rw [if_pos c20] at h
                  refine x_iload_n (pc := 35) hC 1 dX13_sync_35 rfl rfl ?_
                  refine x_iload_n (pc := 36) hC 2 dX13_sync_36 rfl rfl ?_
                  refine x_icmp_ne (pc := 37) hC 44 dX13_sync_37 (by decide) (fun c19 => ?_) (fun c19 => ?_)
                  · rw [if_neg c19] at h
                    refine x_iconst (pc := 44) (v := (0 : Int32)) hC dX13_sync_44 (by decide) ?_
                    refine x_pick [0, 1, 2] rfl ?_
                    exact t_X13_sync_45 hls hC hl hE h
                  · rw [if_pos c19] at h
                    refine x_pick [0, 1, 2] rfl ?_
                    exact t_X13_sync_40 hls hC hl hE h
              · exact xk_r (xt_out hC hE (bk_r h) (Nat.le_of_ble_eq_true rfl) (Nat.le_of_ble_eq_true rfl))
          · exact xk_r (xt_out hC hE (bk_r h) (Nat.le_of_ble_eq_true rfl) (Nat.le_of_ble_eq_true rfl))
        · rw [if_pos c22] at h
          refine x_pick [0, 1, 2] rfl ?_
          exact t_X13_sync_15 hls hC hl hE h
      · exact xk_r (xt_out hC hE (bk_r h) (Nat.le_of_ble_eq_true rfl) (Nat.le_of_ble_eq_true rfl))
  · exact xk_r (xt_out hC hE (bk_r h) (Nat.le_of_ble_eq_true rfl) (Nat.le_of_ble_eq_true rfl))
theorem c_X13_sync (l : Launch) (hls : l.stackTraces = false) {S : mS} {a0 : Nat} {a1 : Int32} {a2 : Int32} {o : Rs Int32} (h : f_X13_sync S a0 a1 a2 = some o) : CT (fun r : Int32 => some (.int r)) l yX13_sync (.code yX13_sync cX13_sync 9 (Option.some Jvm.ClassFile.FieldType.int)) rm_X13_sync S [.ref a0, .int a1, .int a2] o := ct_of (by decide +kernel) hls (Nat.le_of_ble_eq_true rfl) (fun C hl hC hE => t_X13_sync hls hC hl hE h)
abbrev rm_X13_ear : Room := { frames := 10, cells := 0, slots := 0, locals := 197 }
def f_X13_ear_81  : Nat → mS → Nat → Int32 → Int32 → Nat → Int32 → Int32 → Option (Rs Int32)
  | 0, _, _, _, _, _, _, _ => none
  | k + 1, S, a0, a2, a3, a4, a5, a6 => if a3 ≤ a6 then (gd (gK S a0 = 19) (bd (f_X13_logs S a0) fun _ S3 => gd (gK S3 a0 = 19) (lt9 (gR S3 a0 2) fun r7 => gd (gK S3 r7 = 37) (gd (¬ (a2 < 0 ∨ gZ S3 r7 ≤ (a2).toNatClampNeg)) (lt9 (gR S3 r7 (a2).toNatClampNeg) fun r11 => bd (f_X13_off S3 a4 r11) fun x12 S13 => some (.inl x12, S13)))))) else (gd (gK S a0 = 19) (lt9 (gR S a0 2) fun r17 => gd (gK S r17 = 37) (gd (¬ (a2 < 0 ∨ gZ S r17 ≤ (a2).toNatClampNeg)) (lt9 (gR S r17 (a2).toNatClampNeg) fun r21 => bd (f_X13_off S a4 r21) fun x22 S23 => gd (gK S23 a4 = 17) (lt9 (gR S23 a4 0) fun r27 => gd (gK S23 r27 = 18) (bd (f_X12_last S23 r27) fun x29 S30 => gd (gK S30 a4 = 17) (lt9 (gL S30 a4 9) fun x34 => gd (¬ (2 : Int32) = 0) (lt9 (a5 / (2 : Int32)) fun x35 => lt9 ((x35).toInt64) fun x37 => lt9 (x37 * (60000 : Int64)) fun x38 => lt9 (x34 - x38) fun x39 => lt9 (if x39 < x29 then x39 else x29) fun x40 => lt9 (if x40 < (0 : Int64) then (0 : Int64) else x40) fun x41 => zL (sL S30 a4 9 x41) fun S42 => lt9 (a6 + Int32.ofInt (1)) fun x44 => f_X13_ear_81 k S42 a0 a2 a3 a4 x22 x44))))))))
set_option maxHeartbeats 2000000 in
set_option maxRecDepth 100000 in
theorem t_X13_ear_81 {l : Launch} (hls : l.stackTraces = false) {C : cT} (hC : CX C cX13_ear 8 yX13_ear rm_X13_ear) (hl : C.2.1 = l) {S0 : mS} (hE : CE C S0 (Option.some Jvm.ClassFile.FieldType.int) []) {o : Rs Int32} : ∀ (k : Nat) (S : mS) (a0 : Nat) (a2 : Int32) (a3 : Int32) (a4 : Nat) (a5 : Int32) (a6 : Int32), f_X13_ear_81  k S a0 a2 a3 a4 a5 a6 = some o → XX C 8 (QQ C (fun r : Int32 => some (.int r)) S0 o) (0) (0) S 81 [(0, .ref a0), (2, .int a2), (3, .int a3), (4, .ref a4), (5, .int a5), (6, .int a6)] [] := by
  intro k
  induction k with
  | zero => intro S a0 a2 a3 a4 a5 a6 h; cases h
  | succ k ih =>
    intro S a0 a2 a3 a4 a5 a6 h
    unfold f_X13_ear_81 at h
    refine x_iload (pc := 81) hC 5 dX13_ear_81 rfl ?_
    refine x_iload_n (pc := 83) hC 2 dX13_ear_83 rfl rfl ?_
    refine x_icmp_ge (pc := 84) hC 145 dX13_ear_84 (by decide) (fun c45 => ?_) (fun c45 => ?_)
    · rw [if_pos c45] at h
      refine x_aload_n (pc := 145) hC 0 dX13_ear_145 rfl rfl ?_
      obtain ⟨g1, h⟩ := gd_some h
      obtain ⟨o4, ho4, h⟩ := bd_some h
      refine x_callV (pc := 146) (As := []) (rest := []) hC hl (c_X13_logs l hls ho4) lk_RX13_81 fc_19 g1 dX13_ear_146 rfl rfl (Nat.le_of_ble_eq_true rfl) ⟨Nat.le_of_ble_eq_true rfl, Nat.le_of_ble_eq_true rfl⟩ ⟨(Nat.le_of_ble_eq_true rfl), (Nat.le_of_ble_eq_true rfl)⟩ ?_
      rcases o4 with ⟨_ | E5, S3⟩
      · refine xk_v ?_
        replace h := bk_l h
        refine x_aload (pc := 149) hC 3 dX13_ear_149 rfl ?_
        refine x_aload_n (pc := 151) hC 0 dX13_ear_151 rfl rfl ?_
        obtain ⟨g6, h⟩ := gd_some h
        refine x_getRv (pc := 152) (k := 2) hC fc_19 fl_RX13_19 dX13_ear_152 rfl g6 (fun r7 hr7 => ?_)
        replace h := lt_x hr7 h
        refine x_iload_n (pc := 155) hC 1 dX13_ear_155 rfl rfl ?_
        obtain ⟨g10, h⟩ := gd_some h
        obtain ⟨g9, h⟩ := gd_some h
        refine x_raldv (pc := 156) (t0 := 7) hC dX13_ear_156 g10 (by decide) (fun _ => rfl) g9 (fun r11 hr11 => ?_)
        replace h := lt_x hr11 h
        obtain ⟨o14, ho14, h⟩ := bd_some h
        refine x_callS (pc := 157) (As := [.ref a4, .ref r11]) (rest := []) hC hl (c_X13_off l hls ho14) lk_RX13_318 dX13_ear_157 rfl rfl (Nat.le_of_ble_eq_true rfl) ⟨Nat.le_of_ble_eq_true rfl, Nat.le_of_ble_eq_true rfl⟩ ⟨(Nat.le_of_ble_eq_true rfl), (Nat.le_of_ble_eq_true rfl)⟩ ?_
        rcases o14 with ⟨x12 | E15, S13⟩
        · refine xk_i ?_
          replace h := bk_l h
          exact x_ireturn (pc := 160) hC hE dX13_ear_160 (so h) (Nat.le_of_ble_eq_true rfl) (Nat.le_of_ble_eq_true rfl)
        · exact xk_r (xt_out hC hE (bk_r h) (Nat.le_of_ble_eq_true rfl) (Nat.le_of_ble_eq_true rfl))
      · exact xk_r (xt_out hC hE (bk_r h) (Nat.le_of_ble_eq_true rfl) (Nat.le_of_ble_eq_true rfl))
    · rw [if_neg c45] at h
      refine x_aload (pc := 87) hC 3 dX13_ear_87 rfl ?_
      refine x_aload_n (pc := 89) hC 0 dX13_ear_89 rfl rfl ?_
      obtain ⟨g16, h⟩ := gd_some h
      refine x_getRv (pc := 90) (k := 2) hC fc_19 fl_RX13_19 dX13_ear_90 rfl g16 (fun r17 hr17 => ?_)
      replace h := lt_x hr17 h
      refine x_iload_n (pc := 93) hC 1 dX13_ear_93 rfl rfl ?_
      obtain ⟨g20, h⟩ := gd_some h
      obtain ⟨g19, h⟩ := gd_some h
      refine x_raldv (pc := 94) (t0 := 7) hC dX13_ear_94 g20 (by decide) (fun _ => rfl) g19 (fun r21 hr21 => ?_)
      replace h := lt_x hr21 h
      obtain ⟨o24, ho24, h⟩ := bd_some h
      refine x_callS (pc := 95) (As := [.ref a4, .ref r21]) (rest := []) hC hl (c_X13_off l hls ho24) lk_RX13_318 dX13_ear_95 rfl rfl (Nat.le_of_ble_eq_true rfl) ⟨Nat.le_of_ble_eq_true rfl, Nat.le_of_ble_eq_true rfl⟩ ⟨(Nat.le_of_ble_eq_true rfl), (Nat.le_of_ble_eq_true rfl)⟩ ?_
      rcases o24 with ⟨x22 | E25, S23⟩
      · refine xk_i ?_
        replace h := bk_l h
        refine x_istore (pc := 98) hC dX13_ear_98 (by decide) (by decide) rfl ?_
        refine x_aload (pc := 100) hC 4 dX13_ear_100 rfl ?_
        refine x_lconst (pc := 102) (v := (0 : Int64)) hC dX13_ear_102 (by decide) ?_
        refine x_aload (pc := 103) hC 4 dX13_ear_103 rfl ?_
        obtain ⟨g26, h⟩ := gd_some h
        refine x_getRv (pc := 105) (k := 0) hC fc_17 fl_RX13_60 dX13_ear_105 rfl g26 (fun r27 hr27 => ?_)
        replace h := lt_x hr27 h
        obtain ⟨g28, h⟩ := gd_some h
        obtain ⟨o31, ho31, h⟩ := bd_some h
        refine x_callV (pc := 108) (As := []) (rest := [.long (0 : Int64), .ref a4]) hC hl (c_X12_last l hls ho31) lk_RX13_326 fc_18 g28 dX13_ear_108 rfl rfl (Nat.le_of_ble_eq_true rfl) ⟨Nat.le_of_ble_eq_true rfl, Nat.le_of_ble_eq_true rfl⟩ ⟨(Nat.le_of_ble_eq_true rfl), (Nat.le_of_ble_eq_true rfl)⟩ ?_
        rcases o31 with ⟨x29 | E32, S30⟩
        · refine xk_j ?_
          replace h := bk_l h
          refine x_aload (pc := 111) hC 4 dX13_ear_111 rfl ?_
          obtain ⟨g33, h⟩ := gd_some h
          refine x_getLv (pc := 113) (k := 9) hC fc_17 fl_RX13_163 dX13_ear_113 rfl g33 (fun x34 hx34 => ?_)
          replace h := lt_x hx34 h
          refine x_iload (pc := 116) hC 5 dX13_ear_116 rfl ?_
          refine x_iconst (pc := 118) (v := (2 : Int32)) hC dX13_ear_118 (by decide) ?_
          obtain ⟨g36, h⟩ := gd_some h
          refine x_idivv (pc := 119) hC dX13_ear_119 g36 (fun x35 hx35 => ?_)
          replace h := lt_x hx35 h
          refine x_i2lv (pc := 120) hC dX13_ear_120 (fun x37 hx37 => ?_)
          replace h := lt_x hx37 h
          refine x_ldc2 (pc := 121) hC wm_2293 dX13_ear_121 ?_
          refine x_lmulv (pc := 124) hC dX13_ear_124 (fun x38 hx38 => ?_)
          replace h := lt_x hx38 h
          refine x_lsubv (pc := 125) hC dX13_ear_125 (fun x39 hx39 => ?_)
          replace h := lt_x hx39 h
          refine x_mmin_long (pc := 126) hC wm_1977 wm_561 wm_69 wm_562 dX13_ear_126 (Nat.le_of_ble_eq_true rfl) (Nat.le_of_ble_eq_true rfl) (Nat.le_of_ble_eq_true rfl) (Nat.le_of_ble_eq_true rfl) (fun x40 hx40 => ?_)
          replace h := lt_x hx40 h
          refine x_mmax_long (pc := 129) hC wm_2294 wm_816 wm_69 wm_817 dX13_ear_129 (Nat.le_of_ble_eq_true rfl) (Nat.le_of_ble_eq_true rfl) (Nat.le_of_ble_eq_true rfl) (Nat.le_of_ble_eq_true rfl) (fun x41 hx41 => ?_)
          replace h := lt_x hx41 h
          refine x_putLv (pc := 132) (k := 9) hC fc_17 fl_RX13_163 dX13_ear_132 rfl rfl rfl g33 (fun S42 hS42 => ?_)
          replace h := zL_x hS42 h
          have g43 : gK S42 a4 = 17 := by rw [hS42]; exact g33
          refine x_iload (pc := 135) hC 0 dX13_ear_135 rfl ?_
          refine x_istore (pc := 137) hC dX13_ear_137 (by decide) (by decide) rfl ?_
          obtain ⟨x44, hx44⟩ : ∃ z, z = (a6 + Int32.ofInt (1)) := ⟨_, rfl⟩
          replace h := lt_x hx44 h
          refine x_iinc (pc := 139) hC 6 dX13_ear_139 rfl hx44.symm (by decide) (by decide) rfl ?_
          refine x_goto (pc := 142) hC 81 dX13_ear_142 (by decide) ?_
          refine x_pick [3, 4, 5, 6, 1, 0] rfl ?_
          exact ih _ _ _ _ _ _ _ h
        · exact xk_r (xt_out hC hE (bk_r h) (Nat.le_of_ble_eq_true rfl) (Nat.le_of_ble_eq_true rfl))
      · exact xk_r (xt_out hC hE (bk_r h) (Nat.le_of_ble_eq_true rfl) (Nat.le_of_ble_eq_true rfl))
def f_X13_ear_59  (S : mS) (a0 : Nat) (a1 : Int32) (a2 : Int32) (a3 : Int32) (s0 : Nat) (s1 : Int32) : Option (Rs Int32) :=
  gd (gK S s0 = 19) (bd (f_X13_isWrong S s0 s1) fun x2 S3 => if x2 = 0 then (gd (gK S3 a0 = 19) (lt9 (gR S3 a0 2) fun r7 => gd (gK S3 r7 = 37) (gd (¬ (a1 < 0 ∨ gZ S3 r7 ≤ (a1).toNatClampNeg)) (lt9 (gR S3 r7 (a1).toNatClampNeg) fun r11 => f_X13_ear_81  16 S3 a0 a2 a3 r11 (0 : Int32) (0 : Int32))))) else (some (.inl (0 : Int32), S3)))
set_option maxHeartbeats 2000000 in
set_option maxRecDepth 100000 in
theorem t_X13_ear_59 {l : Launch} (hls : l.stackTraces = false) {C : cT} (hC : CX C cX13_ear 8 yX13_ear rm_X13_ear) (hl : C.2.1 = l) {S0 : mS} (hE : CE C S0 (Option.some Jvm.ClassFile.FieldType.int) []) {o : Rs Int32} {S : mS} {a0 : Nat} {a1 : Int32} {a2 : Int32} {a3 : Int32} {s0 : Nat} {s1 : Int32} (h : f_X13_ear_59  S a0 a1 a2 a3 s0 s1 = some o) : XX C 8 (QQ C (fun r : Int32 => some (.int r)) S0 o) (0) (0) S 59 [(0, .ref a0), (1, .int a1), (2, .int a2), (3, .int a3)] [.int s1, .ref s0] := by
  unfold f_X13_ear_59 at h
  obtain ⟨g1, h⟩ := gd_some h
  obtain ⟨o4, ho4, h⟩ := bd_some h
  refine x_callV (pc := 59) (As := [.int s1]) (rest := []) hC hl (c_X13_isWrong l hls ho4) lk_RX13_68 fc_19 g1 dX13_ear_59 rfl rfl (Nat.le_of_ble_eq_true rfl) ⟨Nat.le_of_ble_eq_true rfl, Nat.le_of_ble_eq_true rfl⟩ ⟨(Nat.le_of_ble_eq_true rfl), (Nat.le_of_ble_eq_true rfl)⟩ ?_
  rcases o4 with ⟨x2 | E5, S3⟩
  · refine xk_i ?_
    replace h := bk_l h
    refine x_if_eq (pc := 62) hC 67 dX13_ear_62 (by decide) (fun c12 => ?_) (fun c12 => ?_)
    · rw [if_pos c12] at h
      refine x_aload_n (pc := 67) hC 0 dX13_ear_67 rfl rfl ?_
      obtain ⟨g6, h⟩ := gd_some h
      refine x_getRv (pc := 68) (k := 2) hC fc_19 fl_RX13_19 dX13_ear_68 rfl g6 (fun r7 hr7 => ?_)
      replace h := lt_x hr7 h
      refine x_iload_n (pc := 71) hC 1 dX13_ear_71 rfl rfl ?_
      obtain ⟨g10, h⟩ := gd_some h
      obtain ⟨g9, h⟩ := gd_some h
      refine x_raldv (pc := 72) (t0 := 7) hC dX13_ear_72 g10 (by decide) (fun _ => rfl) g9 (fun r11 hr11 => ?_)
      replace h := lt_x hr11 h
      refine x_astore (pc := 73) hC dX13_ear_73 (by decide) (by decide) rfl ?_
      refine x_iconst (pc := 75) (v := (0 : Int32)) hC dX13_ear_75 (by decide) ?_
      refine x_istore (pc := 76) hC dX13_ear_76 (by decide) (by decide) rfl ?_
      refine x_iconst (pc := 78) (v := (0 : Int32)) hC dX13_ear_78 (by decide) ?_
      refine x_istore (pc := 79) hC dX13_ear_79 (by decide) (by decide) rfl ?_
      refine x_pick [3, 5, 6, 2, 1, 0] rfl ?_
      exact t_X13_ear_81 hls hC hl hE 16 _ _ _ _ _ _ _ h
    · rw [if_neg c12] at h
      refine x_iconst (pc := 65) (v := (0 : Int32)) hC dX13_ear_65 (by decide) ?_
      exact x_ireturn (pc := 66) hC hE dX13_ear_66 (so h) (Nat.le_of_ble_eq_true rfl) (Nat.le_of_ble_eq_true rfl)
  · exact xk_r (xt_out hC hE (bk_r h) (Nat.le_of_ble_eq_true rfl) (Nat.le_of_ble_eq_true rfl))
def f_X13_ear_15  (S : mS) (a0 : Nat) (a1 : Int32) (a2 : Int32) (a3 : Int32) (s0 : Nat) : Option (Rs Int32) :=
  f_X13_ear_59  S a0 a1 a2 a3 s0 (1 : Int32)
set_option maxHeartbeats 2000000 in
set_option maxRecDepth 100000 in
theorem t_X13_ear_15 {l : Launch} (hls : l.stackTraces = false) {C : cT} (hC : CX C cX13_ear 8 yX13_ear rm_X13_ear) (hl : C.2.1 = l) {S0 : mS} (hE : CE C S0 (Option.some Jvm.ClassFile.FieldType.int) []) {o : Rs Int32} {S : mS} {a0 : Nat} {a1 : Int32} {a2 : Int32} {a3 : Int32} {s0 : Nat} (h : f_X13_ear_15  S a0 a1 a2 a3 s0 = some o) : XX C 8 (QQ C (fun r : Int32 => some (.int r)) S0 o) (0) (0) S 15 [(0, .ref a0), (1, .int a1), (2, .int a2), (3, .int a3)] [.ref s0] := by
  unfold f_X13_ear_15 at h
  refine x_iconst (pc := 15) (v := (1 : Int32)) hC dX13_ear_15 (by decide) ?_
  refine x_goto (pc := 16) hC 59 dX13_ear_16 (by decide) ?_
  refine x_pick [0, 1, 2, 3] rfl ?_
  exact t_X13_ear_59 hls hC hl hE h
def f_X13_ear_54  (S : mS) (a0 : Nat) (a1 : Int32) (a2 : Int32) (a3 : Int32) (s0 : Nat) : Option (Rs Int32) :=
  f_X13_ear_59  S a0 a1 a2 a3 s0 (3 : Int32)
set_option maxHeartbeats 2000000 in
set_option maxRecDepth 100000 in
theorem t_X13_ear_54 {l : Launch} (hls : l.stackTraces = false) {C : cT} (hC : CX C cX13_ear 8 yX13_ear rm_X13_ear) (hl : C.2.1 = l) {S0 : mS} (hE : CE C S0 (Option.some Jvm.ClassFile.FieldType.int) []) {o : Rs Int32} {S : mS} {a0 : Nat} {a1 : Int32} {a2 : Int32} {a3 : Int32} {s0 : Nat} (h : f_X13_ear_54  S a0 a1 a2 a3 s0 = some o) : XX C 8 (QQ C (fun r : Int32 => some (.int r)) S0 o) (0) (0) S 54 [(0, .ref a0), (1, .int a1), (2, .int a2), (3, .int a3)] [.ref s0] := by
  unfold f_X13_ear_54 at h
  refine x_iconst (pc := 54) (v := (3 : Int32)) hC dX13_ear_54 (by decide) ?_
  refine x_goto (pc := 55) hC 59 dX13_ear_55 (by decide) ?_
  refine x_pick [0, 1, 2, 3] rfl ?_
  exact t_X13_ear_59 hls hC hl hE h
def f_X13_ear (S : mS) (a0 : Nat) (a1 : Int32) (a2 : Int32) (a3 : Int32) : Option (Rs Int32) :=
  bd (f_X13_isDeck S a1) fun x1 S2 => if x1 = 0 then (f_X13_ear_15  S2 a0 a1 a2 a3 a0) else (bd (f_X13_isDeck S2 a2) fun x5 S6 => if x5 = 0 then (f_X13_ear_15  S6 a0 a1 a2 a3 a0) else (bd (f_X13_isBetween S6 a3 (1 : Int32) (10 : Int32)) fun x9 S10 => if x9 = 0 then (f_X13_ear_59  S10 a0 a1 a2 a3 a0 (2 : Int32)) else (gd (gK S10 a0 = 19) (bd (f_X13_isEmpty S10 a0 a1) fun x14 S15 => if x14 = 0 then (gd (gK S15 a0 = 19) (bd (f_X13_isEmpty S15 a0 a2) fun x19 S20 => if x19 = 0 then (if a1 = a2 then (f_X13_ear_54  S20 a0 a1 a2 a3 a0) else (f_X13_ear_59  S20 a0 a1 a2 a3 a0 (0 : Int32))) else (f_X13_ear_54  S20 a0 a1 a2 a3 a0))) else (f_X13_ear_54  S15 a0 a1 a2 a3 a0)))))
set_option maxHeartbeats 2000000 in
set_option maxRecDepth 100000 in
theorem t_X13_ear {l : Launch} (hls : l.stackTraces = false) {C : cT} (hC : CX C cX13_ear 8 yX13_ear rm_X13_ear) (hl : C.2.1 = l) {S0 : mS} (hE : CE C S0 (Option.some Jvm.ClassFile.FieldType.int) []) {o : Rs Int32} {S : mS} {a0 : Nat} {a1 : Int32} {a2 : Int32} {a3 : Int32} (h : f_X13_ear S a0 a1 a2 a3 = some o) : XX C 8 (QQ C (fun r : Int32 => some (.int r)) S0 o) 0 0 S 0 [(0, .ref a0), (1, .int a1), (2, .int a2), (3, .int a3)] [] := by
  unfold f_X13_ear at h
  refine x_aload_n (pc := 0) hC 0 dX13_ear_0 rfl rfl ?_
  refine x_iload_n (pc := 1) hC 1 dX13_ear_1 rfl rfl ?_
  obtain ⟨o3, ho3, h⟩ := bd_some h
  refine x_callS (pc := 2) (As := [.int a1]) (rest := [.ref a0]) hC hl (c_X13_isDeck l hls ho3) lk_RX13_121 dX13_ear_2 rfl rfl (Nat.le_of_ble_eq_true rfl) ⟨Nat.le_of_ble_eq_true rfl, Nat.le_of_ble_eq_true rfl⟩ ⟨(Nat.le_of_ble_eq_true rfl), (Nat.le_of_ble_eq_true rfl)⟩ ?_
  rcases o3 with ⟨x1 | E4, S2⟩
  · refine xk_i ?_
    replace h := bk_l h
    refine x_if_eq (pc := 5) hC 15 dX13_ear_5 (by decide) (fun c28 => ?_) (fun c28 => ?_)
    · rw [if_pos c28] at h
      refine x_pick [0, 1, 2, 3] rfl ?_
      exact t_X13_ear_15 hls hC hl hE h
    · rw [if_neg c28] at h
      refine x_iload_n (pc := 8) hC 2 dX13_ear_8 rfl rfl ?_
      obtain ⟨o7, ho7, h⟩ := bd_some h
      refine x_callS (pc := 9) (As := [.int a2]) (rest := [.ref a0]) hC hl (c_X13_isDeck l hls ho7) lk_RX13_121 dX13_ear_9 rfl rfl (Nat.le_of_ble_eq_true rfl) ⟨Nat.le_of_ble_eq_true rfl, Nat.le_of_ble_eq_true rfl⟩ ⟨(Nat.le_of_ble_eq_true rfl), (Nat.le_of_ble_eq_true rfl)⟩ ?_
      rcases o7 with ⟨x5 | E8, S6⟩
      · refine xk_i ?_
        replace h := bk_l h
        refine x_if_ne (pc := 12) hC 19 dX13_ear_12 (by decide) (fun c27 => ?_) (fun c27 => ?_)
        · rw [if_neg c27] at h
          refine x_iload_n (pc := 19) hC 3 dX13_ear_19 rfl rfl ?_
          refine x_iconst (pc := 20) (v := (1 : Int32)) hC dX13_ear_20 (by decide) ?_
          refine x_bipush (pc := 21) (v := (10 : Int32)) hC dX13_ear_21 (by decide) ?_
          obtain ⟨o11, ho11, h⟩ := bd_some h
          refine x_callS (pc := 23) (As := [.int a3, .int (1 : Int32), .int (10 : Int32)]) (rest := [.ref a0]) hC hl (c_X13_isBetween l hls ho11) lk_RX13_50 dX13_ear_23 rfl rfl (Nat.le_of_ble_eq_true rfl) ⟨Nat.le_of_ble_eq_true rfl, Nat.le_of_ble_eq_true rfl⟩ ⟨(Nat.le_of_ble_eq_true rfl), (Nat.le_of_ble_eq_true rfl)⟩ ?_
          rcases o11 with ⟨x9 | E12, S10⟩
          · refine xk_i ?_
            replace h := bk_l h
            refine x_if_ne (pc := 26) hC 33 dX13_ear_26 (by decide) (fun c26 => ?_) (fun c26 => ?_)
            · rw [if_neg c26] at h
              refine x_aload_n (pc := 33) hC 0 dX13_ear_33 rfl rfl ?_
              refine x_iload_n (pc := 34) hC 1 dX13_ear_34 rfl rfl ?_
              obtain ⟨g13, h⟩ := gd_some h
              obtain ⟨o16, ho16, h⟩ := bd_some h
              refine x_callV (pc := 35) (As := [.int a1]) (rest := [.ref a0]) hC hl (c_X13_isEmpty l hls ho16) lk_RX13_133 fc_19 g13 dX13_ear_35 rfl rfl (Nat.le_of_ble_eq_true rfl) ⟨Nat.le_of_ble_eq_true rfl, Nat.le_of_ble_eq_true rfl⟩ ⟨(Nat.le_of_ble_eq_true rfl), (Nat.le_of_ble_eq_true rfl)⟩ ?_
              rcases o16 with ⟨x14 | E17, S15⟩
              · refine xk_i ?_
                replace h := bk_l h
                refine x_if_ne (pc := 38) hC 54 dX13_ear_38 (by decide) (fun c25 => ?_) (fun c25 => ?_)
                · rw [if_neg c25] at h
                  refine x_pick [0, 1, 2, 3] rfl ?_
                  exact t_X13_ear_54 hls hC hl hE h
                · rw [if_pos c25] at h
                  refine x_aload_n (pc := 41) hC 0 dX13_ear_41 rfl rfl ?_
                  refine x_iload_n (pc := 42) hC 2 dX13_ear_42 rfl rfl ?_
                  obtain ⟨g18, h⟩ := gd_some h
                  obtain ⟨o21, ho21, h⟩ := bd_some h
                  refine x_callV (pc := 43) (As := [.int a2]) (rest := [.ref a0]) hC hl (c_X13_isEmpty l hls ho21) lk_RX13_133 fc_19 g18 dX13_ear_43 rfl rfl (Nat.le_of_ble_eq_true rfl) ⟨Nat.le_of_ble_eq_true rfl, Nat.le_of_ble_eq_true rfl⟩ ⟨(Nat.le_of_ble_eq_true rfl), (Nat.le_of_ble_eq_true rfl)⟩ ?_
                  rcases o21 with ⟨x19 | E22, S20⟩
                  · refine xk_i ?_
                    replace h := bk_l h
                    refine x_if_ne (pc := 46) hC 54 dX13_ear_46 (by decide) (fun c24 => ?_) (fun c24 => ?_)
                    · rw [if_neg c24] at h
                      refine x_pick [0, 1, 2, 3] rfl ?_
                      exact t_X13_ear_54 hls hC hl hE h
                    · rw [if_pos c24] at h
                      refine x_iload_n (pc := 49) hC 1 dX13_ear_49 rfl rfl ?_
                      refine x_iload_n (pc := 50) hC 2 dX13_ear_50 rfl rfl ?_
                      refine x_icmp_ne (pc := 51) hC 58 dX13_ear_51 (by decide) (fun c23 => ?_) (fun c23 => ?_)
                      · rw [if_neg c23] at h
                        refine x_iconst (pc := 58) (v := (0 : Int32)) hC dX13_ear_58 (by decide) ?_
                        refine x_pick [0, 1, 2, 3] rfl ?_
                        exact t_X13_ear_59 hls hC hl hE h
                      · rw [if_pos c23] at h
                        refine x_pick [0, 1, 2, 3] rfl ?_
                        exact t_X13_ear_54 hls hC hl hE h
                  · exact xk_r (xt_out hC hE (bk_r h) (Nat.le_of_ble_eq_true rfl) (Nat.le_of_ble_eq_true rfl))
              · exact xk_r (xt_out hC hE (bk_r h) (Nat.le_of_ble_eq_true rfl) (Nat.le_of_ble_eq_true rfl))
            · rw [if_pos c26] at h
              refine x_iconst (pc := 29) (v := (2 : Int32)) hC dX13_ear_29 (by decide) ?_
              refine x_goto (pc := 30) hC 59 dX13_ear_30 (by decide) ?_
              refine x_pick [0, 1, 2, 3] rfl ?_
              exact t_X13_ear_59 hls hC hl hE h
          · exact xk_r (xt_out hC hE (bk_r h) (Nat.le_of_ble_eq_true rfl) (Nat.le_of_ble_eq_true rfl))
        · rw [if_pos c27] at h
          refine x_pick [0, 1, 2, 3] rfl ?_
          exact t_X13_ear_15 hls hC hl hE h
      · exact xk_r (xt_out hC hE (bk_r h) (Nat.le_of_ble_eq_true rfl) (Nat.le_of_ble_eq_true rfl))
  · exact xk_r (xt_out hC hE (bk_r h) (Nat.le_of_ble_eq_true rfl) (Nat.le_of_ble_eq_true rfl))
theorem c_X13_ear (l : Launch) (hls : l.stackTraces = false) {S : mS} {a0 : Nat} {a1 : Int32} {a2 : Int32} {a3 : Int32} {o : Rs Int32} (h : f_X13_ear S a0 a1 a2 a3 = some o) : CT (fun r : Int32 => some (.int r)) l yX13_ear (.code yX13_ear cX13_ear 8 (Option.some Jvm.ClassFile.FieldType.int)) rm_X13_ear S [.ref a0, .int a1, .int a2, .int a3] o := ct_of (by decide +kernel) hls (Nat.le_of_ble_eq_true rfl) (fun C hl hC hE => t_X13_ear hls hC hl hE h)
abbrev rm_X13_people : Room := { frames := 9, cells := 0, slots := 0, locals := 172 }
def f_X13_people_54 (rc27 : mS → Nat → Int32 → Int32 → Int32 → Option (Rs Int32)) (S : mS) (a0 : Nat) (a1 : Int32) (a3 : Int32) (s0 : Int32) (s1 : Int32) : Option (Rs Int32) :=
  lt9 (s0 + s1) fun x1 => lt9 (a3 + Int32.ofInt (1)) fun x2 => rc27 S a0 a1 x1 x2
set_option maxHeartbeats 2000000 in
set_option maxRecDepth 100000 in
theorem t_X13_people_54 {l : Launch} (hls : l.stackTraces = false) {C : cT} (hC : CX C cX13_people 4 yX13_people rm_X13_people) (hl : C.2.1 = l) {S0 : mS} (hE : CE C S0 (Option.some Jvm.ClassFile.FieldType.int) []) {o : Rs Int32} {rc27 : mS → Nat → Int32 → Int32 → Int32 → Option (Rs Int32)} (hrc27 : ∀ (S : mS) (a0 : Nat) (a1 : Int32) (a2 : Int32) (a3 : Int32), rc27 S a0 a1 a2 a3 = some o → XX C 4 (QQ C (fun r : Int32 => some (.int r)) S0 o) (0) (0) S 27 [(0, .ref a0), (1, .int a1), (2, .int a2), (3, .int a3)] []) {S : mS} {a0 : Nat} {a1 : Int32} {a3 : Int32} {s0 : Int32} {s1 : Int32} (h : f_X13_people_54 rc27 S a0 a1 a3 s0 s1 = some o) : XX C 4 (QQ C (fun r : Int32 => some (.int r)) S0 o) (0) (0) S 54 [(0, .ref a0), (1, .int a1), (3, .int a3)] [.int s1, .int s0] := by
  unfold f_X13_people_54 at h
  refine x_iaddv (pc := 54) hC dX13_people_54 (fun x1 hx1 => ?_)
  replace h := lt_x hx1 h
  refine x_istore_n (pc := 55) hC dX13_people_55 rfl (by decide) (by decide) rfl ?_
  obtain ⟨x2, hx2⟩ : ∃ z, z = (a3 + Int32.ofInt (1)) := ⟨_, rfl⟩
  replace h := lt_x hx2 h
  refine x_iinc (pc := 56) hC 3 dX13_people_56 rfl hx2.symm (by decide) (by decide) rfl ?_
  refine x_goto (pc := 59) hC 27 dX13_people_59 (by decide) ?_
  refine x_pick [2, 3, 1, 0] rfl ?_
  exact hrc27 _ _ _ _ _ h
def f_X13_people_44 (rc27 : mS → Nat → Int32 → Int32 → Int32 → Option (Rs Int32)) (S : mS) (a0 : Nat) (a1 : Int32) (a3 : Int32) (s0 : Int32) : Option (Rs Int32) :=
  gd (gK S a0 = 19) (lt9 (gR S a0 3) fun r2 => gd (gK S r2 = 30) (gd (¬ (a3 < 0 ∨ gZ S r2 ≤ (a3).toNatClampNeg)) (lt9 (gI S r2 (a3).toNatClampNeg) fun x6 => f_X13_people_54 (rc27) S a0 a1 a3 s0 x6)))
set_option maxHeartbeats 2000000 in
set_option maxRecDepth 100000 in
theorem t_X13_people_44 {l : Launch} (hls : l.stackTraces = false) {C : cT} (hC : CX C cX13_people 4 yX13_people rm_X13_people) (hl : C.2.1 = l) {S0 : mS} (hE : CE C S0 (Option.some Jvm.ClassFile.FieldType.int) []) {o : Rs Int32} {rc27 : mS → Nat → Int32 → Int32 → Int32 → Option (Rs Int32)} (hrc27 : ∀ (S : mS) (a0 : Nat) (a1 : Int32) (a2 : Int32) (a3 : Int32), rc27 S a0 a1 a2 a3 = some o → XX C 4 (QQ C (fun r : Int32 => some (.int r)) S0 o) (0) (0) S 27 [(0, .ref a0), (1, .int a1), (2, .int a2), (3, .int a3)] []) {S : mS} {a0 : Nat} {a1 : Int32} {a3 : Int32} {s0 : Int32} (h : f_X13_people_44 rc27 S a0 a1 a3 s0 = some o) : XX C 4 (QQ C (fun r : Int32 => some (.int r)) S0 o) (0) (0) S 44 [(0, .ref a0), (1, .int a1), (3, .int a3)] [.int s0] := by
  unfold f_X13_people_44 at h
  refine x_aload_n (pc := 44) hC 0 dX13_people_44 rfl rfl ?_
  obtain ⟨g1, h⟩ := gd_some h
  refine x_getRv (pc := 45) (k := 3) hC fc_19 fl_RX13_23 dX13_people_45 rfl g1 (fun r2 hr2 => ?_)
  replace h := lt_x hr2 h
  refine x_iload_n (pc := 48) hC 2 dX13_people_48 rfl rfl ?_
  obtain ⟨g5, h⟩ := gd_some h
  obtain ⟨g4, h⟩ := gd_some h
  refine x_ialdv (pc := 49) hC dX13_people_49 g5 g4 (fun x6 hx6 => ?_)
  replace h := lt_x hx6 h
  refine x_goto (pc := 50) hC 54 dX13_people_50 (by decide) ?_
  refine x_pick [0, 1, 2] rfl ?_
  exact t_X13_people_54 hls hC hl hE hrc27 h
def f_X13_people_27  : Nat → mS → Nat → Int32 → Int32 → Int32 → Option (Rs Int32)
  | 0, _, _, _, _, _ => none
  | k + 1, S, a0, a1, a2, a3 => if (6 : Int32) ≤ a3 then (some (.inl a2, S)) else (if a1 = (-1 : Int32) then (f_X13_people_44 (f_X13_people_27 k) S a0 a1 a3 a2) else (if a1 = a3 then (f_X13_people_44 (f_X13_people_27 k) S a0 a1 a3 a2) else (f_X13_people_54 (f_X13_people_27 k) S a0 a1 a3 a2 (0 : Int32))))
set_option maxHeartbeats 2000000 in
set_option maxRecDepth 100000 in
theorem t_X13_people_27 {l : Launch} (hls : l.stackTraces = false) {C : cT} (hC : CX C cX13_people 4 yX13_people rm_X13_people) (hl : C.2.1 = l) {S0 : mS} (hE : CE C S0 (Option.some Jvm.ClassFile.FieldType.int) []) {o : Rs Int32} : ∀ (k : Nat) (S : mS) (a0 : Nat) (a1 : Int32) (a2 : Int32) (a3 : Int32), f_X13_people_27  k S a0 a1 a2 a3 = some o → XX C 4 (QQ C (fun r : Int32 => some (.int r)) S0 o) (0) (0) S 27 [(0, .ref a0), (1, .int a1), (2, .int a2), (3, .int a3)] [] := by
  intro k
  induction k with
  | zero => intro S a0 a1 a2 a3 h; cases h
  | succ k ih =>
    intro S a0 a1 a2 a3 h
    unfold f_X13_people_27 at h
    refine x_iload_n (pc := 27) hC 3 dX13_people_27 rfl rfl ?_
    refine x_bipush (pc := 28) (v := (6 : Int32)) hC dX13_people_28 (by decide) ?_
    refine x_icmp_ge (pc := 30) hC 62 dX13_people_30 (by decide) (fun c3 => ?_) (fun c3 => ?_)
    · rw [if_pos c3] at h
      refine x_iload_n (pc := 62) hC 2 dX13_people_62 rfl rfl ?_
      exact x_ireturn (pc := 63) hC hE dX13_people_63 (so h) (Nat.le_of_ble_eq_true rfl) (Nat.le_of_ble_eq_true rfl)
    · rw [if_neg c3] at h
      refine x_iload_n (pc := 33) hC 2 dX13_people_33 rfl rfl ?_
      refine x_iload_n (pc := 34) hC 1 dX13_people_34 rfl rfl ?_
      refine x_iconst (pc := 35) (v := (-1 : Int32)) hC dX13_people_35 (by decide) ?_
      refine x_icmp_eq (pc := 36) hC 44 dX13_people_36 (by decide) (fun c2 => ?_) (fun c2 => ?_)
      · rw [if_pos c2] at h
        refine x_pick [0, 1, 3] rfl ?_
        exact t_X13_people_44 hls hC hl hE (fun z0 z1 z2 z3 z4 hz => ih z0 z1 z2 z3 z4 hz) h
      · rw [if_neg c2] at h
        refine x_iload_n (pc := 39) hC 1 dX13_people_39 rfl rfl ?_
        refine x_iload_n (pc := 40) hC 3 dX13_people_40 rfl rfl ?_
        refine x_icmp_ne (pc := 41) hC 53 dX13_people_41 (by decide) (fun c1 => ?_) (fun c1 => ?_)
        · rw [if_neg c1] at h
          refine x_iconst (pc := 53) (v := (0 : Int32)) hC dX13_people_53 (by decide) ?_
          refine x_pick [0, 1, 3] rfl ?_
          exact t_X13_people_54 hls hC hl hE (fun z0 z1 z2 z3 z4 hz => ih z0 z1 z2 z3 z4 hz) h
        · rw [if_pos c1] at h
          refine x_pick [0, 1, 3] rfl ?_
          exact t_X13_people_44 hls hC hl hE (fun z0 z1 z2 z3 z4 hz => ih z0 z1 z2 z3 z4 hz) h
def f_X13_people_15  (S : mS) (a0 : Nat) (a1 : Int32) (s0 : Nat) (s1 : Int32) : Option (Rs Int32) :=
  gd (gK S s0 = 19) (bd (f_X13_isWrong S s0 s1) fun x2 S3 => if x2 = 0 then (f_X13_people_27  16 S3 a0 a1 (0 : Int32) (0 : Int32)) else (some (.inl (0 : Int32), S3)))
set_option maxHeartbeats 2000000 in
set_option maxRecDepth 100000 in
theorem t_X13_people_15 {l : Launch} (hls : l.stackTraces = false) {C : cT} (hC : CX C cX13_people 4 yX13_people rm_X13_people) (hl : C.2.1 = l) {S0 : mS} (hE : CE C S0 (Option.some Jvm.ClassFile.FieldType.int) []) {o : Rs Int32} {S : mS} {a0 : Nat} {a1 : Int32} {s0 : Nat} {s1 : Int32} (h : f_X13_people_15  S a0 a1 s0 s1 = some o) : XX C 4 (QQ C (fun r : Int32 => some (.int r)) S0 o) (0) (0) S 15 [(0, .ref a0), (1, .int a1)] [.int s1, .ref s0] := by
  unfold f_X13_people_15 at h
  obtain ⟨g1, h⟩ := gd_some h
  obtain ⟨o4, ho4, h⟩ := bd_some h
  refine x_callV (pc := 15) (As := [.int s1]) (rest := []) hC hl (c_X13_isWrong l hls ho4) lk_RX13_68 fc_19 g1 dX13_people_15 rfl rfl (Nat.le_of_ble_eq_true rfl) ⟨Nat.le_of_ble_eq_true rfl, Nat.le_of_ble_eq_true rfl⟩ ⟨(Nat.le_of_ble_eq_true rfl), (Nat.le_of_ble_eq_true rfl)⟩ ?_
  rcases o4 with ⟨x2 | E5, S3⟩
  · refine xk_i ?_
    replace h := bk_l h
    refine x_if_eq (pc := 18) hC 23 dX13_people_18 (by decide) (fun c6 => ?_) (fun c6 => ?_)
    · rw [if_pos c6] at h
      refine x_iconst (pc := 23) (v := (0 : Int32)) hC dX13_people_23 (by decide) ?_
      refine x_istore_n (pc := 24) hC dX13_people_24 rfl (by decide) (by decide) rfl ?_
      refine x_iconst (pc := 25) (v := (0 : Int32)) hC dX13_people_25 (by decide) ?_
      refine x_istore_n (pc := 26) hC dX13_people_26 rfl (by decide) (by decide) rfl ?_
      refine x_pick [2, 3, 1, 0] rfl ?_
      exact t_X13_people_27 hls hC hl hE 16 _ _ _ _ _ h
    · rw [if_neg c6] at h
      refine x_iconst (pc := 21) (v := (0 : Int32)) hC dX13_people_21 (by decide) ?_
      exact x_ireturn (pc := 22) hC hE dX13_people_22 (so h) (Nat.le_of_ble_eq_true rfl) (Nat.le_of_ble_eq_true rfl)
  · exact xk_r (xt_out hC hE (bk_r h) (Nat.le_of_ble_eq_true rfl) (Nat.le_of_ble_eq_true rfl))
def f_X13_people (S : mS) (a0 : Nat) (a1 : Int32) : Option (Rs Int32) :=
  bd (f_X13_isBetween S a1 (-1 : Int32) (5 : Int32)) fun x1 S2 => if x1 = 0 then (f_X13_people_15  S2 a0 a1 a0 (1 : Int32)) else (f_X13_people_15  S2 a0 a1 a0 (0 : Int32))
set_option maxHeartbeats 2000000 in
set_option maxRecDepth 100000 in
theorem t_X13_people {l : Launch} (hls : l.stackTraces = false) {C : cT} (hC : CX C cX13_people 4 yX13_people rm_X13_people) (hl : C.2.1 = l) {S0 : mS} (hE : CE C S0 (Option.some Jvm.ClassFile.FieldType.int) []) {o : Rs Int32} {S : mS} {a0 : Nat} {a1 : Int32} (h : f_X13_people S a0 a1 = some o) : XX C 4 (QQ C (fun r : Int32 => some (.int r)) S0 o) 0 0 S 0 [(0, .ref a0), (1, .int a1)] [] := by
  unfold f_X13_people at h
  refine x_aload_n (pc := 0) hC 0 dX13_people_0 rfl rfl ?_
  refine x_iload_n (pc := 1) hC 1 dX13_people_1 rfl rfl ?_
  refine x_iconst (pc := 2) (v := (-1 : Int32)) hC dX13_people_2 (by decide) ?_
  refine x_iconst (pc := 3) (v := (5 : Int32)) hC dX13_people_3 (by decide) ?_
  obtain ⟨o3, ho3, h⟩ := bd_some h
  refine x_callS (pc := 4) (As := [.int a1, .int (-1 : Int32), .int (5 : Int32)]) (rest := [.ref a0]) hC hl (c_X13_isBetween l hls ho3) lk_RX13_50 dX13_people_4 rfl rfl (Nat.le_of_ble_eq_true rfl) ⟨Nat.le_of_ble_eq_true rfl, Nat.le_of_ble_eq_true rfl⟩ ⟨(Nat.le_of_ble_eq_true rfl), (Nat.le_of_ble_eq_true rfl)⟩ ?_
  rcases o3 with ⟨x1 | E4, S2⟩
  · refine xk_i ?_
    replace h := bk_l h
    refine x_if_eq (pc := 7) hC 14 dX13_people_7 (by decide) (fun c5 => ?_) (fun c5 => ?_)
    · rw [if_pos c5] at h
      refine x_iconst (pc := 14) (v := (1 : Int32)) hC dX13_people_14 (by decide) ?_
      refine x_pick [0, 1] rfl ?_
      exact t_X13_people_15 hls hC hl hE h
    · rw [if_neg c5] at h
      refine x_iconst (pc := 10) (v := (0 : Int32)) hC dX13_people_10 (by decide) ?_
      refine x_goto (pc := 11) hC 15 dX13_people_11 (by decide) ?_
      refine x_pick [0, 1] rfl ?_
      exact t_X13_people_15 hls hC hl hE h
  · exact xk_r (xt_out hC hE (bk_r h) (Nat.le_of_ble_eq_true rfl) (Nat.le_of_ble_eq_true rfl))
theorem c_X13_people (l : Launch) (hls : l.stackTraces = false) {S : mS} {a0 : Nat} {a1 : Int32} {o : Rs Int32} (h : f_X13_people S a0 a1 = some o) : CT (fun r : Int32 => some (.int r)) l yX13_people (.code yX13_people cX13_people 4 (Option.some Jvm.ClassFile.FieldType.int)) rm_X13_people S [.ref a0, .int a1] o := ct_of (by decide +kernel) hls (Nat.le_of_ble_eq_true rfl) (fun C hl hC hE => t_X13_people hls hC hl hE h)
abbrev rm_X13_tired : Room := { frames := 9, cells := 0, slots := 0, locals := 172 }
def f_X13_tired_31  (S : mS) (s0 : Int32) : Option (Rs Int32) :=
  some (.inl s0, S)
set_option maxHeartbeats 2000000 in
set_option maxRecDepth 100000 in
theorem t_X13_tired_31 {l : Launch} (hls : l.stackTraces = false) {C : cT} (hC : CX C cX13_tired 2 yX13_tired rm_X13_tired) (hl : C.2.1 = l) {S0 : mS} (hE : CE C S0 (Option.some Jvm.ClassFile.FieldType.int) []) {o : Rs Int32} {S : mS} {s0 : Int32} (h : f_X13_tired_31  S s0 = some o) : XX C 2 (QQ C (fun r : Int32 => some (.int r)) S0 o) (0) (0) S 31 [] [.int s0] := by
  unfold f_X13_tired_31 at h
  exact x_ireturn (pc := 31) hC hE dX13_tired_31 (so h) (Nat.le_of_ble_eq_true rfl) (Nat.le_of_ble_eq_true rfl)
def f_X13_tired_15  (S : mS) (a0 : Nat) (a1 : Int32) (s0 : Nat) (s1 : Int32) : Option (Rs Int32) :=
  gd (gK S s0 = 19) (bd (f_X13_isWrong S s0 s1) fun x2 S3 => if x2 = 0 then (gd (gK S3 a0 = 19) (lt9 (gR S3 a0 4) fun r7 => gd (gK S3 r7 = 30) (gd (¬ (a1 < 0 ∨ gZ S3 r7 ≤ (a1).toNatClampNeg)) (lt9 (gI S3 r7 (a1).toNatClampNeg) fun x11 => f_X13_tired_31  S3 x11)))) else (f_X13_tired_31  S3 (0 : Int32)))
set_option maxHeartbeats 2000000 in
set_option maxRecDepth 100000 in
theorem t_X13_tired_15 {l : Launch} (hls : l.stackTraces = false) {C : cT} (hC : CX C cX13_tired 2 yX13_tired rm_X13_tired) (hl : C.2.1 = l) {S0 : mS} (hE : CE C S0 (Option.some Jvm.ClassFile.FieldType.int) []) {o : Rs Int32} {S : mS} {a0 : Nat} {a1 : Int32} {s0 : Nat} {s1 : Int32} (h : f_X13_tired_15  S a0 a1 s0 s1 = some o) : XX C 2 (QQ C (fun r : Int32 => some (.int r)) S0 o) (0) (0) S 15 [(0, .ref a0), (1, .int a1)] [.int s1, .ref s0] := by
  unfold f_X13_tired_15 at h
  obtain ⟨g1, h⟩ := gd_some h
  obtain ⟨o4, ho4, h⟩ := bd_some h
  refine x_callV (pc := 15) (As := [.int s1]) (rest := []) hC hl (c_X13_isWrong l hls ho4) lk_RX13_68 fc_19 g1 dX13_tired_15 rfl rfl (Nat.le_of_ble_eq_true rfl) ⟨Nat.le_of_ble_eq_true rfl, Nat.le_of_ble_eq_true rfl⟩ ⟨(Nat.le_of_ble_eq_true rfl), (Nat.le_of_ble_eq_true rfl)⟩ ?_
  rcases o4 with ⟨x2 | E5, S3⟩
  · refine xk_i ?_
    replace h := bk_l h
    refine x_if_eq (pc := 18) hC 25 dX13_tired_18 (by decide) (fun c12 => ?_) (fun c12 => ?_)
    · rw [if_pos c12] at h
      refine x_aload_n (pc := 25) hC 0 dX13_tired_25 rfl rfl ?_
      obtain ⟨g6, h⟩ := gd_some h
      refine x_getRv (pc := 26) (k := 4) hC fc_19 fl_RX13_27 dX13_tired_26 rfl g6 (fun r7 hr7 => ?_)
      replace h := lt_x hr7 h
      refine x_iload_n (pc := 29) hC 1 dX13_tired_29 rfl rfl ?_
      obtain ⟨g10, h⟩ := gd_some h
      obtain ⟨g9, h⟩ := gd_some h
      refine x_ialdv (pc := 30) hC dX13_tired_30 g10 g9 (fun x11 hx11 => ?_)
      replace h := lt_x hx11 h
      refine x_pick [] rfl ?_
      exact t_X13_tired_31 hls hC hl hE h
    · rw [if_neg c12] at h
      refine x_iconst (pc := 21) (v := (0 : Int32)) hC dX13_tired_21 (by decide) ?_
      refine x_goto (pc := 22) hC 31 dX13_tired_22 (by decide) ?_
      refine x_pick [] rfl ?_
      exact t_X13_tired_31 hls hC hl hE h
  · exact xk_r (xt_out hC hE (bk_r h) (Nat.le_of_ble_eq_true rfl) (Nat.le_of_ble_eq_true rfl))
def f_X13_tired (S : mS) (a0 : Nat) (a1 : Int32) : Option (Rs Int32) :=
  bd (f_X13_isBetween S a1 (0 : Int32) (5 : Int32)) fun x1 S2 => if x1 = 0 then (f_X13_tired_15  S2 a0 a1 a0 (1 : Int32)) else (f_X13_tired_15  S2 a0 a1 a0 (0 : Int32))
set_option maxHeartbeats 2000000 in
set_option maxRecDepth 100000 in
theorem t_X13_tired {l : Launch} (hls : l.stackTraces = false) {C : cT} (hC : CX C cX13_tired 2 yX13_tired rm_X13_tired) (hl : C.2.1 = l) {S0 : mS} (hE : CE C S0 (Option.some Jvm.ClassFile.FieldType.int) []) {o : Rs Int32} {S : mS} {a0 : Nat} {a1 : Int32} (h : f_X13_tired S a0 a1 = some o) : XX C 2 (QQ C (fun r : Int32 => some (.int r)) S0 o) 0 0 S 0 [(0, .ref a0), (1, .int a1)] [] := by
  unfold f_X13_tired at h
  refine x_aload_n (pc := 0) hC 0 dX13_tired_0 rfl rfl ?_
  refine x_iload_n (pc := 1) hC 1 dX13_tired_1 rfl rfl ?_
  refine x_iconst (pc := 2) (v := (0 : Int32)) hC dX13_tired_2 (by decide) ?_
  refine x_iconst (pc := 3) (v := (5 : Int32)) hC dX13_tired_3 (by decide) ?_
  obtain ⟨o3, ho3, h⟩ := bd_some h
  refine x_callS (pc := 4) (As := [.int a1, .int (0 : Int32), .int (5 : Int32)]) (rest := [.ref a0]) hC hl (c_X13_isBetween l hls ho3) lk_RX13_50 dX13_tired_4 rfl rfl (Nat.le_of_ble_eq_true rfl) ⟨Nat.le_of_ble_eq_true rfl, Nat.le_of_ble_eq_true rfl⟩ ⟨(Nat.le_of_ble_eq_true rfl), (Nat.le_of_ble_eq_true rfl)⟩ ?_
  rcases o3 with ⟨x1 | E4, S2⟩
  · refine xk_i ?_
    replace h := bk_l h
    refine x_if_eq (pc := 7) hC 14 dX13_tired_7 (by decide) (fun c5 => ?_) (fun c5 => ?_)
    · rw [if_pos c5] at h
      refine x_iconst (pc := 14) (v := (1 : Int32)) hC dX13_tired_14 (by decide) ?_
      refine x_pick [0, 1] rfl ?_
      exact t_X13_tired_15 hls hC hl hE h
    · rw [if_neg c5] at h
      refine x_iconst (pc := 10) (v := (0 : Int32)) hC dX13_tired_10 (by decide) ?_
      refine x_goto (pc := 11) hC 15 dX13_tired_11 (by decide) ?_
      refine x_pick [0, 1] rfl ?_
      exact t_X13_tired_15 hls hC hl hE h
  · exact xk_r (xt_out hC hE (bk_r h) (Nat.le_of_ble_eq_true rfl) (Nat.le_of_ble_eq_true rfl))
theorem c_X13_tired (l : Launch) (hls : l.stackTraces = false) {S : mS} {a0 : Nat} {a1 : Int32} {o : Rs Int32} (h : f_X13_tired S a0 a1 = some o) : CT (fun r : Int32 => some (.int r)) l yX13_tired (.code yX13_tired cX13_tired 2 (Option.some Jvm.ClassFile.FieldType.int)) rm_X13_tired S [.ref a0, .int a1] o := ct_of (by decide +kernel) hls (Nat.le_of_ble_eq_true rfl) (fun C hl hC hE => t_X13_tired hls hC hl hE h)
abbrev rm_X13_seconds : Room := { frames := 11, cells := 0, slots := 0, locals := 214 }
def f_X13_seconds_45  (S : mS) (s0 : Int32) : Option (Rs Int32) :=
  some (.inl s0, S)
set_option maxHeartbeats 2000000 in
set_option maxRecDepth 100000 in
theorem t_X13_seconds_45 {l : Launch} (hls : l.stackTraces = false) {C : cT} (hC : CX C cX13_seconds 2 yX13_seconds rm_X13_seconds) (hl : C.2.1 = l) {S0 : mS} (hE : CE C S0 (Option.some Jvm.ClassFile.FieldType.int) []) {o : Rs Int32} {S : mS} {s0 : Int32} (h : f_X13_seconds_45  S s0 = some o) : XX C 2 (QQ C (fun r : Int32 => some (.int r)) S0 o) (0) (0) S 45 [] [.int s0] := by
  unfold f_X13_seconds_45 at h
  exact x_ireturn (pc := 45) hC hE dX13_seconds_45 (so h) (Nat.le_of_ble_eq_true rfl) (Nat.le_of_ble_eq_true rfl)
def f_X13_seconds_14  (S : mS) (a0 : Nat) (a1 : Int32) (s0 : Nat) (s1 : Int32) : Option (Rs Int32) :=
  gd (gK S s0 = 19) (bd (f_X13_isWrong S s0 s1) fun x2 S3 => if x2 = 0 then (gd (gK S3 a0 = 19) (lt9 (gR S3 a0 1) fun r7 => gd (gK S3 r7 = 5) (bd (f_Jx4a65c_get_915e3 S3 r7 a1) fun r9 S10 => none))) else (f_X13_seconds_45  S3 (0 : Int32)))
set_option maxHeartbeats 2000000 in
set_option maxRecDepth 100000 in
theorem t_X13_seconds_14 {l : Launch} (hls : l.stackTraces = false) {C : cT} (hC : CX C cX13_seconds 2 yX13_seconds rm_X13_seconds) (hl : C.2.1 = l) {S0 : mS} (hE : CE C S0 (Option.some Jvm.ClassFile.FieldType.int) []) {o : Rs Int32} {S : mS} {a0 : Nat} {a1 : Int32} {s0 : Nat} {s1 : Int32} (h : f_X13_seconds_14  S a0 a1 s0 s1 = some o) : XX C 2 (QQ C (fun r : Int32 => some (.int r)) S0 o) (0) (0) S 14 [(0, .ref a0), (1, .int a1)] [.int s1, .ref s0] := by
  unfold f_X13_seconds_14 at h
  obtain ⟨g1, h⟩ := gd_some h
  obtain ⟨o4, ho4, h⟩ := bd_some h
  refine x_callV (pc := 14) (As := [.int s1]) (rest := []) hC hl (c_X13_isWrong l hls ho4) lk_RX13_68 fc_19 g1 dX13_seconds_14 rfl rfl (Nat.le_of_ble_eq_true rfl) ⟨Nat.le_of_ble_eq_true rfl, Nat.le_of_ble_eq_true rfl⟩ ⟨(Nat.le_of_ble_eq_true rfl), (Nat.le_of_ble_eq_true rfl)⟩ ?_
  rcases o4 with ⟨x2 | E5, S3⟩
  · refine xk_i ?_
    replace h := bk_l h
    refine x_if_eq (pc := 17) hC 24 dX13_seconds_17 (by decide) (fun c13 => ?_) (fun c13 => ?_)
    · rw [if_pos c13] at h
      refine x_aload_n (pc := 24) hC 0 dX13_seconds_24 rfl rfl ?_
      obtain ⟨g6, h⟩ := gd_some h
      refine x_getRv (pc := 25) (k := 1) hC fc_19 fl_RX13_10 dX13_seconds_25 rfl g6 (fun r7 hr7 => ?_)
      replace h := lt_x hr7 h
      refine x_iload_n (pc := 28) hC 1 dX13_seconds_28 rfl rfl ?_
      obtain ⟨g8, h⟩ := gd_some h
      obtain ⟨o11, ho11, h⟩ := bd_some h
      refine x_callF (pc := 29) (As := [.int a1]) (rest := []) hC hl (c_Jx4a65c_get_915e3 l hls ho11) lk_RX13_87 fc_5 g8 dX13_seconds_29 rfl rfl (Nat.le_of_ble_eq_true rfl) ⟨Nat.le_of_ble_eq_true rfl, Nat.le_of_ble_eq_true rfl⟩ ⟨(Nat.le_of_ble_eq_true rfl), (Nat.le_of_ble_eq_true rfl)⟩ ?_
      rcases o11 with ⟨r9 | E12, S10⟩
      · refine xk_a ?_
        replace h := bk_l h
        cases h
      · exact xk_r (xt_out hC hE (bk_r h) (Nat.le_of_ble_eq_true rfl) (Nat.le_of_ble_eq_true rfl))
    · rw [if_neg c13] at h
      refine x_iconst (pc := 20) (v := (0 : Int32)) hC dX13_seconds_20 (by decide) ?_
      refine x_goto (pc := 21) hC 45 dX13_seconds_21 (by decide) ?_
      refine x_pick [] rfl ?_
      exact t_X13_seconds_45 hls hC hl hE h
  · exact xk_r (xt_out hC hE (bk_r h) (Nat.le_of_ble_eq_true rfl) (Nat.le_of_ble_eq_true rfl))
def f_X13_seconds (S : mS) (a0 : Nat) (a1 : Int32) : Option (Rs Int32) :=
  gd (gK S a0 = 19) (bd (f_X13_isDisc S a0 a1) fun x2 S3 => if x2 = 0 then (f_X13_seconds_14  S3 a0 a1 a0 (1 : Int32)) else (f_X13_seconds_14  S3 a0 a1 a0 (0 : Int32)))
set_option maxHeartbeats 2000000 in
set_option maxRecDepth 100000 in
theorem t_X13_seconds {l : Launch} (hls : l.stackTraces = false) {C : cT} (hC : CX C cX13_seconds 2 yX13_seconds rm_X13_seconds) (hl : C.2.1 = l) {S0 : mS} (hE : CE C S0 (Option.some Jvm.ClassFile.FieldType.int) []) {o : Rs Int32} {S : mS} {a0 : Nat} {a1 : Int32} (h : f_X13_seconds S a0 a1 = some o) : XX C 2 (QQ C (fun r : Int32 => some (.int r)) S0 o) 0 0 S 0 [(0, .ref a0), (1, .int a1)] [] := by
  unfold f_X13_seconds at h
  refine x_aload_n (pc := 0) hC 0 dX13_seconds_0 rfl rfl ?_
  refine x_aload_n (pc := 1) hC 0 dX13_seconds_1 rfl rfl ?_
  refine x_iload_n (pc := 2) hC 1 dX13_seconds_2 rfl rfl ?_
  obtain ⟨g1, h⟩ := gd_some h
  obtain ⟨o4, ho4, h⟩ := bd_some h
  refine x_callV (pc := 3) (As := [.int a1]) (rest := [.ref a0]) hC hl (c_X13_isDisc l hls ho4) lk_RX13_84 fc_19 g1 dX13_seconds_3 rfl rfl (Nat.le_of_ble_eq_true rfl) ⟨Nat.le_of_ble_eq_true rfl, Nat.le_of_ble_eq_true rfl⟩ ⟨(Nat.le_of_ble_eq_true rfl), (Nat.le_of_ble_eq_true rfl)⟩ ?_
  rcases o4 with ⟨x2 | E5, S3⟩
  · refine xk_i ?_
    replace h := bk_l h
    refine x_if_eq (pc := 6) hC 13 dX13_seconds_6 (by decide) (fun c6 => ?_) (fun c6 => ?_)
    · rw [if_pos c6] at h
      refine x_iconst (pc := 13) (v := (1 : Int32)) hC dX13_seconds_13 (by decide) ?_
      refine x_pick [0, 1] rfl ?_
      exact t_X13_seconds_14 hls hC hl hE h
    · rw [if_neg c6] at h
      refine x_iconst (pc := 9) (v := (0 : Int32)) hC dX13_seconds_9 (by decide) ?_
      refine x_goto (pc := 10) hC 14 dX13_seconds_10 (by decide) ?_
      refine x_pick [0, 1] rfl ?_
      exact t_X13_seconds_14 hls hC hl hE h
  · exact xk_r (xt_out hC hE (bk_r h) (Nat.le_of_ble_eq_true rfl) (Nat.le_of_ble_eq_true rfl))
theorem c_X13_seconds (l : Launch) (hls : l.stackTraces = false) {S : mS} {a0 : Nat} {a1 : Int32} {o : Rs Int32} (h : f_X13_seconds S a0 a1 = some o) : CT (fun r : Int32 => some (.int r)) l yX13_seconds (.code yX13_seconds cX13_seconds 2 (Option.some Jvm.ClassFile.FieldType.int)) rm_X13_seconds S [.ref a0, .int a1] o := ct_of (by decide +kernel) hls (Nat.le_of_ble_eq_true rfl) (fun C hl hC hE => t_X13_seconds hls hC hl hE h)
abbrev rm_X13_setLimit : Room := { frames := 9, cells := 0, slots := 0, locals := 172 }
def f_X13_setLimit_26  (S : mS) (a0 : Nat) (a1 : Int32) (a2 : Int32) (s0 : Nat) (s1 : Int32) : Option (Rs Int32) :=
  gd (gK S s0 = 19) (bd (f_X13_isWrong S s0 s1) fun x2 S3 => if x2 = 0 then (gd (gK S3 a0 = 19) (lt9 (gR S3 a0 5) fun r7 => gd (gK S3 r7 = 30) (gd (¬ (a1 < 0 ∨ gZ S3 r7 ≤ (a1).toNatClampNeg)) (lt9 (gI S3 r7 (a1).toNatClampNeg) fun x11 => lt9 (gR S3 a0 5) fun r12 => gd (gK S3 r12 = 30) (gd (¬ (a1 < 0 ∨ gZ S3 r12 ≤ (a1).toNatClampNeg)) (zI (sI S3 r12 (a1).toNatClampNeg a2) fun S15 => bd (f_X13_logs S15 a0) fun _ S20 => some (.inl x11, S20))))))) else (some (.inl (0 : Int32), S3)))
set_option maxHeartbeats 2000000 in
set_option maxRecDepth 100000 in
theorem t_X13_setLimit_26 {l : Launch} (hls : l.stackTraces = false) {C : cT} (hC : CX C cX13_setLimit 4 yX13_setLimit rm_X13_setLimit) (hl : C.2.1 = l) {S0 : mS} (hE : CE C S0 (Option.some Jvm.ClassFile.FieldType.int) []) {o : Rs Int32} {S : mS} {a0 : Nat} {a1 : Int32} {a2 : Int32} {s0 : Nat} {s1 : Int32} (h : f_X13_setLimit_26  S a0 a1 a2 s0 s1 = some o) : XX C 4 (QQ C (fun r : Int32 => some (.int r)) S0 o) (0) (0) S 26 [(0, .ref a0), (1, .int a1), (2, .int a2)] [.int s1, .ref s0] := by
  unfold f_X13_setLimit_26 at h
  obtain ⟨g1, h⟩ := gd_some h
  obtain ⟨o4, ho4, h⟩ := bd_some h
  refine x_callV (pc := 26) (As := [.int s1]) (rest := []) hC hl (c_X13_isWrong l hls ho4) lk_RX13_68 fc_19 g1 dX13_setLimit_26 rfl rfl (Nat.le_of_ble_eq_true rfl) ⟨Nat.le_of_ble_eq_true rfl, Nat.le_of_ble_eq_true rfl⟩ ⟨(Nat.le_of_ble_eq_true rfl), (Nat.le_of_ble_eq_true rfl)⟩ ?_
  rcases o4 with ⟨x2 | E5, S3⟩
  · refine xk_i ?_
    replace h := bk_l h
    refine x_if_eq (pc := 29) hC 34 dX13_setLimit_29 (by decide) (fun c23 => ?_) (fun c23 => ?_)
    · rw [if_pos c23] at h
      refine x_aload_n (pc := 34) hC 0 dX13_setLimit_34 rfl rfl ?_
      obtain ⟨g6, h⟩ := gd_some h
      refine x_getRv (pc := 35) (k := 5) hC fc_19 fl_RX13_30 dX13_setLimit_35 rfl g6 (fun r7 hr7 => ?_)
      replace h := lt_x hr7 h
      refine x_iload_n (pc := 38) hC 1 dX13_setLimit_38 rfl rfl ?_
      obtain ⟨g10, h⟩ := gd_some h
      obtain ⟨g9, h⟩ := gd_some h
      refine x_ialdv (pc := 39) hC dX13_setLimit_39 g10 g9 (fun x11 hx11 => ?_)
      replace h := lt_x hx11 h
      refine x_istore_n (pc := 40) hC dX13_setLimit_40 rfl (by decide) (by decide) rfl ?_
      refine x_aload_n (pc := 41) hC 1 dX13_setLimit_41 rfl rfl ?_
      refine x_getRv (pc := 42) (k := 5) hC fc_19 fl_RX13_30 dX13_setLimit_42 rfl g6 (fun r12 hr12 => ?_)
      replace h := lt_x hr12 h
      refine x_iload_n (pc := 45) hC 2 dX13_setLimit_45 rfl rfl ?_
      refine x_iload_n (pc := 46) hC 3 dX13_setLimit_46 rfl rfl ?_
      obtain ⟨g14, h⟩ := gd_some h
      obtain ⟨g13, h⟩ := gd_some h
      refine x_iastv (pc := 47) hC dX13_setLimit_47 g14 g13 (fun S15 hS15 => ?_)
      replace h := zI_x hS15 h
      have g16 : gK S15 a0 = 19 := by rw [hS15]; exact g6
      have g17 : gK S15 r7 = 30 := by rw [hS15]; exact g10
      have g18 : gK S15 r12 = 30 := by rw [hS15]; exact g14
      refine x_aload_n (pc := 48) hC 1 dX13_setLimit_48 rfl rfl ?_
      obtain ⟨o21, ho21, h⟩ := bd_some h
      refine x_callV (pc := 49) (As := []) (rest := []) hC hl (c_X13_logs l hls ho21) lk_RX13_81 fc_19 g16 dX13_setLimit_49 rfl rfl (Nat.le_of_ble_eq_true rfl) ⟨Nat.le_of_ble_eq_true rfl, Nat.le_of_ble_eq_true rfl⟩ ⟨(Nat.le_of_ble_eq_true rfl), (Nat.le_of_ble_eq_true rfl)⟩ ?_
      rcases o21 with ⟨_ | E22, S20⟩
      · refine xk_v ?_
        replace h := bk_l h
        refine x_iload_n (pc := 52) hC 0 dX13_setLimit_52 rfl rfl ?_
        exact x_ireturn (pc := 53) hC hE dX13_setLimit_53 (so h) (Nat.le_of_ble_eq_true rfl) (Nat.le_of_ble_eq_true rfl)
      · exact xk_r (xt_out hC hE (bk_r h) (Nat.le_of_ble_eq_true rfl) (Nat.le_of_ble_eq_true rfl))
    · rw [if_neg c23] at h
      refine x_iconst (pc := 32) (v := (0 : Int32)) hC dX13_setLimit_32 (by decide) ?_
      exact x_ireturn (pc := 33) hC hE dX13_setLimit_33 (so h) (Nat.le_of_ble_eq_true rfl) (Nat.le_of_ble_eq_true rfl)
  · exact xk_r (xt_out hC hE (bk_r h) (Nat.le_of_ble_eq_true rfl) (Nat.le_of_ble_eq_true rfl))
def f_X13_setLimit_25  (S : mS) (a0 : Nat) (a1 : Int32) (a2 : Int32) (s0 : Nat) : Option (Rs Int32) :=
  f_X13_setLimit_26  S a0 a1 a2 s0 (1 : Int32)
set_option maxHeartbeats 2000000 in
set_option maxRecDepth 100000 in
theorem t_X13_setLimit_25 {l : Launch} (hls : l.stackTraces = false) {C : cT} (hC : CX C cX13_setLimit 4 yX13_setLimit rm_X13_setLimit) (hl : C.2.1 = l) {S0 : mS} (hE : CE C S0 (Option.some Jvm.ClassFile.FieldType.int) []) {o : Rs Int32} {S : mS} {a0 : Nat} {a1 : Int32} {a2 : Int32} {s0 : Nat} (h : f_X13_setLimit_25  S a0 a1 a2 s0 = some o) : XX C 4 (QQ C (fun r : Int32 => some (.int r)) S0 o) (0) (0) S 25 [(0, .ref a0), (1, .int a1), (2, .int a2)] [.ref s0] := by
  unfold f_X13_setLimit_25 at h
  refine x_iconst (pc := 25) (v := (1 : Int32)) hC dX13_setLimit_25 (by decide) ?_
  refine x_pick [0, 1, 2] rfl ?_
  exact t_X13_setLimit_26 hls hC hl hE h
def f_X13_setLimit (S : mS) (a0 : Nat) (a1 : Int32) (a2 : Int32) : Option (Rs Int32) :=
  bd (f_X13_isBetween S a1 (0 : Int32) (3 : Int32)) fun x1 S2 => if x1 = 0 then (f_X13_setLimit_25  S2 a0 a1 a2 a0) else (bd (f_X13_isBetween S2 a2 (0 : Int32) (2000 : Int32)) fun x5 S6 => if x5 = 0 then (f_X13_setLimit_25  S6 a0 a1 a2 a0) else (f_X13_setLimit_26  S6 a0 a1 a2 a0 (0 : Int32)))
set_option maxHeartbeats 2000000 in
set_option maxRecDepth 100000 in
theorem t_X13_setLimit {l : Launch} (hls : l.stackTraces = false) {C : cT} (hC : CX C cX13_setLimit 4 yX13_setLimit rm_X13_setLimit) (hl : C.2.1 = l) {S0 : mS} (hE : CE C S0 (Option.some Jvm.ClassFile.FieldType.int) []) {o : Rs Int32} {S : mS} {a0 : Nat} {a1 : Int32} {a2 : Int32} (h : f_X13_setLimit S a0 a1 a2 = some o) : XX C 4 (QQ C (fun r : Int32 => some (.int r)) S0 o) 0 0 S 0 [(0, .ref a0), (1, .int a1), (2, .int a2)] [] := by
  unfold f_X13_setLimit at h
  refine x_aload_n (pc := 0) hC 0 dX13_setLimit_0 rfl rfl ?_
  refine x_iload_n (pc := 1) hC 1 dX13_setLimit_1 rfl rfl ?_
  refine x_iconst (pc := 2) (v := (0 : Int32)) hC dX13_setLimit_2 (by decide) ?_
  refine x_iconst (pc := 3) (v := (3 : Int32)) hC dX13_setLimit_3 (by decide) ?_
  obtain ⟨o3, ho3, h⟩ := bd_some h
  refine x_callS (pc := 4) (As := [.int a1, .int (0 : Int32), .int (3 : Int32)]) (rest := [.ref a0]) hC hl (c_X13_isBetween l hls ho3) lk_RX13_50 dX13_setLimit_4 rfl rfl (Nat.le_of_ble_eq_true rfl) ⟨Nat.le_of_ble_eq_true rfl, Nat.le_of_ble_eq_true rfl⟩ ⟨(Nat.le_of_ble_eq_true rfl), (Nat.le_of_ble_eq_true rfl)⟩ ?_
  rcases o3 with ⟨x1 | E4, S2⟩
  · refine xk_i ?_
    replace h := bk_l h
    refine x_if_eq (pc := 7) hC 25 dX13_setLimit_7 (by decide) (fun c10 => ?_) (fun c10 => ?_)
    · rw [if_pos c10] at h
      refine x_pick [0, 1, 2] rfl ?_
      exact t_X13_setLimit_25 hls hC hl hE h
    · rw [if_neg c10] at h
      refine x_iload_n (pc := 10) hC 2 dX13_setLimit_10 rfl rfl ?_
      refine x_iconst (pc := 11) (v := (0 : Int32)) hC dX13_setLimit_11 (by decide) ?_
      refine x_sipush (pc := 12) (v := (2000 : Int32)) hC dX13_setLimit_12 (by decide) ?_
      obtain ⟨o7, ho7, h⟩ := bd_some h
      refine x_callS (pc := 15) (As := [.int a2, .int (0 : Int32), .int (2000 : Int32)]) (rest := [.ref a0]) hC hl (c_X13_isBetween l hls ho7) lk_RX13_50 dX13_setLimit_15 rfl rfl (Nat.le_of_ble_eq_true rfl) ⟨Nat.le_of_ble_eq_true rfl, Nat.le_of_ble_eq_true rfl⟩ ⟨(Nat.le_of_ble_eq_true rfl), (Nat.le_of_ble_eq_true rfl)⟩ ?_
      rcases o7 with ⟨x5 | E8, S6⟩
      · refine xk_i ?_
        replace h := bk_l h
        refine x_if_eq (pc := 18) hC 25 dX13_setLimit_18 (by decide) (fun c9 => ?_) (fun c9 => ?_)
        · rw [if_pos c9] at h
          refine x_pick [0, 1, 2] rfl ?_
          exact t_X13_setLimit_25 hls hC hl hE h
        · rw [if_neg c9] at h
          refine x_iconst (pc := 21) (v := (0 : Int32)) hC dX13_setLimit_21 (by decide) ?_
          refine x_goto (pc := 22) hC 26 dX13_setLimit_22 (by decide) ?_
          refine x_pick [0, 1, 2] rfl ?_
          exact t_X13_setLimit_26 hls hC hl hE h
      · exact xk_r (xt_out hC hE (bk_r h) (Nat.le_of_ble_eq_true rfl) (Nat.le_of_ble_eq_true rfl))
  · exact xk_r (xt_out hC hE (bk_r h) (Nat.le_of_ble_eq_true rfl) (Nat.le_of_ble_eq_true rfl))
theorem c_X13_setLimit (l : Launch) (hls : l.stackTraces = false) {S : mS} {a0 : Nat} {a1 : Int32} {a2 : Int32} {o : Rs Int32} (h : f_X13_setLimit S a0 a1 a2 = some o) : CT (fun r : Int32 => some (.int r)) l yX13_setLimit (.code yX13_setLimit cX13_setLimit 4 (Option.some Jvm.ClassFile.FieldType.int)) rm_X13_setLimit S [.ref a0, .int a1, .int a2] o := ct_of (by decide +kernel) hls (Nat.le_of_ble_eq_true rfl) (fun C hl hC hE => t_X13_setLimit hls hC hl hE h)
abbrev rm_X13_breaches : Room := { frames := 9, cells := 0, slots := 0, locals := 171 }
def f_X13_breaches (S : mS) (a0 : Nat) : Option (Rs Int32) :=
  gd (gK S a0 = 19) (lt9 (gI S a0 14) fun x2 => bd (f_X13_plain S a0 x2) fun x3 S4 => some (.inl x3, S4))
set_option maxHeartbeats 2000000 in
set_option maxRecDepth 100000 in
theorem t_X13_breaches {l : Launch} (hls : l.stackTraces = false) {C : cT} (hC : CX C cX13_breaches 1 yX13_breaches rm_X13_breaches) (hl : C.2.1 = l) {S0 : mS} (hE : CE C S0 (Option.some Jvm.ClassFile.FieldType.int) []) {o : Rs Int32} {S : mS} {a0 : Nat} (h : f_X13_breaches S a0 = some o) : XX C 1 (QQ C (fun r : Int32 => some (.int r)) S0 o) 0 0 S 0 [(0, .ref a0)] [] := by
  unfold f_X13_breaches at h
  refine x_aload_n (pc := 0) hC 0 dX13_breaches_0 rfl rfl ?_
  refine x_aload_n (pc := 1) hC 0 dX13_breaches_1 rfl rfl ?_
  obtain ⟨g1, h⟩ := gd_some h
  refine x_getIv (pc := 2) (k := 14) hC fc_19 fl_RX13_301 dX13_breaches_2 rfl g1 (fun x2 hx2 => ?_)
  replace h := lt_x hx2 h
  obtain ⟨o5, ho5, h⟩ := bd_some h
  refine x_callV (pc := 5) (As := [.int x2]) (rest := []) hC hl (c_X13_plain l hls ho5) lk_RX13_310 fc_19 g1 dX13_breaches_5 rfl rfl (Nat.le_of_ble_eq_true rfl) ⟨Nat.le_of_ble_eq_true rfl, Nat.le_of_ble_eq_true rfl⟩ ⟨(Nat.le_of_ble_eq_true rfl), (Nat.le_of_ble_eq_true rfl)⟩ ?_
  rcases o5 with ⟨x3 | E6, S4⟩
  · refine xk_i ?_
    replace h := bk_l h
    exact x_ireturn (pc := 8) hC hE dX13_breaches_8 (so h) (Nat.le_of_ble_eq_true rfl) (Nat.le_of_ble_eq_true rfl)
  · exact xk_r (xt_out hC hE (bk_r h) (Nat.le_of_ble_eq_true rfl) (Nat.le_of_ble_eq_true rfl))
theorem c_X13_breaches (l : Launch) (hls : l.stackTraces = false) {S : mS} {a0 : Nat} {o : Rs Int32} (h : f_X13_breaches S a0 = some o) : CT (fun r : Int32 => some (.int r)) l yX13_breaches (.code yX13_breaches cX13_breaches 1 (Option.some Jvm.ClassFile.FieldType.int)) rm_X13_breaches S [.ref a0] o := ct_of (by decide +kernel) hls (Nat.le_of_ble_eq_true rfl) (fun C hl hC hE => t_X13_breaches hls hC hl hE h)
abbrev rm_X13_strobe : Room := { frames := 9, cells := 0, slots := 0, locals := 172 }
def f_X13_strobe_26  (S : mS) (a0 : Nat) (a1 : Int32) (a2 : Int32) (s0 : Nat) (s1 : Int32) : Option (Rs Int32) :=
  gd (gK S s0 = 19) (bd (f_X13_isWrong S s0 s1) fun x2 S3 => if x2 = 0 then (gd (gK S3 a0 = 19) (zI (sI S3 a0 15 a2) fun S7 => bd (f_X13_logs S7 a0) fun _ S10 => lt9 (if a1 < (10 : Int32) then a1 else (10 : Int32)) fun x13 => some (.inl x13, S10))) else (some (.inl (0 : Int32), S3)))
set_option maxHeartbeats 2000000 in
set_option maxRecDepth 100000 in
theorem t_X13_strobe_26 {l : Launch} (hls : l.stackTraces = false) {C : cT} (hC : CX C cX13_strobe 3 yX13_strobe rm_X13_strobe) (hl : C.2.1 = l) {S0 : mS} (hE : CE C S0 (Option.some Jvm.ClassFile.FieldType.int) []) {o : Rs Int32} {S : mS} {a0 : Nat} {a1 : Int32} {a2 : Int32} {s0 : Nat} {s1 : Int32} (h : f_X13_strobe_26  S a0 a1 a2 s0 s1 = some o) : XX C 3 (QQ C (fun r : Int32 => some (.int r)) S0 o) (0) (0) S 26 [(0, .ref a0), (1, .int a1), (2, .int a2)] [.int s1, .ref s0] := by
  unfold f_X13_strobe_26 at h
  obtain ⟨g1, h⟩ := gd_some h
  obtain ⟨o4, ho4, h⟩ := bd_some h
  refine x_callV (pc := 26) (As := [.int s1]) (rest := []) hC hl (c_X13_isWrong l hls ho4) lk_RX13_68 fc_19 g1 dX13_strobe_26 rfl rfl (Nat.le_of_ble_eq_true rfl) ⟨Nat.le_of_ble_eq_true rfl, Nat.le_of_ble_eq_true rfl⟩ ⟨(Nat.le_of_ble_eq_true rfl), (Nat.le_of_ble_eq_true rfl)⟩ ?_
  rcases o4 with ⟨x2 | E5, S3⟩
  · refine xk_i ?_
    replace h := bk_l h
    refine x_if_eq (pc := 29) hC 34 dX13_strobe_29 (by decide) (fun c14 => ?_) (fun c14 => ?_)
    · rw [if_pos c14] at h
      refine x_aload_n (pc := 34) hC 0 dX13_strobe_34 rfl rfl ?_
      refine x_iload_n (pc := 35) hC 2 dX13_strobe_35 rfl rfl ?_
      obtain ⟨g6, h⟩ := gd_some h
      refine x_putIv (pc := 36) (k := 15) hC fc_19 fl_RX13_334 dX13_strobe_36 rfl rfl (nf_int _) g6 (fun S7 hS7 => ?_)
      replace h := zI_x hS7 h
      have g8 : gK S7 a0 = 19 := by rw [hS7]; exact g6
      refine x_aload_n (pc := 39) hC 0 dX13_strobe_39 rfl rfl ?_
      obtain ⟨o11, ho11, h⟩ := bd_some h
      refine x_callV (pc := 40) (As := []) (rest := []) hC hl (c_X13_logs l hls ho11) lk_RX13_81 fc_19 g8 dX13_strobe_40 rfl rfl (Nat.le_of_ble_eq_true rfl) ⟨Nat.le_of_ble_eq_true rfl, Nat.le_of_ble_eq_true rfl⟩ ⟨(Nat.le_of_ble_eq_true rfl), (Nat.le_of_ble_eq_true rfl)⟩ ?_
      rcases o11 with ⟨_ | E12, S10⟩
      · refine xk_v ?_
        replace h := bk_l h
        refine x_bipush (pc := 43) (v := (10 : Int32)) hC dX13_strobe_43 (by decide) ?_
        refine x_iload_n (pc := 45) hC 1 dX13_strobe_45 rfl rfl ?_
        refine x_mmin (pc := 46) hC wm_1898 wm_598 wm_69 wm_599 dX13_strobe_46 (Nat.le_of_ble_eq_true rfl) (Nat.le_of_ble_eq_true rfl) (Nat.le_of_ble_eq_true rfl) (Nat.le_of_ble_eq_true rfl) (fun x13 hx13 => ?_)
        replace h := lt_x hx13 h
        exact x_ireturn (pc := 49) hC hE dX13_strobe_49 (so h) (Nat.le_of_ble_eq_true rfl) (Nat.le_of_ble_eq_true rfl)
      · exact xk_r (xt_out hC hE (bk_r h) (Nat.le_of_ble_eq_true rfl) (Nat.le_of_ble_eq_true rfl))
    · rw [if_neg c14] at h
      refine x_iconst (pc := 32) (v := (0 : Int32)) hC dX13_strobe_32 (by decide) ?_
      exact x_ireturn (pc := 33) hC hE dX13_strobe_33 (so h) (Nat.le_of_ble_eq_true rfl) (Nat.le_of_ble_eq_true rfl)
  · exact xk_r (xt_out hC hE (bk_r h) (Nat.le_of_ble_eq_true rfl) (Nat.le_of_ble_eq_true rfl))
def f_X13_strobe_25  (S : mS) (a0 : Nat) (a1 : Int32) (a2 : Int32) (s0 : Nat) : Option (Rs Int32) :=
  f_X13_strobe_26  S a0 a1 a2 s0 (1 : Int32)
set_option maxHeartbeats 2000000 in
set_option maxRecDepth 100000 in
theorem t_X13_strobe_25 {l : Launch} (hls : l.stackTraces = false) {C : cT} (hC : CX C cX13_strobe 3 yX13_strobe rm_X13_strobe) (hl : C.2.1 = l) {S0 : mS} (hE : CE C S0 (Option.some Jvm.ClassFile.FieldType.int) []) {o : Rs Int32} {S : mS} {a0 : Nat} {a1 : Int32} {a2 : Int32} {s0 : Nat} (h : f_X13_strobe_25  S a0 a1 a2 s0 = some o) : XX C 3 (QQ C (fun r : Int32 => some (.int r)) S0 o) (0) (0) S 25 [(0, .ref a0), (1, .int a1), (2, .int a2)] [.ref s0] := by
  unfold f_X13_strobe_25 at h
  refine x_iconst (pc := 25) (v := (1 : Int32)) hC dX13_strobe_25 (by decide) ?_
  refine x_pick [0, 1, 2] rfl ?_
  exact t_X13_strobe_26 hls hC hl hE h
def f_X13_strobe (S : mS) (a0 : Nat) (a1 : Int32) (a2 : Int32) : Option (Rs Int32) :=
  bd (f_X13_isBetween S a1 (1 : Int32) (30 : Int32)) fun x1 S2 => if x1 = 0 then (f_X13_strobe_25  S2 a0 a1 a2 a0) else (bd (f_X13_isBetween S2 a2 (0 : Int32) (7 : Int32)) fun x5 S6 => if x5 = 0 then (f_X13_strobe_25  S6 a0 a1 a2 a0) else (f_X13_strobe_26  S6 a0 a1 a2 a0 (0 : Int32)))
set_option maxHeartbeats 2000000 in
set_option maxRecDepth 100000 in
theorem t_X13_strobe {l : Launch} (hls : l.stackTraces = false) {C : cT} (hC : CX C cX13_strobe 3 yX13_strobe rm_X13_strobe) (hl : C.2.1 = l) {S0 : mS} (hE : CE C S0 (Option.some Jvm.ClassFile.FieldType.int) []) {o : Rs Int32} {S : mS} {a0 : Nat} {a1 : Int32} {a2 : Int32} (h : f_X13_strobe S a0 a1 a2 = some o) : XX C 3 (QQ C (fun r : Int32 => some (.int r)) S0 o) 0 0 S 0 [(0, .ref a0), (1, .int a1), (2, .int a2)] [] := by
  unfold f_X13_strobe at h
  refine x_aload_n (pc := 0) hC 0 dX13_strobe_0 rfl rfl ?_
  refine x_iload_n (pc := 1) hC 1 dX13_strobe_1 rfl rfl ?_
  refine x_iconst (pc := 2) (v := (1 : Int32)) hC dX13_strobe_2 (by decide) ?_
  refine x_bipush (pc := 3) (v := (30 : Int32)) hC dX13_strobe_3 (by decide) ?_
  obtain ⟨o3, ho3, h⟩ := bd_some h
  refine x_callS (pc := 5) (As := [.int a1, .int (1 : Int32), .int (30 : Int32)]) (rest := [.ref a0]) hC hl (c_X13_isBetween l hls ho3) lk_RX13_50 dX13_strobe_5 rfl rfl (Nat.le_of_ble_eq_true rfl) ⟨Nat.le_of_ble_eq_true rfl, Nat.le_of_ble_eq_true rfl⟩ ⟨(Nat.le_of_ble_eq_true rfl), (Nat.le_of_ble_eq_true rfl)⟩ ?_
  rcases o3 with ⟨x1 | E4, S2⟩
  · refine xk_i ?_
    replace h := bk_l h
    refine x_if_eq (pc := 8) hC 25 dX13_strobe_8 (by decide) (fun c10 => ?_) (fun c10 => ?_)
    · rw [if_pos c10] at h
      refine x_pick [0, 1, 2] rfl ?_
      exact t_X13_strobe_25 hls hC hl hE h
    · rw [if_neg c10] at h
      refine x_iload_n (pc := 11) hC 2 dX13_strobe_11 rfl rfl ?_
      refine x_iconst (pc := 12) (v := (0 : Int32)) hC dX13_strobe_12 (by decide) ?_
      refine x_bipush (pc := 13) (v := (7 : Int32)) hC dX13_strobe_13 (by decide) ?_
      obtain ⟨o7, ho7, h⟩ := bd_some h
      refine x_callS (pc := 15) (As := [.int a2, .int (0 : Int32), .int (7 : Int32)]) (rest := [.ref a0]) hC hl (c_X13_isBetween l hls ho7) lk_RX13_50 dX13_strobe_15 rfl rfl (Nat.le_of_ble_eq_true rfl) ⟨Nat.le_of_ble_eq_true rfl, Nat.le_of_ble_eq_true rfl⟩ ⟨(Nat.le_of_ble_eq_true rfl), (Nat.le_of_ble_eq_true rfl)⟩ ?_
      rcases o7 with ⟨x5 | E8, S6⟩
      · refine xk_i ?_
        replace h := bk_l h
        refine x_if_eq (pc := 18) hC 25 dX13_strobe_18 (by decide) (fun c9 => ?_) (fun c9 => ?_)
        · rw [if_pos c9] at h
          refine x_pick [0, 1, 2] rfl ?_
          exact t_X13_strobe_25 hls hC hl hE h
        · rw [if_neg c9] at h
          refine x_iconst (pc := 21) (v := (0 : Int32)) hC dX13_strobe_21 (by decide) ?_
          refine x_goto (pc := 22) hC 26 dX13_strobe_22 (by decide) ?_
          refine x_pick [0, 1, 2] rfl ?_
          exact t_X13_strobe_26 hls hC hl hE h
      · exact xk_r (xt_out hC hE (bk_r h) (Nat.le_of_ble_eq_true rfl) (Nat.le_of_ble_eq_true rfl))
  · exact xk_r (xt_out hC hE (bk_r h) (Nat.le_of_ble_eq_true rfl) (Nat.le_of_ble_eq_true rfl))
theorem c_X13_strobe (l : Launch) (hls : l.stackTraces = false) {S : mS} {a0 : Nat} {a1 : Int32} {a2 : Int32} {o : Rs Int32} (h : f_X13_strobe S a0 a1 a2 = some o) : CT (fun r : Int32 => some (.int r)) l yX13_strobe (.code yX13_strobe cX13_strobe 3 (Option.some Jvm.ClassFile.FieldType.int)) rm_X13_strobe S [.ref a0, .int a1, .int a2] o := ct_of (by decide +kernel) hls (Nat.le_of_ble_eq_true rfl) (fun C hl hC hE => t_X13_strobe hls hC hl hE h)
abbrev rm_X13_light : Room := { frames := 11, cells := 0, slots := 0, locals := 214 }
def f_X13_light_97  (S : mS) (s0 : Int32) : Option (Rs Int32) :=
  some (.inl s0, S)
set_option maxHeartbeats 2000000 in
set_option maxRecDepth 100000 in
theorem t_X13_light_97 {l : Launch} (hls : l.stackTraces = false) {C : cT} (hC : CX C cX13_light 6 yX13_light rm_X13_light) (hl : C.2.1 = l) {S0 : mS} (hE : CE C S0 (Option.some Jvm.ClassFile.FieldType.int) []) {o : Rs Int32} {S : mS} {s0 : Int32} (h : f_X13_light_97  S s0 = some o) : XX C 6 (QQ C (fun r : Int32 => some (.int r)) S0 o) (0) (0) S 97 [] [.int s0] := by
  unfold f_X13_light_97 at h
  exact x_ireturn (pc := 97) hC hE dX13_light_97 (so h) (Nat.le_of_ble_eq_true rfl) (Nat.le_of_ble_eq_true rfl)
def f_X13_light_75  (S : mS) (a0 : Nat) (a1 : Nat) (s0 : Nat) (s1 : Int32) : Option (Rs Int32) :=
  gd (gK S s0 = 19) (bd (f_X13_isWrong S s0 s1) fun x2 S3 => if x2 = 0 then (gd (gK S3 a0 = 19) (lt9 (gI S3 a0 15) fun x7 => gd (gK S3 a1 = 17) (bd (f_X11_beat S3 a1) fun x9 S10 => lt9 (x7 + x9) fun x13 => gd (¬ (8 : Int32) = 0) (lt9 (x13 - x13 / (8 : Int32) * (8 : Int32)) fun x14 => f_X13_light_97  S10 x14)))) else (f_X13_light_97  S3 (0 : Int32)))
set_option maxHeartbeats 2000000 in
set_option maxRecDepth 100000 in
theorem t_X13_light_75 {l : Launch} (hls : l.stackTraces = false) {C : cT} (hC : CX C cX13_light 6 yX13_light rm_X13_light) (hl : C.2.1 = l) {S0 : mS} (hE : CE C S0 (Option.some Jvm.ClassFile.FieldType.int) []) {o : Rs Int32} {S : mS} {a0 : Nat} {a1 : Nat} {s0 : Nat} {s1 : Int32} (h : f_X13_light_75  S a0 a1 s0 s1 = some o) : XX C 6 (QQ C (fun r : Int32 => some (.int r)) S0 o) (0) (0) S 75 [(0, .ref a0), (1, .ref a1)] [.int s1, .ref s0] := by
  unfold f_X13_light_75 at h
  obtain ⟨g1, h⟩ := gd_some h
  obtain ⟨o4, ho4, h⟩ := bd_some h
  refine x_callV (pc := 75) (As := [.int s1]) (rest := []) hC hl (c_X13_isWrong l hls ho4) lk_RX13_68 fc_19 g1 dX13_light_75 rfl rfl (Nat.le_of_ble_eq_true rfl) ⟨Nat.le_of_ble_eq_true rfl, Nat.le_of_ble_eq_true rfl⟩ ⟨(Nat.le_of_ble_eq_true rfl), (Nat.le_of_ble_eq_true rfl)⟩ ?_
  rcases o4 with ⟨x2 | E5, S3⟩
  · refine xk_i ?_
    replace h := bk_l h
    refine x_if_eq (pc := 78) hC 85 dX13_light_78 (by decide) (fun c16 => ?_) (fun c16 => ?_)
    · rw [if_pos c16] at h
      refine x_aload_n (pc := 85) hC 0 dX13_light_85 rfl rfl ?_
      obtain ⟨g6, h⟩ := gd_some h
      refine x_getIv (pc := 86) (k := 15) hC fc_19 fl_RX13_334 dX13_light_86 rfl g6 (fun x7 hx7 => ?_)
      replace h := lt_x hx7 h
      refine x_aload_n (pc := 89) hC 1 dX13_light_89 rfl rfl ?_
      obtain ⟨g8, h⟩ := gd_some h
      obtain ⟨o11, ho11, h⟩ := bd_some h
      refine x_callV (pc := 90) (As := []) (rest := [.int x7]) hC hl (c_X11_beat l hls ho11) lk_RX13_158 fc_17 g8 dX13_light_90 rfl rfl (Nat.le_of_ble_eq_true rfl) ⟨Nat.le_of_ble_eq_true rfl, Nat.le_of_ble_eq_true rfl⟩ ⟨(Nat.le_of_ble_eq_true rfl), (Nat.le_of_ble_eq_true rfl)⟩ ?_
      rcases o11 with ⟨x9 | E12, S10⟩
      · refine xk_i ?_
        replace h := bk_l h
        refine x_iaddv (pc := 93) hC dX13_light_93 (fun x13 hx13 => ?_)
        replace h := lt_x hx13 h
        refine x_bipush (pc := 94) (v := (8 : Int32)) hC dX13_light_94 (by decide) ?_
        obtain ⟨g15, h⟩ := gd_some h
        refine x_iremv (pc := 96) hC dX13_light_96 g15 (fun x14 hx14 => ?_)
        replace h := lt_x hx14 h
        refine x_pick [] rfl ?_
        exact t_X13_light_97 hls hC hl hE h
      · exact xk_r (xt_out hC hE (bk_r h) (Nat.le_of_ble_eq_true rfl) (Nat.le_of_ble_eq_true rfl))
    · rw [if_neg c16] at h
      refine x_iconst (pc := 81) (v := (0 : Int32)) hC dX13_light_81 (by decide) ?_
      refine x_goto (pc := 82) hC 97 dX13_light_82 (by decide) ?_
      refine x_pick [] rfl ?_
      exact t_X13_light_97 hls hC hl hE h
  · exact xk_r (xt_out hC hE (bk_r h) (Nat.le_of_ble_eq_true rfl) (Nat.le_of_ble_eq_true rfl))
def f_X13_light_58 (rc13 : mS → Nat → Nat → Nat → Int32 → Int32 → Option (Rs Int32)) (S : mS) (a0 : Nat) (a2 : Nat) (a3 : Int32) (a4 : Int32) (s0 : Nat) : Option (Rs Int32) :=
  lt9 (a4 + Int32.ofInt (1)) fun x1 => rc13 S a0 s0 a2 a3 x1
set_option maxHeartbeats 2000000 in
set_option maxRecDepth 100000 in
theorem t_X13_light_58 {l : Launch} (hls : l.stackTraces = false) {C : cT} (hC : CX C cX13_light 6 yX13_light rm_X13_light) (hl : C.2.1 = l) {S0 : mS} (hE : CE C S0 (Option.some Jvm.ClassFile.FieldType.int) []) {o : Rs Int32} {rc13 : mS → Nat → Nat → Nat → Int32 → Int32 → Option (Rs Int32)} (hrc13 : ∀ (S : mS) (a0 : Nat) (a1 : Nat) (a2 : Nat) (a3 : Int32) (a4 : Int32), rc13 S a0 a1 a2 a3 a4 = some o → XX C 6 (QQ C (fun r : Int32 => some (.int r)) S0 o) (0) (0) S 13 [(0, .ref a0), (1, .ref a1), (2, .ref a2), (3, .int a3), (4, .int a4)] []) {S : mS} {a0 : Nat} {a2 : Nat} {a3 : Int32} {a4 : Int32} {s0 : Nat} (h : f_X13_light_58 rc13 S a0 a2 a3 a4 s0 = some o) : XX C 6 (QQ C (fun r : Int32 => some (.int r)) S0 o) (0) (0) S 58 [(0, .ref a0), (2, .ref a2), (3, .int a3), (4, .int a4)] [.ref s0] := by
  unfold f_X13_light_58 at h
  refine x_astore_n (pc := 58) hC dX13_light_58 rfl (by decide) (by decide) rfl ?_
  obtain ⟨x1, hx1⟩ : ∃ z, z = (a4 + Int32.ofInt (1)) := ⟨_, rfl⟩
  replace h := lt_x hx1 h
  refine x_iinc (pc := 59) hC 4 dX13_light_59 rfl hx1.symm (by decide) (by decide) rfl ?_
  refine x_goto (pc := 62) hC 13 dX13_light_62 (by decide) ?_
  refine x_pick [2, 1, 3, 4, 0] rfl ?_
  exact hrc13 _ _ _ _ _ _ h
def f_X13_light_57 (rc13 : mS → Nat → Nat → Nat → Int32 → Int32 → Option (Rs Int32)) (S : mS) (a0 : Nat) (a1 : Nat) (a2 : Nat) (a3 : Int32) (a4 : Int32) : Option (Rs Int32) :=
  f_X13_light_58 (rc13) S a0 a2 a3 a4 a1
set_option maxHeartbeats 2000000 in
set_option maxRecDepth 100000 in
theorem t_X13_light_57 {l : Launch} (hls : l.stackTraces = false) {C : cT} (hC : CX C cX13_light 6 yX13_light rm_X13_light) (hl : C.2.1 = l) {S0 : mS} (hE : CE C S0 (Option.some Jvm.ClassFile.FieldType.int) []) {o : Rs Int32} {rc13 : mS → Nat → Nat → Nat → Int32 → Int32 → Option (Rs Int32)} (hrc13 : ∀ (S : mS) (a0 : Nat) (a1 : Nat) (a2 : Nat) (a3 : Int32) (a4 : Int32), rc13 S a0 a1 a2 a3 a4 = some o → XX C 6 (QQ C (fun r : Int32 => some (.int r)) S0 o) (0) (0) S 13 [(0, .ref a0), (1, .ref a1), (2, .ref a2), (3, .int a3), (4, .int a4)] []) {S : mS} {a0 : Nat} {a1 : Nat} {a2 : Nat} {a3 : Int32} {a4 : Int32} (h : f_X13_light_57 rc13 S a0 a1 a2 a3 a4 = some o) : XX C 6 (QQ C (fun r : Int32 => some (.int r)) S0 o) (0) (0) S 57 [(0, .ref a0), (1, .ref a1), (2, .ref a2), (3, .int a3), (4, .int a4)] [] := by
  unfold f_X13_light_57 at h
  refine x_aload_n (pc := 57) hC 1 dX13_light_57 rfl rfl ?_
  refine x_pick [0, 2, 3, 4] rfl ?_
  exact t_X13_light_58 hls hC hl hE hrc13 h
def f_X13_light_52 (rc13 : mS → Nat → Nat → Nat → Int32 → Int32 → Option (Rs Int32)) (S : mS) (a0 : Nat) (a2 : Nat) (a3 : Int32) (a4 : Int32) (a5 : Nat) : Option (Rs Int32) :=
  f_X13_light_58 (rc13) S a0 a2 a3 a4 a5
set_option maxHeartbeats 2000000 in
set_option maxRecDepth 100000 in
theorem t_X13_light_52 {l : Launch} (hls : l.stackTraces = false) {C : cT} (hC : CX C cX13_light 6 yX13_light rm_X13_light) (hl : C.2.1 = l) {S0 : mS} (hE : CE C S0 (Option.some Jvm.ClassFile.FieldType.int) []) {o : Rs Int32} {rc13 : mS → Nat → Nat → Nat → Int32 → Int32 → Option (Rs Int32)} (hrc13 : ∀ (S : mS) (a0 : Nat) (a1 : Nat) (a2 : Nat) (a3 : Int32) (a4 : Int32), rc13 S a0 a1 a2 a3 a4 = some o → XX C 6 (QQ C (fun r : Int32 => some (.int r)) S0 o) (0) (0) S 13 [(0, .ref a0), (1, .ref a1), (2, .ref a2), (3, .int a3), (4, .int a4)] []) {S : mS} {a0 : Nat} {a2 : Nat} {a3 : Int32} {a4 : Int32} {a5 : Nat} (h : f_X13_light_52 rc13 S a0 a2 a3 a4 a5 = some o) : XX C 6 (QQ C (fun r : Int32 => some (.int r)) S0 o) (0) (0) S 52 [(0, .ref a0), (2, .ref a2), (3, .int a3), (4, .int a4), (5, .ref a5)] [] := by
  unfold f_X13_light_52 at h
  refine x_aload (pc := 52) hC 4 dX13_light_52 rfl ?_
  refine x_goto (pc := 54) hC 58 dX13_light_54 (by decide) ?_
  refine x_pick [0, 1, 2, 3] rfl ?_
  exact t_X13_light_58 hls hC hl hE hrc13 h
def f_X13_light_13  : Nat → mS → Nat → Nat → Nat → Int32 → Int32 → Option (Rs Int32)
  | 0, _, _, _, _, _, _ => none
  | k + 1, S, a0, a1, a2, a3, a4 => if a3 ≤ a4 then (if a1 = 0 then (f_X13_light_75  S a0 a1 a0 (1 : Int32)) else (f_X13_light_75  S a0 a1 a0 (0 : Int32))) else (gd (gK S a2 = 37) (gd (¬ (a4 < 0 ∨ gZ S a2 ≤ (a4).toNatClampNeg)) (lt9 (gR S a2 (a4).toNatClampNeg) fun r5 => gd (gK S a0 = 19) (bd (f_X13_isHeard S a0 r5) fun x7 S8 => if x7 = 0 then (f_X13_light_57 (f_X13_light_13 k) S8 a0 a1 a2 a3 a4) else (if a1 = 0 then (f_X13_light_52 (f_X13_light_13 k) S8 a0 a2 a3 a4 r5) else (gd (gK S8 a0 = 19) (bd (f_X13_loudnessOf S8 a0 r5) fun x12 S13 => gd (gK S13 a0 = 19) (bd (f_X13_loudnessOf S13 a0 a1) fun x17 S18 => if x12 ≤ x17 then (f_X13_light_57 (f_X13_light_13 k) S18 a0 a1 a2 a3 a4) else (f_X13_light_52 (f_X13_light_13 k) S18 a0 a2 a3 a4 r5)))))))))
set_option maxHeartbeats 2000000 in
set_option maxRecDepth 100000 in
theorem t_X13_light_13 {l : Launch} (hls : l.stackTraces = false) {C : cT} (hC : CX C cX13_light 6 yX13_light rm_X13_light) (hl : C.2.1 = l) {S0 : mS} (hE : CE C S0 (Option.some Jvm.ClassFile.FieldType.int) []) {o : Rs Int32} : ∀ (k : Nat) (S : mS) (a0 : Nat) (a1 : Nat) (a2 : Nat) (a3 : Int32) (a4 : Int32), f_X13_light_13  k S a0 a1 a2 a3 a4 = some o → XX C 6 (QQ C (fun r : Int32 => some (.int r)) S0 o) (0) (0) S 13 [(0, .ref a0), (1, .ref a1), (2, .ref a2), (3, .int a3), (4, .int a4)] [] := by
  intro k
  induction k with
  | zero => intro S a0 a1 a2 a3 a4 h; cases h
  | succ k ih =>
    intro S a0 a1 a2 a3 a4 h
    unfold f_X13_light_13 at h
    refine x_iload (pc := 13) hC 4 dX13_light_13 rfl ?_
    refine x_iload_n (pc := 15) hC 3 dX13_light_15 rfl rfl ?_
    refine x_icmp_ge (pc := 16) hC 65 dX13_light_16 (by decide) (fun c24 => ?_) (fun c24 => ?_)
    · rw [if_pos c24] at h
      refine x_aload_n (pc := 65) hC 0 dX13_light_65 rfl rfl ?_
      refine x_aload_n (pc := 66) hC 1 dX13_light_66 rfl rfl ?_
      refine x_ifnonnull (pc := 67) hC 74 dX13_light_67 (by decide) (fun c1 => ?_) (fun c1 => ?_)
      · rw [if_neg c1] at h
        refine x_iconst (pc := 74) (v := (0 : Int32)) hC dX13_light_74 (by decide) ?_
        refine x_pick [0, 1] rfl ?_
        exact t_X13_light_75 hls hC hl hE h
      · rw [if_pos c1] at h
        refine x_iconst (pc := 70) (v := (1 : Int32)) hC dX13_light_70 (by decide) ?_
        refine x_goto (pc := 71) hC 75 dX13_light_71 (by decide) ?_
        refine x_pick [0, 1] rfl ?_
        exact t_X13_light_75 hls hC hl hE h
    · rw [if_neg c24] at h
      refine x_aload_n (pc := 19) hC 2 dX13_light_19 rfl rfl ?_
      refine x_iload (pc := 20) hC 4 dX13_light_20 rfl ?_
      obtain ⟨g4, h⟩ := gd_some h
      obtain ⟨g3, h⟩ := gd_some h
      refine x_raldv (pc := 22) (t0 := 7) hC dX13_light_22 g4 (by decide) (fun _ => rfl) g3 (fun r5 hr5 => ?_)
      replace h := lt_x hr5 h
      refine x_astore (pc := 23) hC dX13_light_23 (by decide) (by decide) rfl ?_
      refine x_aload_n (pc := 25) hC 1 dX13_light_25 rfl rfl ?_
      refine x_aload (pc := 26) hC 0 dX13_light_26 rfl ?_
      obtain ⟨g6, h⟩ := gd_some h
      obtain ⟨o9, ho9, h⟩ := bd_some h
      refine x_callV (pc := 28) (As := [.ref r5]) (rest := []) hC hl (c_X13_isHeard l hls ho9) lk_RX13_256 fc_19 g6 dX13_light_28 rfl rfl (Nat.le_of_ble_eq_true rfl) ⟨Nat.le_of_ble_eq_true rfl, Nat.le_of_ble_eq_true rfl⟩ ⟨(Nat.le_of_ble_eq_true rfl), (Nat.le_of_ble_eq_true rfl)⟩ ?_
      rcases o9 with ⟨x7 | E10, S8⟩
      · refine xk_i ?_
        replace h := bk_l h
        refine x_if_eq (pc := 31) hC 57 dX13_light_31 (by decide) (fun c23 => ?_) (fun c23 => ?_)
        · rw [if_pos c23] at h
          refine x_pick [1, 2, 3, 4, 5] rfl ?_
          exact t_X13_light_57 hls hC hl hE (fun z0 z1 z2 z3 z4 z5 hz => ih z0 z1 z2 z3 z4 z5 hz) h
        · rw [if_neg c23] at h
          refine x_aload_n (pc := 34) hC 2 dX13_light_34 rfl rfl ?_
          refine x_ifnull (pc := 35) hC 52 dX13_light_35 (by decide) (fun c22 => ?_) (fun c22 => ?_)
          · rw [if_pos c22] at h
            refine x_pick [1, 3, 4, 5, 0] rfl ?_
            exact t_X13_light_52 hls hC hl hE (fun z0 z1 z2 z3 z4 z5 hz => ih z0 z1 z2 z3 z4 z5 hz) h
          · rw [if_neg c22] at h
            refine x_aload_n (pc := 38) hC 1 dX13_light_38 rfl rfl ?_
            refine x_aload (pc := 39) hC 0 dX13_light_39 rfl ?_
            obtain ⟨g11, h⟩ := gd_some h
            obtain ⟨o14, ho14, h⟩ := bd_some h
            refine x_callV (pc := 41) (As := [.ref r5]) (rest := []) hC hl (c_X13_loudnessOf l hls ho14) lk_RX13_237 fc_19 g11 dX13_light_41 rfl rfl (Nat.le_of_ble_eq_true rfl) ⟨Nat.le_of_ble_eq_true rfl, Nat.le_of_ble_eq_true rfl⟩ ⟨(Nat.le_of_ble_eq_true rfl), (Nat.le_of_ble_eq_true rfl)⟩ ?_
            rcases o14 with ⟨x12 | E15, S13⟩
            · refine xk_i ?_
              replace h := bk_l h
              refine x_aload_n (pc := 44) hC 1 dX13_light_44 rfl rfl ?_
              refine x_aload_n (pc := 45) hC 2 dX13_light_45 rfl rfl ?_
              obtain ⟨g16, h⟩ := gd_some h
              obtain ⟨o19, ho19, h⟩ := bd_some h
              refine x_callV (pc := 46) (As := [.ref a1]) (rest := [.int x12]) hC hl (c_X13_loudnessOf l hls ho19) lk_RX13_237 fc_19 g16 dX13_light_46 rfl rfl (Nat.le_of_ble_eq_true rfl) ⟨Nat.le_of_ble_eq_true rfl, Nat.le_of_ble_eq_true rfl⟩ ⟨(Nat.le_of_ble_eq_true rfl), (Nat.le_of_ble_eq_true rfl)⟩ ?_
              rcases o19 with ⟨x17 | E20, S18⟩
              · refine xk_i ?_
                replace h := bk_l h
                refine x_icmp_le (pc := 49) hC 57 dX13_light_49 (by decide) (fun c21 => ?_) (fun c21 => ?_)
                · rw [if_pos c21] at h
                  refine x_pick [1, 2, 3, 4, 5] rfl ?_
                  exact t_X13_light_57 hls hC hl hE (fun z0 z1 z2 z3 z4 z5 hz => ih z0 z1 z2 z3 z4 z5 hz) h
                · rw [if_neg c21] at h
                  refine x_pick [1, 3, 4, 5, 0] rfl ?_
                  exact t_X13_light_52 hls hC hl hE (fun z0 z1 z2 z3 z4 z5 hz => ih z0 z1 z2 z3 z4 z5 hz) h
              · exact xk_r (xt_out hC hE (bk_r h) (Nat.le_of_ble_eq_true rfl) (Nat.le_of_ble_eq_true rfl))
            · exact xk_r (xt_out hC hE (bk_r h) (Nat.le_of_ble_eq_true rfl) (Nat.le_of_ble_eq_true rfl))
      · exact xk_r (xt_out hC hE (bk_r h) (Nat.le_of_ble_eq_true rfl) (Nat.le_of_ble_eq_true rfl))
def f_X13_light (S : mS) (a0 : Nat) : Option (Rs Int32) :=
  gd (gK S a0 = 19) (lt9 (gR S a0 2) fun r2 => gd (gK S r2 = 37) (lt9 (Int32.ofNat (gZ S r2)) fun x4 => f_X13_light_13  16 S a0 0 r2 x4 (0 : Int32)))
set_option maxHeartbeats 2000000 in
set_option maxRecDepth 100000 in
theorem t_X13_light {l : Launch} (hls : l.stackTraces = false) {C : cT} (hC : CX C cX13_light 6 yX13_light rm_X13_light) (hl : C.2.1 = l) {S0 : mS} (hE : CE C S0 (Option.some Jvm.ClassFile.FieldType.int) []) {o : Rs Int32} {S : mS} {a0 : Nat} (h : f_X13_light S a0 = some o) : XX C 6 (QQ C (fun r : Int32 => some (.int r)) S0 o) 0 0 S 0 [(0, .ref a0)] [] := by
  unfold f_X13_light at h
  refine x_null (pc := 0) hC dX13_light_0 ?_
  refine x_astore_n (pc := 1) hC dX13_light_1 rfl (by decide) (by decide) rfl ?_
  refine x_aload_n (pc := 2) hC 1 dX13_light_2 rfl rfl ?_
  obtain ⟨g1, h⟩ := gd_some h
  refine x_getRv (pc := 3) (k := 2) hC fc_19 fl_RX13_19 dX13_light_3 rfl g1 (fun r2 hr2 => ?_)
  replace h := lt_x hr2 h
  refine x_astore_n (pc := 6) hC dX13_light_6 rfl (by decide) (by decide) rfl ?_
  refine x_aload_n (pc := 7) hC 0 dX13_light_7 rfl rfl ?_
  obtain ⟨g3, h⟩ := gd_some h
  refine x_alenv (pc := 8) (t0 := 7) hC dX13_light_8 g3 (by decide) (fun _ => rfl) (fun x4 hx4 => ?_)
  replace h := lt_x hx4 h
  refine x_istore_n (pc := 9) hC dX13_light_9 rfl (by decide) (by decide) rfl ?_
  refine x_iconst (pc := 10) (v := (0 : Int32)) hC dX13_light_10 (by decide) ?_
  refine x_istore (pc := 11) hC dX13_light_11 (by decide) (by decide) rfl ?_
  refine x_pick [4, 3, 2, 1, 0] rfl ?_
  exact t_X13_light_13 hls hC hl hE 16 _ _ _ _ _ _ h
theorem c_X13_light (l : Launch) (hls : l.stackTraces = false) {S : mS} {a0 : Nat} {o : Rs Int32} (h : f_X13_light S a0 = some o) : CT (fun r : Int32 => some (.int r)) l yX13_light (.code yX13_light cX13_light 6 (Option.some Jvm.ClassFile.FieldType.int)) rm_X13_light S [.ref a0] o := ct_of (by decide +kernel) hls (Nat.le_of_ble_eq_true rfl) (fun C hl hC hE => t_X13_light hls hC hl hE h)
abbrev rm_X13_isFree : Room := { frames := 9, cells := 0, slots := 0, locals := 176 }
def f_X13_isFree_35  (S : mS) (s0 : Int32) : Option (Rs Int32) :=
  gd (s0 = 0 ∨ s0 = 1) (some (.inl s0, S))
set_option maxHeartbeats 2000000 in
set_option maxRecDepth 100000 in
theorem t_X13_isFree_35 {l : Launch} (hls : l.stackTraces = false) {C : cT} (hC : CX C cX13_isFree 2 yX13_isFree rm_X13_isFree) (hl : C.2.1 = l) {S0 : mS} (hE : CE C S0 (Option.some Jvm.ClassFile.FieldType.boolean) []) {o : Rs Int32} {S : mS} {s0 : Int32} (h : f_X13_isFree_35  S s0 = some o) : XX C 2 (QQ C (fun r : Int32 => some (.int r)) S0 o) (0) (0) S 35 [] [.int s0] := by
  unfold f_X13_isFree_35 at h
  obtain ⟨g1, h⟩ := gd_some h
  exact x_zreturn (pc := 35) hC hE dX13_isFree_35 (nf_B g1).1 (so h) (Nat.le_of_ble_eq_true rfl) (Nat.le_of_ble_eq_true rfl)
def f_X13_isFree_34  (S : mS) : Option (Rs Int32) :=
  f_X13_isFree_35  S (0 : Int32)
set_option maxHeartbeats 2000000 in
set_option maxRecDepth 100000 in
theorem t_X13_isFree_34 {l : Launch} (hls : l.stackTraces = false) {C : cT} (hC : CX C cX13_isFree 2 yX13_isFree rm_X13_isFree) (hl : C.2.1 = l) {S0 : mS} (hE : CE C S0 (Option.some Jvm.ClassFile.FieldType.boolean) []) {o : Rs Int32} {S : mS} (h : f_X13_isFree_34  S = some o) : XX C 2 (QQ C (fun r : Int32 => some (.int r)) S0 o) (0) (0) S 34 [] [] := by
  unfold f_X13_isFree_34 at h
  refine x_iconst (pc := 34) (v := (0 : Int32)) hC dX13_isFree_34 (by decide) ?_
  refine x_pick [] rfl ?_
  exact t_X13_isFree_35 hls hC hl hE h
def f_X13_isFree (S : mS) (a0 : Nat) (a1 : Nat) : Option (Rs Int32) :=
  gd (gK S a0 = 19) (bd (f_X13_isOnDeck S a0 a1) fun x2 S3 => if x2 = 0 then (gd (gK S3 a1 = 18) (lt9 (gI S3 a1 7) fun x7 => if x7 = 0 then (lt9 (gL S3 a1 9) fun x8 => gd (¬ (100 : Int64) = 0) (lt9 (x8 / (100 : Int64)) fun x9 => lt9 (lg_cmp x9 (10 : Int64)) fun x11 => if 0 ≤ x11 then (f_X13_isFree_34  S3) else (f_X13_isFree_35  S3 (1 : Int32)))) else (f_X13_isFree_34  S3))) else (f_X13_isFree_34  S3))
set_option maxHeartbeats 2000000 in
set_option maxRecDepth 100000 in
theorem t_X13_isFree {l : Launch} (hls : l.stackTraces = false) {C : cT} (hC : CX C cX13_isFree 2 yX13_isFree rm_X13_isFree) (hl : C.2.1 = l) {S0 : mS} (hE : CE C S0 (Option.some Jvm.ClassFile.FieldType.boolean) []) {o : Rs Int32} {S : mS} {a0 : Nat} {a1 : Nat} (h : f_X13_isFree S a0 a1 = some o) : XX C 2 (QQ C (fun r : Int32 => some (.int r)) S0 o) 0 0 S 0 [(0, .ref a0), (1, .ref a1)] [] := by
  unfold f_X13_isFree at h
  refine x_aload_n (pc := 0) hC 0 dX13_isFree_0 rfl rfl ?_
  refine x_aload_n (pc := 1) hC 1 dX13_isFree_1 rfl rfl ?_
  obtain ⟨g1, h⟩ := gd_some h
  obtain ⟨o4, ho4, h⟩ := bd_some h
  refine x_callV (pc := 2) (As := [.ref a1]) (rest := []) hC hl (c_X13_isOnDeck l hls ho4) lk_RX13_91 fc_19 g1 dX13_isFree_2 rfl rfl (Nat.le_of_ble_eq_true rfl) ⟨Nat.le_of_ble_eq_true rfl, Nat.le_of_ble_eq_true rfl⟩ ⟨(Nat.le_of_ble_eq_true rfl), (Nat.le_of_ble_eq_true rfl)⟩ ?_
  rcases o4 with ⟨x2 | E5, S3⟩
  · refine xk_i ?_
    replace h := bk_l h
    refine x_if_ne (pc := 5) hC 34 dX13_isFree_5 (by decide) (fun c14 => ?_) (fun c14 => ?_)
    · rw [if_neg c14] at h
      refine x_pick [] rfl ?_
      exact t_X13_isFree_34 hls hC hl hE h
    · rw [if_pos c14] at h
      refine x_aload_n (pc := 8) hC 1 dX13_isFree_8 rfl rfl ?_
      obtain ⟨g6, h⟩ := gd_some h
      refine x_getIv (pc := 9) (k := 7) hC fc_18 fl_RX13_114 dX13_isFree_9 rfl g6 (fun x7 hx7 => ?_)
      replace h := lt_x hx7 h
      refine x_if_ne (pc := 12) hC 34 dX13_isFree_12 (by decide) (fun c13 => ?_) (fun c13 => ?_)
      · rw [if_neg c13] at h
        refine x_pick [] rfl ?_
        exact t_X13_isFree_34 hls hC hl hE h
      · rw [if_pos c13] at h
        refine x_aload_n (pc := 15) hC 1 dX13_isFree_15 rfl rfl ?_
        refine x_getLv (pc := 16) (k := 9) hC fc_18 fl_RX13_275 dX13_isFree_16 rfl g6 (fun x8 hx8 => ?_)
        replace h := lt_x hx8 h
        refine x_ldc2 (pc := 19) hC wm_2249 dX13_isFree_19 ?_
        obtain ⟨g10, h⟩ := gd_some h
        refine x_ldivv (pc := 22) hC dX13_isFree_22 g10 (fun x9 hx9 => ?_)
        replace h := lt_x hx9 h
        refine x_ldc2 (pc := 23) hC wm_2339 dX13_isFree_23 ?_
        refine x_lcmpv (pc := 26) hC dX13_isFree_26 (fun x11 hx11 => ?_)
        replace h := lt_x hx11 h
        refine x_if_ge (pc := 27) hC 34 dX13_isFree_27 (by decide) (fun c12 => ?_) (fun c12 => ?_)
        · rw [if_pos c12] at h
          refine x_pick [] rfl ?_
          exact t_X13_isFree_34 hls hC hl hE h
        · rw [if_neg c12] at h
          refine x_iconst (pc := 30) (v := (1 : Int32)) hC dX13_isFree_30 (by decide) ?_
          refine x_goto (pc := 31) hC 35 dX13_isFree_31 (by decide) ?_
          refine x_pick [] rfl ?_
          exact t_X13_isFree_35 hls hC hl hE h
  · exact xk_r (xt_out hC hE (bk_r h) (Nat.le_of_ble_eq_true rfl) (Nat.le_of_ble_eq_true rfl))
theorem c_X13_isFree (l : Launch) (hls : l.stackTraces = false) {S : mS} {a0 : Nat} {a1 : Nat} {o : Rs Int32} (h : f_X13_isFree S a0 a1 = some o) : CT (fun r : Int32 => some (.int r)) l yX13_isFree (.code yX13_isFree cX13_isFree 2 (Option.some Jvm.ClassFile.FieldType.boolean)) rm_X13_isFree S [.ref a0, .ref a1] o := ct_of (by decide +kernel) hls (Nat.le_of_ble_eq_true rfl) (fun C hl hC hE => t_X13_isFree hls hC hl hE h)
abbrev rm_X13_finds : Room := { frames := 10, cells := 1, slots := 12, locals := 192 }
def f_X13_finds_38  (S : mS) (a0 : Nat) (a1 : Int32) (a2 : Int32) (s0 : Nat) (s1 : Int32) : Option (Rs Int32) :=
  gd (gK S s0 = 19) (bd (f_X13_isWrong S s0 s1) fun x2 S3 => if x2 = 0 then (gd (gK S3 a0 = 19) (zI (sI S3 a0 21 (-1 : Int32)) fun S7 => lt9 (gR S7 a0 2) fun r9 => gd (gK S7 r9 = 37) (gd (¬ (a1 < 0 ∨ gZ S7 r9 ≤ (a1).toNatClampNeg)) (lt9 (gR S7 r9 (a1).toNatClampNeg) fun r13 => gd (gK S7 r13 = 17) (lt9 (gR S7 r13 0) fun r15 => gd (gN S7 + 1 < KB) (zW (sW S7 32 12) fun S17 => lt9 (gN S7 + 1) fun r18 => none)))))) else (some (.inl (0 : Int32), S3)))
set_option maxHeartbeats 2000000 in
set_option maxRecDepth 100000 in
theorem t_X13_finds_38 {l : Launch} (hls : l.stackTraces = false) {C : cT} (hC : CX C cX13_finds 3 yX13_finds rm_X13_finds) (hl : C.2.1 = l) {S0 : mS} (hE : CE C S0 (Option.some Jvm.ClassFile.FieldType.boolean) []) {o : Rs Int32} {S : mS} {a0 : Nat} {a1 : Int32} {a2 : Int32} {s0 : Nat} {s1 : Int32} (h : f_X13_finds_38  S a0 a1 a2 s0 s1 = some o) : XX C 3 (QQ C (fun r : Int32 => some (.int r)) S0 o) (0) (0) S 38 [(0, .ref a0), (1, .int a1), (2, .int a2)] [.int s1, .ref s0] := by
  unfold f_X13_finds_38 at h
  obtain ⟨g1, h⟩ := gd_some h
  obtain ⟨o4, ho4, h⟩ := bd_some h
  refine x_callV (pc := 38) (As := [.int s1]) (rest := []) hC hl (c_X13_isWrong l hls ho4) lk_RX13_68 fc_19 g1 dX13_finds_38 rfl rfl (Nat.le_of_ble_eq_true rfl) ⟨Nat.le_of_ble_eq_true rfl, Nat.le_of_ble_eq_true rfl⟩ ⟨(Nat.le_of_ble_eq_true rfl), (Nat.le_of_ble_eq_true rfl)⟩ ?_
  rcases o4 with ⟨x2 | E5, S3⟩
  · refine xk_i ?_
    replace h := bk_l h
    refine x_if_eq (pc := 41) hC 46 dX13_finds_41 (by decide) (fun c20 => ?_) (fun c20 => ?_)
    · rw [if_pos c20] at h
      refine x_aload_n (pc := 46) hC 0 dX13_finds_46 rfl rfl ?_
      refine x_iconst (pc := 47) (v := (-1 : Int32)) hC dX13_finds_47 (by decide) ?_
      obtain ⟨g6, h⟩ := gd_some h
      refine x_putIv (pc := 48) (k := 21) hC fc_19 fl_RX13_339 dX13_finds_48 rfl rfl (nf_int _) g6 (fun S7 hS7 => ?_)
      replace h := zI_x hS7 h
      have g8 : gK S7 a0 = 19 := by rw [hS7]; exact g6
      refine x_aload_n (pc := 51) hC 0 dX13_finds_51 rfl rfl ?_
      refine x_aload_n (pc := 52) hC 0 dX13_finds_52 rfl rfl ?_
      refine x_getRv (pc := 53) (k := 2) hC fc_19 fl_RX13_19 dX13_finds_53 rfl g8 (fun r9 hr9 => ?_)
      replace h := lt_x hr9 h
      refine x_iload_n (pc := 56) hC 1 dX13_finds_56 rfl rfl ?_
      obtain ⟨g12, h⟩ := gd_some h
      obtain ⟨g11, h⟩ := gd_some h
      refine x_raldv (pc := 57) (t0 := 7) hC dX13_finds_57 g12 (by decide) (fun _ => rfl) g11 (fun r13 hr13 => ?_)
      replace h := lt_x hr13 h
      obtain ⟨g14, h⟩ := gd_some h
      refine x_getRv (pc := 58) (k := 0) hC fc_17 fl_RX13_60 dX13_finds_58 rfl g14 (fun r15 hr15 => ?_)
      replace h := lt_x hr15 h
      refine x_iload_n (pc := 61) hC 2 dX13_finds_61 rfl rfl ?_
      refine x_bipush (pc := 62) (v := (12 : Int32)) hC dX13_finds_62 (by decide) ?_
      obtain ⟨g16, h⟩ := gd_some h
      refine x_newaZv (pc := 64) (z := 12) hC wm_2340 dX13_finds_64 (by decide) (by decide) (Nat.le_of_ble_eq_true rfl) g16 (Nat.le_of_ble_eq_true rfl) (Nat.le_of_ble_eq_true rfl) (fun S17 r18 hS17 hr18 => ?_)
      replace h := zW_x hS17 h
      replace h := lt_x hr18 h
      have g19 : gK S17 r18 = 32 := by rw [hr18, hS17]; exact sW_K
      refine x_iconst (pc := 66) (v := (-1 : Int32)) hC dX13_finds_66 (by decide) ?_
      refine x_iconst (pc := 67) (v := (0 : Int32)) hC dX13_finds_67 (by decide) ?_
      cases h
    · rw [if_neg c20] at h
      refine x_iconst (pc := 44) (v := (0 : Int32)) hC dX13_finds_44 (by decide) ?_
      exact x_zreturn (pc := 45) hC hE dX13_finds_45 (show NF .boolean _ from ⟨rfl, rfl⟩).1 (so h) (Nat.le_of_ble_eq_true rfl) (Nat.le_of_ble_eq_true rfl)
  · exact xk_r (xt_out hC hE (bk_r h) (Nat.le_of_ble_eq_true rfl) (Nat.le_of_ble_eq_true rfl))
def f_X13_finds (S : mS) (a0 : Nat) (a1 : Int32) (a2 : Int32) : Option (Rs Int32) :=
  bd (f_X13_isDeck S a1) fun x1 S2 => if x1 = 0 then (f_X13_finds_38  S2 a0 a1 a2 a0 (1 : Int32)) else (bd (f_X13_isBetween S2 a2 (1 : Int32) (4 : Int32)) fun x5 S6 => if x5 = 0 then (f_X13_finds_38  S6 a0 a1 a2 a0 (2 : Int32)) else (gd (gK S6 a0 = 19) (bd (f_X13_isEmpty S6 a0 a1) fun x10 S11 => if x10 = 0 then (f_X13_finds_38  S11 a0 a1 a2 a0 (0 : Int32)) else (f_X13_finds_38  S11 a0 a1 a2 a0 (3 : Int32)))))
set_option maxHeartbeats 2000000 in
set_option maxRecDepth 100000 in
theorem t_X13_finds {l : Launch} (hls : l.stackTraces = false) {C : cT} (hC : CX C cX13_finds 3 yX13_finds rm_X13_finds) (hl : C.2.1 = l) {S0 : mS} (hE : CE C S0 (Option.some Jvm.ClassFile.FieldType.boolean) []) {o : Rs Int32} {S : mS} {a0 : Nat} {a1 : Int32} {a2 : Int32} (h : f_X13_finds S a0 a1 a2 = some o) : XX C 3 (QQ C (fun r : Int32 => some (.int r)) S0 o) 0 0 S 0 [(0, .ref a0), (1, .int a1), (2, .int a2)] [] := by
  unfold f_X13_finds at h
  refine x_aload_n (pc := 0) hC 0 dX13_finds_0 rfl rfl ?_
  refine x_iload_n (pc := 1) hC 1 dX13_finds_1 rfl rfl ?_
  obtain ⟨o3, ho3, h⟩ := bd_some h
  refine x_callS (pc := 2) (As := [.int a1]) (rest := [.ref a0]) hC hl (c_X13_isDeck l hls ho3) lk_RX13_121 dX13_finds_2 rfl rfl (Nat.le_of_ble_eq_true rfl) ⟨Nat.le_of_ble_eq_true rfl, Nat.le_of_ble_eq_true rfl⟩ ⟨(Nat.le_of_ble_eq_true rfl), (Nat.le_of_ble_eq_true rfl)⟩ ?_
  rcases o3 with ⟨x1 | E4, S2⟩
  · refine xk_i ?_
    replace h := bk_l h
    refine x_if_ne (pc := 5) hC 12 dX13_finds_5 (by decide) (fun c16 => ?_) (fun c16 => ?_)
    · rw [if_neg c16] at h
      refine x_iload_n (pc := 12) hC 2 dX13_finds_12 rfl rfl ?_
      refine x_iconst (pc := 13) (v := (1 : Int32)) hC dX13_finds_13 (by decide) ?_
      refine x_iconst (pc := 14) (v := (4 : Int32)) hC dX13_finds_14 (by decide) ?_
      obtain ⟨o7, ho7, h⟩ := bd_some h
      refine x_callS (pc := 15) (As := [.int a2, .int (1 : Int32), .int (4 : Int32)]) (rest := [.ref a0]) hC hl (c_X13_isBetween l hls ho7) lk_RX13_50 dX13_finds_15 rfl rfl (Nat.le_of_ble_eq_true rfl) ⟨Nat.le_of_ble_eq_true rfl, Nat.le_of_ble_eq_true rfl⟩ ⟨(Nat.le_of_ble_eq_true rfl), (Nat.le_of_ble_eq_true rfl)⟩ ?_
      rcases o7 with ⟨x5 | E8, S6⟩
      · refine xk_i ?_
        replace h := bk_l h
        refine x_if_ne (pc := 18) hC 25 dX13_finds_18 (by decide) (fun c15 => ?_) (fun c15 => ?_)
        · rw [if_neg c15] at h
          refine x_aload_n (pc := 25) hC 0 dX13_finds_25 rfl rfl ?_
          refine x_iload_n (pc := 26) hC 1 dX13_finds_26 rfl rfl ?_
          obtain ⟨g9, h⟩ := gd_some h
          obtain ⟨o12, ho12, h⟩ := bd_some h
          refine x_callV (pc := 27) (As := [.int a1]) (rest := [.ref a0]) hC hl (c_X13_isEmpty l hls ho12) lk_RX13_133 fc_19 g9 dX13_finds_27 rfl rfl (Nat.le_of_ble_eq_true rfl) ⟨Nat.le_of_ble_eq_true rfl, Nat.le_of_ble_eq_true rfl⟩ ⟨(Nat.le_of_ble_eq_true rfl), (Nat.le_of_ble_eq_true rfl)⟩ ?_
          rcases o12 with ⟨x10 | E13, S11⟩
          · refine xk_i ?_
            replace h := bk_l h
            refine x_if_eq (pc := 30) hC 37 dX13_finds_30 (by decide) (fun c14 => ?_) (fun c14 => ?_)
            · rw [if_pos c14] at h
              refine x_iconst (pc := 37) (v := (0 : Int32)) hC dX13_finds_37 (by decide) ?_
              refine x_pick [0, 1, 2] rfl ?_
              exact t_X13_finds_38 hls hC hl hE h
            · rw [if_neg c14] at h
              refine x_iconst (pc := 33) (v := (3 : Int32)) hC dX13_finds_33 (by decide) ?_
              refine x_goto (pc := 34) hC 38 dX13_finds_34 (by decide) ?_
              refine x_pick [0, 1, 2] rfl ?_
              exact t_X13_finds_38 hls hC hl hE h
          · exact xk_r (xt_out hC hE (bk_r h) (Nat.le_of_ble_eq_true rfl) (Nat.le_of_ble_eq_true rfl))
        · rw [if_pos c15] at h
          refine x_iconst (pc := 21) (v := (2 : Int32)) hC dX13_finds_21 (by decide) ?_
          refine x_goto (pc := 22) hC 38 dX13_finds_22 (by decide) ?_
          refine x_pick [0, 1, 2] rfl ?_
          exact t_X13_finds_38 hls hC hl hE h
      · exact xk_r (xt_out hC hE (bk_r h) (Nat.le_of_ble_eq_true rfl) (Nat.le_of_ble_eq_true rfl))
    · rw [if_pos c16] at h
      refine x_iconst (pc := 8) (v := (1 : Int32)) hC dX13_finds_8 (by decide) ?_
      refine x_goto (pc := 9) hC 38 dX13_finds_9 (by decide) ?_
      refine x_pick [0, 1, 2] rfl ?_
      exact t_X13_finds_38 hls hC hl hE h
  · exact xk_r (xt_out hC hE (bk_r h) (Nat.le_of_ble_eq_true rfl) (Nat.le_of_ble_eq_true rfl))
theorem c_X13_finds (l : Launch) (hls : l.stackTraces = false) {S : mS} {a0 : Nat} {a1 : Int32} {a2 : Int32} {o : Rs Int32} (h : f_X13_finds S a0 a1 a2 = some o) : CT (fun r : Int32 => some (.int r)) l yX13_finds (.code yX13_finds cX13_finds 3 (Option.some Jvm.ClassFile.FieldType.boolean)) rm_X13_finds S [.ref a0, .int a1, .int a2] o := ct_of (by decide +kernel) hls (Nat.le_of_ble_eq_true rfl) (fun C hl hC hE => t_X13_finds hls hC hl hE h)
abbrev rm_X13_next : Room := { frames := 11, cells := 1, slots := 12, locals := 214 }
def f_X13_next_17  (S : mS) (s0 : Int32) : Option (Rs Int32) :=
  some (.inl s0, S)
set_option maxHeartbeats 2000000 in
set_option maxRecDepth 100000 in
theorem t_X13_next_17 {l : Launch} (hls : l.stackTraces = false) {C : cT} (hC : CX C cX13_next 3 yX13_next rm_X13_next) (hl : C.2.1 = l) {S0 : mS} (hE : CE C S0 (Option.some Jvm.ClassFile.FieldType.int) []) {o : Rs Int32} {S : mS} {s0 : Int32} (h : f_X13_next_17  S s0 = some o) : XX C 3 (QQ C (fun r : Int32 => some (.int r)) S0 o) (1) (12) S 17 [] [.int s0] := by
  unfold f_X13_next_17 at h
  exact x_ireturn (pc := 17) hC hE dX13_next_17 (so h) (Nat.le_of_ble_eq_true rfl) (Nat.le_of_ble_eq_true rfl)
def f_X13_next (S : mS) (a0 : Nat) (a1 : Int32) (a2 : Int32) : Option (Rs Int32) :=
  gd (gK S a0 = 19) (bd (f_X13_finds S a0 a1 a2) fun x2 S3 => if x2 = 0 then (f_X13_next_17  S3 (0 : Int32)) else (gd (gK S3 a0 = 19) (lt9 (gI S3 a0 21) fun x7 => f_X13_next_17  S3 x7)))
set_option maxHeartbeats 2000000 in
set_option maxRecDepth 100000 in
theorem t_X13_next {l : Launch} (hls : l.stackTraces = false) {C : cT} (hC : CX C cX13_next 3 yX13_next rm_X13_next) (hl : C.2.1 = l) {S0 : mS} (hE : CE C S0 (Option.some Jvm.ClassFile.FieldType.int) []) {o : Rs Int32} {S : mS} {a0 : Nat} {a1 : Int32} {a2 : Int32} (h : f_X13_next S a0 a1 a2 = some o) : XX C 3 (QQ C (fun r : Int32 => some (.int r)) S0 o) 0 0 S 0 [(0, .ref a0), (1, .int a1), (2, .int a2)] [] := by
  unfold f_X13_next at h
  refine x_aload_n (pc := 0) hC 0 dX13_next_0 rfl rfl ?_
  refine x_iload_n (pc := 1) hC 1 dX13_next_1 rfl rfl ?_
  refine x_iload_n (pc := 2) hC 2 dX13_next_2 rfl rfl ?_
  obtain ⟨g1, h⟩ := gd_some h
  obtain ⟨o4, ho4, h⟩ := bd_some h
  refine x_callV (pc := 3) (As := [.int a1, .int a2]) (rest := []) hC hl (c_X13_finds l hls ho4) lk_RX13_352 fc_19 g1 dX13_next_3 rfl rfl (Nat.le_of_ble_eq_true rfl) ⟨Nat.le_of_ble_eq_true rfl, Nat.le_of_ble_eq_true rfl⟩ ⟨(Nat.le_of_ble_eq_true rfl), (Nat.le_of_ble_eq_true rfl)⟩ ?_
  rcases o4 with ⟨x2 | E5, S3⟩
  · refine xk_i ?_
    replace h := bk_l h
    refine x_if_eq (pc := 6) hC 16 dX13_next_6 (by decide) (fun c8 => ?_) (fun c8 => ?_)
    · rw [if_pos c8] at h
      refine x_iconst (pc := 16) (v := (0 : Int32)) hC dX13_next_16 (by decide) ?_
      refine x_pick [] rfl ?_
      exact t_X13_next_17 hls hC hl hE h
    · rw [if_neg c8] at h
      refine x_aload_n (pc := 9) hC 0 dX13_next_9 rfl rfl ?_
      obtain ⟨g6, h⟩ := gd_some h
      refine x_getIv (pc := 10) (k := 21) hC fc_19 fl_RX13_339 dX13_next_10 rfl g6 (fun x7 hx7 => ?_)
      replace h := lt_x hx7 h
      refine x_goto (pc := 13) hC 17 dX13_next_13 (by decide) ?_
      refine x_pick [] rfl ?_
      exact t_X13_next_17 hls hC hl hE h
  · exact xk_r (xt_out hC hE (bk_r h) (Nat.le_of_ble_eq_true rfl) (Nat.le_of_ble_eq_true rfl))
theorem c_X13_next (l : Launch) (hls : l.stackTraces = false) {S : mS} {a0 : Nat} {a1 : Int32} {a2 : Int32} {o : Rs Int32} (h : f_X13_next S a0 a1 a2 = some o) : CT (fun r : Int32 => some (.int r)) l yX13_next (.code yX13_next cX13_next 3 (Option.some Jvm.ClassFile.FieldType.int)) rm_X13_next S [.ref a0, .int a1, .int a2] o := ct_of (by decide +kernel) hls (Nat.le_of_ble_eq_true rfl) (fun C hl hC hE => t_X13_next hls hC hl hE h)
abbrev rm_X13_cost : Room := { frames := 11, cells := 1, slots := 12, locals := 214 }
def f_X13_cost_17  (S : mS) (s0 : Int32) : Option (Rs Int32) :=
  some (.inl s0, S)
set_option maxHeartbeats 2000000 in
set_option maxRecDepth 100000 in
theorem t_X13_cost_17 {l : Launch} (hls : l.stackTraces = false) {C : cT} (hC : CX C cX13_cost 3 yX13_cost rm_X13_cost) (hl : C.2.1 = l) {S0 : mS} (hE : CE C S0 (Option.some Jvm.ClassFile.FieldType.int) []) {o : Rs Int32} {S : mS} {s0 : Int32} (h : f_X13_cost_17  S s0 = some o) : XX C 3 (QQ C (fun r : Int32 => some (.int r)) S0 o) (1) (12) S 17 [] [.int s0] := by
  unfold f_X13_cost_17 at h
  exact x_ireturn (pc := 17) hC hE dX13_cost_17 (so h) (Nat.le_of_ble_eq_true rfl) (Nat.le_of_ble_eq_true rfl)
def f_X13_cost (S : mS) (a0 : Nat) (a1 : Int32) (a2 : Int32) : Option (Rs Int32) :=
  gd (gK S a0 = 19) (bd (f_X13_finds S a0 a1 a2) fun x2 S3 => if x2 = 0 then (f_X13_cost_17  S3 (0 : Int32)) else (gd (gK S3 a0 = 19) (lt9 (gI S3 a0 22) fun x7 => f_X13_cost_17  S3 x7)))
set_option maxHeartbeats 2000000 in
set_option maxRecDepth 100000 in
theorem t_X13_cost {l : Launch} (hls : l.stackTraces = false) {C : cT} (hC : CX C cX13_cost 3 yX13_cost rm_X13_cost) (hl : C.2.1 = l) {S0 : mS} (hE : CE C S0 (Option.some Jvm.ClassFile.FieldType.int) []) {o : Rs Int32} {S : mS} {a0 : Nat} {a1 : Int32} {a2 : Int32} (h : f_X13_cost S a0 a1 a2 = some o) : XX C 3 (QQ C (fun r : Int32 => some (.int r)) S0 o) 0 0 S 0 [(0, .ref a0), (1, .int a1), (2, .int a2)] [] := by
  unfold f_X13_cost at h
  refine x_aload_n (pc := 0) hC 0 dX13_cost_0 rfl rfl ?_
  refine x_iload_n (pc := 1) hC 1 dX13_cost_1 rfl rfl ?_
  refine x_iload_n (pc := 2) hC 2 dX13_cost_2 rfl rfl ?_
  obtain ⟨g1, h⟩ := gd_some h
  obtain ⟨o4, ho4, h⟩ := bd_some h
  refine x_callV (pc := 3) (As := [.int a1, .int a2]) (rest := []) hC hl (c_X13_finds l hls ho4) lk_RX13_352 fc_19 g1 dX13_cost_3 rfl rfl (Nat.le_of_ble_eq_true rfl) ⟨Nat.le_of_ble_eq_true rfl, Nat.le_of_ble_eq_true rfl⟩ ⟨(Nat.le_of_ble_eq_true rfl), (Nat.le_of_ble_eq_true rfl)⟩ ?_
  rcases o4 with ⟨x2 | E5, S3⟩
  · refine xk_i ?_
    replace h := bk_l h
    refine x_if_eq (pc := 6) hC 16 dX13_cost_6 (by decide) (fun c8 => ?_) (fun c8 => ?_)
    · rw [if_pos c8] at h
      refine x_iconst (pc := 16) (v := (0 : Int32)) hC dX13_cost_16 (by decide) ?_
      refine x_pick [] rfl ?_
      exact t_X13_cost_17 hls hC hl hE h
    · rw [if_neg c8] at h
      refine x_aload_n (pc := 9) hC 0 dX13_cost_9 rfl rfl ?_
      obtain ⟨g6, h⟩ := gd_some h
      refine x_getIv (pc := 10) (k := 22) hC fc_19 fl_RX13_342 dX13_cost_10 rfl g6 (fun x7 hx7 => ?_)
      replace h := lt_x hx7 h
      refine x_goto (pc := 13) hC 17 dX13_cost_13 (by decide) ?_
      refine x_pick [] rfl ?_
      exact t_X13_cost_17 hls hC hl hE h
  · exact xk_r (xt_out hC hE (bk_r h) (Nat.le_of_ble_eq_true rfl) (Nat.le_of_ble_eq_true rfl))
theorem c_X13_cost (l : Launch) (hls : l.stackTraces = false) {S : mS} {a0 : Nat} {a1 : Int32} {a2 : Int32} {o : Rs Int32} (h : f_X13_cost S a0 a1 a2 = some o) : CT (fun r : Int32 => some (.int r)) l yX13_cost (.code yX13_cost cX13_cost 3 (Option.some Jvm.ClassFile.FieldType.int)) rm_X13_cost S [.ref a0, .int a1, .int a2] o := ct_of (by decide +kernel) hls (Nat.le_of_ble_eq_true rfl) (fun C hl hC hE => t_X13_cost hls hC hl hE h)
abbrev rm_X13_type : Room := { frames := 9, cells := 0, slots := 0, locals := 171 }
def f_X13_type_18  (S : mS) (a0 : Nat) (a1 : Int32) (s0 : Nat) (s1 : Int32) : Option (Rs Int32) :=
  gd (gK S s0 = 19) (bd (f_X13_isWrong S s0 s1) fun x2 S3 => if x2 = 0 then (none) else (some (.inl (0 : Int32), S3)))
set_option maxHeartbeats 2000000 in
set_option maxRecDepth 100000 in
theorem t_X13_type_18 {l : Launch} (hls : l.stackTraces = false) {C : cT} (hC : CX C cX13_type 2 yX13_type rm_X13_type) (hl : C.2.1 = l) {S0 : mS} (hE : CE C S0 (Option.some Jvm.ClassFile.FieldType.int) []) {o : Rs Int32} {S : mS} {a0 : Nat} {a1 : Int32} {s0 : Nat} {s1 : Int32} (h : f_X13_type_18  S a0 a1 s0 s1 = some o) : XX C 2 (QQ C (fun r : Int32 => some (.int r)) S0 o) (0) (0) S 18 [(0, .ref a0), (1, .int a1)] [.int s1, .ref s0] := by
  unfold f_X13_type_18 at h
  obtain ⟨g1, h⟩ := gd_some h
  obtain ⟨o4, ho4, h⟩ := bd_some h
  refine x_callV (pc := 18) (As := [.int s1]) (rest := []) hC hl (c_X13_isWrong l hls ho4) lk_RX13_68 fc_19 g1 dX13_type_18 rfl rfl (Nat.le_of_ble_eq_true rfl) ⟨Nat.le_of_ble_eq_true rfl, Nat.le_of_ble_eq_true rfl⟩ ⟨(Nat.le_of_ble_eq_true rfl), (Nat.le_of_ble_eq_true rfl)⟩ ?_
  rcases o4 with ⟨x2 | E5, S3⟩
  · refine xk_i ?_
    replace h := bk_l h
    refine x_if_eq (pc := 21) hC 26 dX13_type_21 (by decide) (fun c6 => ?_) (fun c6 => ?_)
    · rw [if_pos c6] at h
      cases h
    · rw [if_neg c6] at h
      refine x_iconst (pc := 24) (v := (0 : Int32)) hC dX13_type_24 (by decide) ?_
      exact x_ireturn (pc := 25) hC hE dX13_type_25 (so h) (Nat.le_of_ble_eq_true rfl) (Nat.le_of_ble_eq_true rfl)
  · exact xk_r (xt_out hC hE (bk_r h) (Nat.le_of_ble_eq_true rfl) (Nat.le_of_ble_eq_true rfl))
def f_X13_type (S : mS) (a0 : Nat) (a1 : Int32) : Option (Rs Int32) :=
  gd (gK S a0 = 19) (lt9 (gR S a0 20) fun r2 => gd (gK S r2 = 1) (bd (f_J0_length_8abf5 S r2) fun x4 S5 => if x4 = (30 : Int32) then (f_X13_type_18  S5 a0 a1 a0 (1 : Int32)) else (f_X13_type_18  S5 a0 a1 a0 (0 : Int32))))
set_option maxHeartbeats 2000000 in
set_option maxRecDepth 100000 in
theorem t_X13_type {l : Launch} (hls : l.stackTraces = false) {C : cT} (hC : CX C cX13_type 2 yX13_type rm_X13_type) (hl : C.2.1 = l) {S0 : mS} (hE : CE C S0 (Option.some Jvm.ClassFile.FieldType.int) []) {o : Rs Int32} {S : mS} {a0 : Nat} {a1 : Int32} (h : f_X13_type S a0 a1 = some o) : XX C 2 (QQ C (fun r : Int32 => some (.int r)) S0 o) 0 0 S 0 [(0, .ref a0), (1, .int a1)] [] := by
  unfold f_X13_type at h
  refine x_aload_n (pc := 0) hC 0 dX13_type_0 rfl rfl ?_
  refine x_aload_n (pc := 1) hC 0 dX13_type_1 rfl rfl ?_
  obtain ⟨g1, h⟩ := gd_some h
  refine x_getRv (pc := 2) (k := 20) hC fc_19 fl_RX13_42 dX13_type_2 rfl g1 (fun r2 hr2 => ?_)
  replace h := lt_x hr2 h
  obtain ⟨g3, h⟩ := gd_some h
  obtain ⟨o6, ho6, h⟩ := bd_some h
  refine x_callV (pc := 5) (As := []) (rest := [.ref a0]) hC hl (c_J0_length_8abf5 l hls ho6) lk_RX13_356 fc_1 g3 dX13_type_5 rfl rfl (Nat.le_of_ble_eq_true rfl) ⟨Nat.le_of_ble_eq_true rfl, Nat.le_of_ble_eq_true rfl⟩ ⟨(Nat.le_of_ble_eq_true rfl), (Nat.le_of_ble_eq_true rfl)⟩ ?_
  rcases o6 with ⟨x4 | E7, S5⟩
  · refine xk_i ?_
    replace h := bk_l h
    refine x_bipush (pc := 8) (v := (30 : Int32)) hC dX13_type_8 (by decide) ?_
    refine x_icmp_ne (pc := 10) hC 17 dX13_type_10 (by decide) (fun c8 => ?_) (fun c8 => ?_)
    · rw [if_neg c8] at h
      refine x_iconst (pc := 17) (v := (0 : Int32)) hC dX13_type_17 (by decide) ?_
      refine x_pick [0, 1] rfl ?_
      exact t_X13_type_18 hls hC hl hE h
    · rw [if_pos c8] at h
      refine x_iconst (pc := 13) (v := (1 : Int32)) hC dX13_type_13 (by decide) ?_
      refine x_goto (pc := 14) hC 18 dX13_type_14 (by decide) ?_
      refine x_pick [0, 1] rfl ?_
      exact t_X13_type_18 hls hC hl hE h
  · exact xk_r (xt_out hC hE (bk_r h) (Nat.le_of_ble_eq_true rfl) (Nat.le_of_ble_eq_true rfl))
theorem c_X13_type (l : Launch) (hls : l.stackTraces = false) {S : mS} {a0 : Nat} {a1 : Int32} {o : Rs Int32} (h : f_X13_type S a0 a1 = some o) : CT (fun r : Int32 => some (.int r)) l yX13_type (.code yX13_type cX13_type 2 (Option.some Jvm.ClassFile.FieldType.int)) rm_X13_type S [.ref a0, .int a1] o := ct_of (by decide +kernel) hls (Nat.le_of_ble_eq_true rfl) (fun C hl hC hE => t_X13_type hls hC hl hE h)
abbrev rm_X13_wipe : Room := { frames := 9, cells := 0, slots := 0, locals := 170 }
def f_X13_wipe (S : mS) (a0 : Nat) : Option (Rs Int32) :=
  gd (gK S a0 = 19) (zI (sI S a0 0 (0 : Int32)) fun S2 => lt9 (gR S2 a0 20) fun r4 => gd (gK S2 r4 = 1) (bd (f_J0_length_8abf5 S2 r4) fun x6 S7 => gd (gK S7 a0 = 19) (zR (sR S7 a0 20 (KB + 0)) fun S11 => some (.inl x6, S11))))
set_option maxHeartbeats 2000000 in
set_option maxRecDepth 100000 in
theorem t_X13_wipe {l : Launch} (hls : l.stackTraces = false) {C : cT} (hC : CX C cX13_wipe 2 yX13_wipe rm_X13_wipe) (hl : C.2.1 = l) {S0 : mS} (hE : CE C S0 (Option.some Jvm.ClassFile.FieldType.int) []) {o : Rs Int32} {S : mS} {a0 : Nat} (h : f_X13_wipe S a0 = some o) : XX C 2 (QQ C (fun r : Int32 => some (.int r)) S0 o) 0 0 S 0 [(0, .ref a0)] [] := by
  unfold f_X13_wipe at h
  refine x_aload_n (pc := 0) hC 0 dX13_wipe_0 rfl rfl ?_
  refine x_iconst (pc := 1) (v := (0 : Int32)) hC dX13_wipe_1 (by decide) ?_
  obtain ⟨g1, h⟩ := gd_some h
  refine x_putIv (pc := 2) (k := 0) hC fc_19 fl_RX13_46 dX13_wipe_2 rfl rfl (nf_int _) g1 (fun S2 hS2 => ?_)
  replace h := zI_x hS2 h
  have g3 : gK S2 a0 = 19 := by rw [hS2]; exact g1
  refine x_aload_n (pc := 5) hC 0 dX13_wipe_5 rfl rfl ?_
  refine x_getRv (pc := 6) (k := 20) hC fc_19 fl_RX13_42 dX13_wipe_6 rfl g3 (fun r4 hr4 => ?_)
  replace h := lt_x hr4 h
  obtain ⟨g5, h⟩ := gd_some h
  obtain ⟨o8, ho8, h⟩ := bd_some h
  refine x_callV (pc := 9) (As := []) (rest := []) hC hl (c_J0_length_8abf5 l hls ho8) lk_RX13_356 fc_1 g5 dX13_wipe_9 rfl rfl (Nat.le_of_ble_eq_true rfl) ⟨Nat.le_of_ble_eq_true rfl, Nat.le_of_ble_eq_true rfl⟩ ⟨(Nat.le_of_ble_eq_true rfl), (Nat.le_of_ble_eq_true rfl)⟩ ?_
  rcases o8 with ⟨x6 | E9, S7⟩
  · refine xk_i ?_
    replace h := bk_l h
    refine x_istore_n (pc := 12) hC dX13_wipe_12 rfl (by decide) (by decide) rfl ?_
    refine x_aload_n (pc := 13) hC 1 dX13_wipe_13 rfl rfl ?_
    refine x_ldcK (pc := 14) (i := 0) (tx := "") hC (by decide) dX13_wipe_14 ?_
    obtain ⟨g10, h⟩ := gd_some h
    refine x_putRv (pc := 16) (k := 20) hC fc_19 fl_RX13_42 dX13_wipe_16 rfl rfl (Or.inl ⟨_, rfl⟩) g10 (fun S11 hS11 => ?_)
    replace h := zR_x hS11 h
    have g12 : gK S11 a0 = 19 := by rw [hS11]; exact g10
    refine x_iload_n (pc := 19) hC 0 dX13_wipe_19 rfl rfl ?_
    exact x_ireturn (pc := 20) hC hE dX13_wipe_20 (so h) (Nat.le_of_ble_eq_true rfl) (Nat.le_of_ble_eq_true rfl)
  · exact xk_r (xt_out hC hE (bk_r h) (Nat.le_of_ble_eq_true rfl) (Nat.le_of_ble_eq_true rfl))
theorem c_X13_wipe (l : Launch) (hls : l.stackTraces = false) {S : mS} {a0 : Nat} {o : Rs Int32} (h : f_X13_wipe S a0 = some o) : CT (fun r : Int32 => some (.int r)) l yX13_wipe (.code yX13_wipe cX13_wipe 2 (Option.some Jvm.ClassFile.FieldType.int)) rm_X13_wipe S [.ref a0] o := ct_of (by decide +kernel) hls (Nat.le_of_ble_eq_true rfl) (fun C hl hC hE => t_X13_wipe hls hC hl hE h)
abbrev rm_X13_isDigit : Room := { frames := 9, cells := 0, slots := 0, locals := 172 }
def f_X13_isDigit_33  (S : mS) (s0 : Int32) (s1 : Int32) (s2 : Int32) : Option (Rs Int32) :=
  bd (f_X13_isBetween S s0 s1 s2) fun x1 S2 => gd (x1 = 0 ∨ x1 = 1) (some (.inl x1, S2))
set_option maxHeartbeats 2000000 in
set_option maxRecDepth 100000 in
theorem t_X13_isDigit_33 {l : Launch} (hls : l.stackTraces = false) {C : cT} (hC : CX C cX13_isDigit 2 yX13_isDigit rm_X13_isDigit) (hl : C.2.1 = l) {S0 : mS} (hE : CE C S0 (Option.some Jvm.ClassFile.FieldType.boolean) []) {o : Rs Int32} {S : mS} {s0 : Int32} {s1 : Int32} {s2 : Int32} (h : f_X13_isDigit_33  S s0 s1 s2 = some o) : XX C 2 (QQ C (fun r : Int32 => some (.int r)) S0 o) (0) (0) S 33 [] [.int s2, .int s1, .int s0] := by
  unfold f_X13_isDigit_33 at h
  obtain ⟨o3, ho3, h⟩ := bd_some h
  refine x_callS (pc := 33) (As := [.int s0, .int s1, .int s2]) (rest := []) hC hl (c_X13_isBetween l hls ho3) lk_RX13_50 dX13_isDigit_33 rfl rfl (Nat.le_of_ble_eq_true rfl) ⟨Nat.le_of_ble_eq_true rfl, Nat.le_of_ble_eq_true rfl⟩ ⟨(Nat.le_of_ble_eq_true rfl), (Nat.le_of_ble_eq_true rfl)⟩ ?_
  rcases o3 with ⟨x1 | E4, S2⟩
  · refine xk_i ?_
    replace h := bk_l h
    obtain ⟨g5, h⟩ := gd_some h
    exact x_zreturn (pc := 36) hC hE dX13_isDigit_36 (nf_B g5).1 (so h) (Nat.le_of_ble_eq_true rfl) (Nat.le_of_ble_eq_true rfl)
  · exact xk_r (xt_out hC hE (bk_r h) (Nat.le_of_ble_eq_true rfl) (Nat.le_of_ble_eq_true rfl))
def f_X13_isDigit_15  (S : mS) (s0 : Int32) (s1 : Int32) : Option (Rs Int32) :=
  f_X13_isDigit_33  S s0 s1 (51 : Int32)
set_option maxHeartbeats 2000000 in
set_option maxRecDepth 100000 in
theorem t_X13_isDigit_15 {l : Launch} (hls : l.stackTraces = false) {C : cT} (hC : CX C cX13_isDigit 2 yX13_isDigit rm_X13_isDigit) (hl : C.2.1 = l) {S0 : mS} (hE : CE C S0 (Option.some Jvm.ClassFile.FieldType.boolean) []) {o : Rs Int32} {S : mS} {s0 : Int32} {s1 : Int32} (h : f_X13_isDigit_15  S s0 s1 = some o) : XX C 2 (QQ C (fun r : Int32 => some (.int r)) S0 o) (0) (0) S 15 [] [.int s1, .int s0] := by
  unfold f_X13_isDigit_15 at h
  refine x_bipush (pc := 15) (v := (51 : Int32)) hC dX13_isDigit_15 (by decide) ?_
  refine x_goto (pc := 17) hC 33 dX13_isDigit_17 (by decide) ?_
  refine x_pick [] rfl ?_
  exact t_X13_isDigit_33 hls hC hl hE h
def f_X13_isDigit (S : mS) (a0 : Int32) (a1 : Int32) : Option (Rs Int32) :=
  if a0 = (99 : Int32) then (f_X13_isDigit_15  S a1 (48 : Int32)) else (if a0 = (109 : Int32) then (f_X13_isDigit_15  S a1 (48 : Int32)) else (if a0 = (108 : Int32) then (f_X13_isDigit_33  S a1 (48 : Int32) (54 : Int32)) else (f_X13_isDigit_33  S a1 (48 : Int32) (57 : Int32))))
set_option maxHeartbeats 2000000 in
set_option maxRecDepth 100000 in
theorem t_X13_isDigit {l : Launch} (hls : l.stackTraces = false) {C : cT} (hC : CX C cX13_isDigit 2 yX13_isDigit rm_X13_isDigit) (hl : C.2.1 = l) {S0 : mS} (hE : CE C S0 (Option.some Jvm.ClassFile.FieldType.boolean) []) {o : Rs Int32} {S : mS} {a0 : Int32} {a1 : Int32} (h : f_X13_isDigit S a0 a1 = some o) : XX C 2 (QQ C (fun r : Int32 => some (.int r)) S0 o) 0 0 S 0 [(0, .int a0), (1, .int a1)] [] := by
  unfold f_X13_isDigit at h
  refine x_iload_n (pc := 0) hC 1 dX13_isDigit_0 rfl rfl ?_
  refine x_bipush (pc := 1) (v := (48 : Int32)) hC dX13_isDigit_1 (by decide) ?_
  refine x_iload_n (pc := 3) hC 0 dX13_isDigit_3 rfl rfl ?_
  refine x_bipush (pc := 4) (v := (99 : Int32)) hC dX13_isDigit_4 (by decide) ?_
  refine x_icmp_eq (pc := 6) hC 15 dX13_isDigit_6 (by decide) (fun c3 => ?_) (fun c3 => ?_)
  · rw [if_pos c3] at h
    refine x_pick [] rfl ?_
    exact t_X13_isDigit_15 hls hC hl hE h
  · rw [if_neg c3] at h
    refine x_iload_n (pc := 9) hC 0 dX13_isDigit_9 rfl rfl ?_
    refine x_bipush (pc := 10) (v := (109 : Int32)) hC dX13_isDigit_10 (by decide) ?_
    refine x_icmp_ne (pc := 12) hC 20 dX13_isDigit_12 (by decide) (fun c2 => ?_) (fun c2 => ?_)
    · rw [if_neg c2] at h
      refine x_iload_n (pc := 20) hC 0 dX13_isDigit_20 rfl rfl ?_
      refine x_bipush (pc := 21) (v := (108 : Int32)) hC dX13_isDigit_21 (by decide) ?_
      refine x_icmp_ne (pc := 23) hC 31 dX13_isDigit_23 (by decide) (fun c1 => ?_) (fun c1 => ?_)
      · rw [if_neg c1] at h
        refine x_bipush (pc := 31) (v := (57 : Int32)) hC dX13_isDigit_31 (by decide) ?_
        refine x_pick [] rfl ?_
        exact t_X13_isDigit_33 hls hC hl hE h
      · rw [if_pos c1] at h
        refine x_bipush (pc := 26) (v := (54 : Int32)) hC dX13_isDigit_26 (by decide) ?_
        refine x_goto (pc := 28) hC 33 dX13_isDigit_28 (by decide) ?_
        refine x_pick [] rfl ?_
        exact t_X13_isDigit_33 hls hC hl hE h
    · rw [if_pos c2] at h
      refine x_pick [] rfl ?_
      exact t_X13_isDigit_15 hls hC hl hE h
theorem c_X13_isDigit (l : Launch) (hls : l.stackTraces = false) {S : mS} {a0 : Int32} {a1 : Int32} {o : Rs Int32} (h : f_X13_isDigit S a0 a1 = some o) : CT (fun r : Int32 => some (.int r)) l yX13_isDigit (.code yX13_isDigit cX13_isDigit 2 (Option.some Jvm.ClassFile.FieldType.boolean)) rm_X13_isDigit S [.int a0, .int a1] o := ct_of (by decide +kernel) hls (Nat.le_of_ble_eq_true rfl) (fun C hl hC hE => t_X13_isDigit hls hC hl hE h)
abbrev rm_X13_badSign : Room := { frames := 10, cells := 0, slots := 0, locals := 191 }
def f_X13_badSign_65  (S : mS) (a1 : Int32) : Option (Rs Int32) :=
  some (.inl a1, S)
set_option maxHeartbeats 2000000 in
set_option maxRecDepth 100000 in
theorem t_X13_badSign_65 {l : Launch} (hls : l.stackTraces = false) {C : cT} (hC : CX C cX13_badSign 4 yX13_badSign rm_X13_badSign) (hl : C.2.1 = l) {S0 : mS} (hE : CE C S0 (Option.some Jvm.ClassFile.FieldType.int) []) {o : Rs Int32} {S : mS} {a1 : Int32} (h : f_X13_badSign_65  S a1 = some o) : XX C 4 (QQ C (fun r : Int32 => some (.int r)) S0 o) (0) (0) S 65 [(1, .int a1)] [] := by
  unfold f_X13_badSign_65 at h
  refine x_iload_n (pc := 65) hC 0 dX13_badSign_65 rfl rfl ?_
  exact x_ireturn (pc := 66) hC hE dX13_badSign_66 (so h) (Nat.le_of_ble_eq_true rfl) (Nat.le_of_ble_eq_true rfl)
def f_X13_badSign_14  : Nat → mS → Nat → Int32 → Option (Rs Int32)
  | 0, _, _, _ => none
  | k + 1, S, a0, a1 => gd (gK S a0 = 19) (lt9 (gR S a0 20) fun r2 => gd (gK S r2 = 1) (bd (f_J0_length_8abf5 S r2) fun x4 S5 => if x4 ≤ a1 then (some (.inl (-1 : Int32), S5)) else (gd (gK S5 a0 = 19) (lt9 (gR S5 a0 20) fun r9 => gd (gK S5 r9 = 1) (bd (f_J0_charAt_5068e S5 r9 a1) fun x11 S12 => bd (f_X13_isBetween S12 x11 (65 : Int32) (68 : Int32)) fun x15 S16 => if x15 = 0 then (if a1 = 0 then (f_X13_badSign_65  S16 a1) else (none)) else (lt9 (a1 + Int32.ofInt (1)) fun x20 => f_X13_badSign_14 k S16 a0 x20))))))
set_option maxHeartbeats 2000000 in
set_option maxRecDepth 100000 in
theorem t_X13_badSign_14 {l : Launch} (hls : l.stackTraces = false) {C : cT} (hC : CX C cX13_badSign 4 yX13_badSign rm_X13_badSign) (hl : C.2.1 = l) {S0 : mS} (hE : CE C S0 (Option.some Jvm.ClassFile.FieldType.int) []) {o : Rs Int32} : ∀ (k : Nat) (S : mS) (a0 : Nat) (a1 : Int32), f_X13_badSign_14  k S a0 a1 = some o → XX C 4 (QQ C (fun r : Int32 => some (.int r)) S0 o) (0) (0) S 14 [(0, .ref a0), (1, .int a1)] [] := by
  intro k
  induction k with
  | zero => intro S a0 a1 h; cases h
  | succ k ih =>
    intro S a0 a1 h
    unfold f_X13_badSign_14 at h
    refine x_iload_n (pc := 14) hC 1 dX13_badSign_14 rfl rfl ?_
    refine x_aload_n (pc := 15) hC 0 dX13_badSign_15 rfl rfl ?_
    obtain ⟨g1, h⟩ := gd_some h
    refine x_getRv (pc := 16) (k := 20) hC fc_19 fl_RX13_42 dX13_badSign_16 rfl g1 (fun r2 hr2 => ?_)
    replace h := lt_x hr2 h
    obtain ⟨g3, h⟩ := gd_some h
    obtain ⟨o6, ho6, h⟩ := bd_some h
    refine x_callV (pc := 19) (As := []) (rest := [.int a1]) hC hl (c_J0_length_8abf5 l hls ho6) lk_RX13_356 fc_1 g3 dX13_badSign_19 rfl rfl (Nat.le_of_ble_eq_true rfl) ⟨Nat.le_of_ble_eq_true rfl, Nat.le_of_ble_eq_true rfl⟩ ⟨(Nat.le_of_ble_eq_true rfl), (Nat.le_of_ble_eq_true rfl)⟩ ?_
    rcases o6 with ⟨x4 | E7, S5⟩
    · refine xk_i ?_
      replace h := bk_l h
      refine x_icmp_ge (pc := 22) hC 136 dX13_badSign_22 (by decide) (fun c22 => ?_) (fun c22 => ?_)
      · rw [if_pos c22] at h
        refine x_iconst (pc := 136) (v := (-1 : Int32)) hC dX13_badSign_136 (by decide) ?_
        exact x_ireturn (pc := 137) hC hE dX13_badSign_137 (so h) (Nat.le_of_ble_eq_true rfl) (Nat.le_of_ble_eq_true rfl)
      · rw [if_neg c22] at h
        refine x_aload_n (pc := 25) hC 0 dX13_badSign_25 rfl rfl ?_
        obtain ⟨g8, h⟩ := gd_some h
        refine x_getRv (pc := 26) (k := 20) hC fc_19 fl_RX13_42 dX13_badSign_26 rfl g8 (fun r9 hr9 => ?_)
        replace h := lt_x hr9 h
        refine x_iload_n (pc := 29) hC 1 dX13_badSign_29 rfl rfl ?_
        obtain ⟨g10, h⟩ := gd_some h
        obtain ⟨o13, ho13, h⟩ := bd_some h
        refine x_callV (pc := 30) (As := [.int a1]) (rest := []) hC hl (c_J0_charAt_5068e l hls ho13) lk_RX13_375 fc_1 g10 dX13_badSign_30 rfl rfl (Nat.le_of_ble_eq_true rfl) ⟨Nat.le_of_ble_eq_true rfl, Nat.le_of_ble_eq_true rfl⟩ ⟨(Nat.le_of_ble_eq_true rfl), (Nat.le_of_ble_eq_true rfl)⟩ ?_
        rcases o13 with ⟨x11 | E14, S12⟩
        · refine xk_i ?_
          replace h := bk_l h
          refine x_istore_n (pc := 33) hC dX13_badSign_33 rfl (by decide) (by decide) rfl ?_
          refine x_iload_n (pc := 34) hC 0 dX13_badSign_34 rfl rfl ?_
          refine x_bipush (pc := 35) (v := (65 : Int32)) hC dX13_badSign_35 (by decide) ?_
          refine x_bipush (pc := 37) (v := (68 : Int32)) hC dX13_badSign_37 (by decide) ?_
          obtain ⟨o17, ho17, h⟩ := bd_some h
          refine x_callS (pc := 39) (As := [.int x11, .int (65 : Int32), .int (68 : Int32)]) (rest := []) hC hl (c_X13_isBetween l hls ho17) lk_RX13_50 dX13_badSign_39 rfl rfl (Nat.le_of_ble_eq_true rfl) ⟨Nat.le_of_ble_eq_true rfl, Nat.le_of_ble_eq_true rfl⟩ ⟨(Nat.le_of_ble_eq_true rfl), (Nat.le_of_ble_eq_true rfl)⟩ ?_
          rcases o17 with ⟨x15 | E18, S16⟩
          · refine xk_i ?_
            replace h := bk_l h
            refine x_if_eq (pc := 42) hC 51 dX13_badSign_42 (by decide) (fun c21 => ?_) (fun c21 => ?_)
            · rw [if_pos c21] at h
              refine x_iload_n (pc := 51) hC 2 dX13_badSign_51 rfl rfl ?_
              refine x_if_eq (pc := 52) hC 65 dX13_badSign_52 (by decide) (fun c19 => ?_) (fun c19 => ?_)
              · rw [if_pos c19] at h
                refine x_pick [2] rfl ?_
                exact t_X13_badSign_65 hls hC hl hE h
              · rw [if_neg c19] at h
                cases h
            · rw [if_neg c21] at h
              obtain ⟨x20, hx20⟩ : ∃ z, z = (a1 + Int32.ofInt (1)) := ⟨_, rfl⟩
              replace h := lt_x hx20 h
              refine x_iinc (pc := 45) hC 2 dX13_badSign_45 rfl hx20.symm (by decide) (by decide) rfl ?_
              refine x_goto (pc := 48) hC 14 dX13_badSign_48 (by decide) ?_
              refine x_pick [2, 0] rfl ?_
              exact ih _ _ _ h
          · exact xk_r (xt_out hC hE (bk_r h) (Nat.le_of_ble_eq_true rfl) (Nat.le_of_ble_eq_true rfl))
        · exact xk_r (xt_out hC hE (bk_r h) (Nat.le_of_ble_eq_true rfl) (Nat.le_of_ble_eq_true rfl))
    · exact xk_r (xt_out hC hE (bk_r h) (Nat.le_of_ble_eq_true rfl) (Nat.le_of_ble_eq_true rfl))
def f_X13_badSign (S : mS) (a0 : Nat) : Option (Rs Int32) :=
  gd (gK S a0 = 19) (lt9 (gR S a0 20) fun r2 => gd (gK S r2 = 1) (bd (f_J0_isEmpty_aae02 S r2) fun x4 S5 => if x4 = 0 then (f_X13_badSign_14  16 S5 a0 (0 : Int32)) else (some (.inl (0 : Int32), S5))))
set_option maxHeartbeats 2000000 in
set_option maxRecDepth 100000 in
theorem t_X13_badSign {l : Launch} (hls : l.stackTraces = false) {C : cT} (hC : CX C cX13_badSign 4 yX13_badSign rm_X13_badSign) (hl : C.2.1 = l) {S0 : mS} (hE : CE C S0 (Option.some Jvm.ClassFile.FieldType.int) []) {o : Rs Int32} {S : mS} {a0 : Nat} (h : f_X13_badSign S a0 = some o) : XX C 4 (QQ C (fun r : Int32 => some (.int r)) S0 o) 0 0 S 0 [(0, .ref a0)] [] := by
  unfold f_X13_badSign at h
  refine x_aload_n (pc := 0) hC 0 dX13_badSign_0 rfl rfl ?_
  obtain ⟨g1, h⟩ := gd_some h
  refine x_getRv (pc := 1) (k := 20) hC fc_19 fl_RX13_42 dX13_badSign_1 rfl g1 (fun r2 hr2 => ?_)
  replace h := lt_x hr2 h
  obtain ⟨g3, h⟩ := gd_some h
  obtain ⟨o6, ho6, h⟩ := bd_some h
  refine x_callV (pc := 4) (As := []) (rest := []) hC hl (c_J0_isEmpty_aae02 l hls ho6) lk_RX13_373 fc_1 g3 dX13_badSign_4 rfl rfl (Nat.le_of_ble_eq_true rfl) ⟨Nat.le_of_ble_eq_true rfl, Nat.le_of_ble_eq_true rfl⟩ ⟨(Nat.le_of_ble_eq_true rfl), (Nat.le_of_ble_eq_true rfl)⟩ ?_
  rcases o6 with ⟨x4 | E7, S5⟩
  · refine xk_i ?_
    replace h := bk_l h
    refine x_if_eq (pc := 7) hC 12 dX13_badSign_7 (by decide) (fun c8 => ?_) (fun c8 => ?_)
    · rw [if_pos c8] at h
      refine x_iconst (pc := 12) (v := (0 : Int32)) hC dX13_badSign_12 (by decide) ?_
      refine x_istore_n (pc := 13) hC dX13_badSign_13 rfl (by decide) (by decide) rfl ?_
      refine x_pick [1, 0] rfl ?_
      exact t_X13_badSign_14 hls hC hl hE 16 _ _ _ h
    · rw [if_neg c8] at h
      refine x_iconst (pc := 10) (v := (0 : Int32)) hC dX13_badSign_10 (by decide) ?_
      exact x_ireturn (pc := 11) hC hE dX13_badSign_11 (so h) (Nat.le_of_ble_eq_true rfl) (Nat.le_of_ble_eq_true rfl)
  · exact xk_r (xt_out hC hE (bk_r h) (Nat.le_of_ble_eq_true rfl) (Nat.le_of_ble_eq_true rfl))
theorem c_X13_badSign (l : Launch) (hls : l.stackTraces = false) {S : mS} {a0 : Nat} {o : Rs Int32} (h : f_X13_badSign S a0 = some o) : CT (fun r : Int32 => some (.int r)) l yX13_badSign (.code yX13_badSign cX13_badSign 4 (Option.some Jvm.ClassFile.FieldType.int)) rm_X13_badSign S [.ref a0] o := ct_of (by decide +kernel) hls (Nat.le_of_ble_eq_true rfl) (fun C hl hC hE => t_X13_badSign hls hC hl hE h)
abbrev rm_X13_does : Room := { frames := 8, cells := 0, slots := 0, locals := 150 }
def f_X13_does (S : mS) (a0 : Nat) (a1 : Int32) (a2 : Int32) : Option (Rs Int32) :=
  none
set_option maxHeartbeats 2000000 in
set_option maxRecDepth 100000 in
theorem t_X13_does {l : Launch} (hls : l.stackTraces = false) {C : cT} (hC : CX C cX13_does 3 yX13_does rm_X13_does) (hl : C.2.1 = l) {S0 : mS} (hE : CE C S0 (Option.some Jvm.ClassFile.FieldType.char) []) {o : Rs Int32} {S : mS} {a0 : Nat} {a1 : Int32} {a2 : Int32} (h : f_X13_does S a0 a1 a2 = some o) : XX C 3 (QQ C (fun r : Int32 => some (.int r)) S0 o) 0 0 S 0 [(0, .ref a0), (1, .int a1), (2, .int a2)] [] := by
  unfold f_X13_does at h
  cases h
theorem c_X13_does (l : Launch) (hls : l.stackTraces = false) {S : mS} {a0 : Nat} {a1 : Int32} {a2 : Int32} {o : Rs Int32} (h : f_X13_does S a0 a1 a2 = some o) : CT (fun r : Int32 => some (.int r)) l yX13_does (.code yX13_does cX13_does 3 (Option.some Jvm.ClassFile.FieldType.char)) rm_X13_does S [.ref a0, .int a1, .int a2] o := ct_of (by decide +kernel) hls (Nat.le_of_ble_eq_true rfl) (fun C hl hC hE => t_X13_does hls hC hl hE h)
abbrev rm_X13_refuses : Room := { frames := 8, cells := 0, slots := 0, locals := 150 }
def f_X13_refuses_41  (S : mS) (s0 : Nat) (s1 : Int32) : Option (Rs Unit) :=
  gd (gK S s0 = 19) (zI (sI S s0 17 s1) fun S2 => some (.inl (), S2))
set_option maxHeartbeats 2000000 in
set_option maxRecDepth 100000 in
theorem t_X13_refuses_41 {l : Launch} (hls : l.stackTraces = false) {C : cT} (hC : CX C cX13_refuses 5 yX13_refuses rm_X13_refuses) (hl : C.2.1 = l) {S0 : mS} (hE : CE C S0 (Option.none : Option Jvm.ClassFile.FieldType) []) {o : Rs Unit} {S : mS} {s0 : Nat} {s1 : Int32} (h : f_X13_refuses_41  S s0 s1 = some o) : XX C 5 (QQ C (fun _ : Unit => none) S0 o) (0) (0) S 41 [] [.int s1, .ref s0] := by
  unfold f_X13_refuses_41 at h
  obtain ⟨g1, h⟩ := gd_some h
  refine x_putIv (pc := 41) (k := 17) hC fc_19 fl_RX13_389 dX13_refuses_41 rfl rfl (nf_int _) g1 (fun S2 hS2 => ?_)
  replace h := zI_x hS2 h
  have g3 : gK S2 s0 = 19 := by rw [hS2]; exact g1
  exact x_vreturn (pc := 44) hC hE dX13_refuses_44 (so h) (Nat.le_of_ble_eq_true rfl) (Nat.le_of_ble_eq_true rfl)
def f_X13_refuses (S : mS) (a0 : Nat) (a1 : Int32) (a2 : Int32) (a3 : Int32) (a4 : Int32) : Option (Rs Unit) :=
  gd (gK S a0 = 19) (lt9 (gR S a0 7) fun r2 => gd (gK S r2 = 31) (gd (¬ ((0 : Int32) < 0 ∨ gZ S r2 ≤ ((0 : Int32)).toNatClampNeg)) (gd ((a1.toUInt32.toUInt16.toUInt32.toInt32 = a1 ∧ 0 ≤ a1) ∧ a1 ≤ 65535) (zI (sI S r2 ((0 : Int32)).toNatClampNeg a1) fun S5 => lt9 (gR S5 a0 6) fun r9 => gd (gK S5 r9 = 30) (gd (¬ ((0 : Int32) < 0 ∨ gZ S5 r9 ≤ ((0 : Int32)).toNatClampNeg)) (zI (sI S5 r9 ((0 : Int32)).toNatClampNeg a2) fun S12 => lt9 (gR S12 a0 7) fun r16 => gd (gK S12 r16 = 31) (gd (¬ ((1 : Int32) < 0 ∨ gZ S12 r16 ≤ ((1 : Int32)).toNatClampNeg)) (gd ((a3.toUInt32.toUInt16.toUInt32.toInt32 = a3 ∧ 0 ≤ a3) ∧ a3 ≤ 65535) (zI (sI S12 r16 ((1 : Int32)).toNatClampNeg a3) fun S19 => lt9 (gR S19 a0 6) fun r25 => gd (gK S19 r25 = 30) (gd (¬ ((1 : Int32) < 0 ∨ gZ S19 r25 ≤ ((1 : Int32)).toNatClampNeg)) (zI (sI S19 r25 ((1 : Int32)).toNatClampNeg a4) fun S28 => if a3 = (45 : Int32) then (f_X13_refuses_41  S28 a0 (1 : Int32)) else (f_X13_refuses_41  S28 a0 (2 : Int32)))))))))))))
set_option maxHeartbeats 2000000 in
set_option maxRecDepth 100000 in
theorem t_X13_refuses {l : Launch} (hls : l.stackTraces = false) {C : cT} (hC : CX C cX13_refuses 5 yX13_refuses rm_X13_refuses) (hl : C.2.1 = l) {S0 : mS} (hE : CE C S0 (Option.none : Option Jvm.ClassFile.FieldType) []) {o : Rs Unit} {S : mS} {a0 : Nat} {a1 : Int32} {a2 : Int32} {a3 : Int32} {a4 : Int32} (h : f_X13_refuses S a0 a1 a2 a3 a4 = some o) : XX C 5 (QQ C (fun _ : Unit => none) S0 o) 0 0 S 0 [(0, .ref a0), (1, .int a1), (2, .int a2), (3, .int a3), (4, .int a4)] [] := by
  unfold f_X13_refuses at h
  refine x_aload_n (pc := 0) hC 0 dX13_refuses_0 rfl rfl ?_
  obtain ⟨g1, h⟩ := gd_some h
  refine x_getRv (pc := 1) (k := 7) hC fc_19 fl_RX13_36 dX13_refuses_1 rfl g1 (fun r2 hr2 => ?_)
  replace h := lt_x hr2 h
  refine x_iconst (pc := 4) (v := (0 : Int32)) hC dX13_refuses_4 (by decide) ?_
  refine x_iload_n (pc := 5) hC 1 dX13_refuses_5 rfl rfl ?_
  obtain ⟨g4, h⟩ := gd_some h
  obtain ⟨g3, h⟩ := gd_some h
  obtain ⟨g6, h⟩ := gd_some h
  refine x_castv (pc := 6) hC dX13_refuses_6 (nf_C g6).1 g4 g3 (fun S5 hS5 => ?_)
  replace h := zI_x hS5 h
  have g7 : gK S5 a0 = 19 := by rw [hS5]; exact g1
  have g8 : gK S5 r2 = 31 := by rw [hS5]; exact g4
  refine x_aload_n (pc := 7) hC 0 dX13_refuses_7 rfl rfl ?_
  refine x_getRv (pc := 8) (k := 6) hC fc_19 fl_RX13_33 dX13_refuses_8 rfl g7 (fun r9 hr9 => ?_)
  replace h := lt_x hr9 h
  refine x_iconst (pc := 11) (v := (0 : Int32)) hC dX13_refuses_11 (by decide) ?_
  refine x_iload_n (pc := 12) hC 2 dX13_refuses_12 rfl rfl ?_
  obtain ⟨g11, h⟩ := gd_some h
  obtain ⟨g10, h⟩ := gd_some h
  refine x_iastv (pc := 13) hC dX13_refuses_13 g11 g10 (fun S12 hS12 => ?_)
  replace h := zI_x hS12 h
  have g13 : gK S12 a0 = 19 := by rw [hS12]; exact g7
  have g14 : gK S12 r2 = 31 := by rw [hS12]; exact g8
  have g15 : gK S12 r9 = 30 := by rw [hS12]; exact g11
  refine x_aload_n (pc := 14) hC 0 dX13_refuses_14 rfl rfl ?_
  refine x_getRv (pc := 15) (k := 7) hC fc_19 fl_RX13_36 dX13_refuses_15 rfl g13 (fun r16 hr16 => ?_)
  replace h := lt_x hr16 h
  refine x_iconst (pc := 18) (v := (1 : Int32)) hC dX13_refuses_18 (by decide) ?_
  refine x_iload_n (pc := 19) hC 3 dX13_refuses_19 rfl rfl ?_
  obtain ⟨g18, h⟩ := gd_some h
  obtain ⟨g17, h⟩ := gd_some h
  obtain ⟨g20, h⟩ := gd_some h
  refine x_castv (pc := 20) hC dX13_refuses_20 (nf_C g20).1 g18 g17 (fun S19 hS19 => ?_)
  replace h := zI_x hS19 h
  have g21 : gK S19 a0 = 19 := by rw [hS19]; exact g13
  have g22 : gK S19 r2 = 31 := by rw [hS19]; exact g14
  have g23 : gK S19 r9 = 30 := by rw [hS19]; exact g15
  have g24 : gK S19 r16 = 31 := by rw [hS19]; exact g18
  refine x_aload_n (pc := 21) hC 0 dX13_refuses_21 rfl rfl ?_
  refine x_getRv (pc := 22) (k := 6) hC fc_19 fl_RX13_33 dX13_refuses_22 rfl g21 (fun r25 hr25 => ?_)
  replace h := lt_x hr25 h
  refine x_iconst (pc := 25) (v := (1 : Int32)) hC dX13_refuses_25 (by decide) ?_
  refine x_iload (pc := 26) hC 4 dX13_refuses_26 rfl ?_
  obtain ⟨g27, h⟩ := gd_some h
  obtain ⟨g26, h⟩ := gd_some h
  refine x_iastv (pc := 28) hC dX13_refuses_28 g27 g26 (fun S28 hS28 => ?_)
  replace h := zI_x hS28 h
  have g29 : gK S28 a0 = 19 := by rw [hS28]; exact g21
  have g30 : gK S28 r2 = 31 := by rw [hS28]; exact g22
  have g31 : gK S28 r9 = 30 := by rw [hS28]; exact g23
  have g32 : gK S28 r16 = 31 := by rw [hS28]; exact g24
  have g33 : gK S28 r25 = 30 := by rw [hS28]; exact g27
  refine x_aload_n (pc := 29) hC 0 dX13_refuses_29 rfl rfl ?_
  refine x_iload_n (pc := 30) hC 3 dX13_refuses_30 rfl rfl ?_
  refine x_bipush (pc := 31) (v := (45 : Int32)) hC dX13_refuses_31 (by decide) ?_
  refine x_icmp_ne (pc := 33) hC 40 dX13_refuses_33 (by decide) (fun c34 => ?_) (fun c34 => ?_)
  · rw [if_neg c34] at h
    refine x_iconst (pc := 40) (v := (2 : Int32)) hC dX13_refuses_40 (by decide) ?_
    refine x_pick [] rfl ?_
    exact t_X13_refuses_41 hls hC hl hE h
  · rw [if_pos c34] at h
    refine x_iconst (pc := 36) (v := (1 : Int32)) hC dX13_refuses_36 (by decide) ?_
    refine x_goto (pc := 37) hC 41 dX13_refuses_37 (by decide) ?_
    refine x_pick [] rfl ?_
    exact t_X13_refuses_41 hls hC hl hE h
theorem c_X13_refuses (l : Launch) (hls : l.stackTraces = false) {S : mS} {a0 : Nat} {a1 : Int32} {a2 : Int32} {a3 : Int32} {a4 : Int32} {o : Rs Unit} (h : f_X13_refuses S a0 a1 a2 a3 a4 = some o) : CT (fun _ : Unit => none) l yX13_refuses (.code yX13_refuses cX13_refuses 5 (Option.none : Option Jvm.ClassFile.FieldType)) rm_X13_refuses S [.ref a0, .int a1, .int a2, .int a3, .int a4] o := ct_of (by decide +kernel) hls (Nat.le_of_ble_eq_true rfl) (fun C hl hC hE => t_X13_refuses hls hC hl hE h)
abbrev rm_X13_perform : Room := { frames := 13, cells := 17, slots := 108, locals := 251 }
def f_X13_perform_265 (rc95 : mS → Nat → Nat → Int32 → Int32 → Int32 → Option (Rs Int32)) (S : mS) (a0 : Nat) (a2 : Nat) (a3 : Int32) (a4 : Int32) (a5 : Int32) : Option (Rs Int32) :=
  lt9 (a5 + Int32.ofInt (1)) fun x1 => rc95 S a0 a2 a3 a4 x1
set_option maxHeartbeats 2000000 in
set_option maxRecDepth 100000 in
theorem t_X13_perform_265 {l : Launch} (hls : l.stackTraces = false) {C : cT} (hC : CX C cX13_perform 10 yX13_perform rm_X13_perform) (hl : C.2.1 = l) {S0 : mS} (hE : CE C S0 (Option.some Jvm.ClassFile.FieldType.int) []) {o : Rs Int32} {rc95 : mS → Nat → Nat → Int32 → Int32 → Int32 → Option (Rs Int32)} (hrc95 : ∀ (S : mS) (a0 : Nat) (a2 : Nat) (a3 : Int32) (a4 : Int32) (a5 : Int32), rc95 S a0 a2 a3 a4 a5 = some o → XX C 10 (QQ C (fun r : Int32 => some (.int r)) S0 o) (17) (108) S 95 [(0, .ref a0), (2, .ref a2), (3, .int a3), (4, .int a4), (5, .int a5)] []) {S : mS} {a0 : Nat} {a2 : Nat} {a3 : Int32} {a4 : Int32} {a5 : Int32} (h : f_X13_perform_265 rc95 S a0 a2 a3 a4 a5 = some o) : XX C 10 (QQ C (fun r : Int32 => some (.int r)) S0 o) (17) (108) S 265 [(0, .ref a0), (2, .ref a2), (3, .int a3), (4, .int a4), (5, .int a5)] [] := by
  unfold f_X13_perform_265 at h
  obtain ⟨x1, hx1⟩ : ∃ z, z = (a5 + Int32.ofInt (1)) := ⟨_, rfl⟩
  replace h := lt_x hx1 h
  refine x_iinc (pc := 265) hC 4 dX13_perform_265 rfl hx1.symm (by decide) (by decide) rfl ?_
  refine x_goto (pc := 268) hC 95 dX13_perform_268 (by decide) ?_
  refine x_pick [1, 2, 3, 4, 0] rfl ?_
  exact hrc95 _ _ _ _ _ _ h
def f_X13_perform_95  : Nat → mS → Nat → Nat → Int32 → Int32 → Int32 → Option (Rs Int32)
  | 0, _, _, _, _, _, _ => none
  | k + 1, S, a0, a2, a3, a4, a5 => gd (gK S a0 = 19) (lt9 (gR S a0 20) fun r2 => gd (gK S r2 = 1) (bd (f_J0_length_8abf5 S r2) fun x4 S5 => if x4 ≤ a5 then (gd (gK S5 a0 = 19) (zR (sR S5 a0 20 (KB + 0)) fun S9 => bd (f_X13_logs S9 a0) fun _ S12 => some (.inl a4, S12))) else (gd (gK S5 a0 = 19) (lt9 (gR S5 a0 20) fun r16 => gd (gK S5 r16 = 1) (bd (f_J0_charAt_5068e S5 r16 a5) fun x18 S19 => bd (f_X13_isBetween S19 x18 (65 : Int32) (68 : Int32)) fun x22 S23 => if x22 = 0 then (none) else (lt9 (x18 - (65 : Int32)) fun x26 => f_X13_perform_265 (f_X13_perform_95 k) S23 a0 a2 x26 a4 a5))))))
set_option maxHeartbeats 2000000 in
set_option maxRecDepth 100000 in
theorem t_X13_perform_95 {l : Launch} (hls : l.stackTraces = false) {C : cT} (hC : CX C cX13_perform 10 yX13_perform rm_X13_perform) (hl : C.2.1 = l) {S0 : mS} (hE : CE C S0 (Option.some Jvm.ClassFile.FieldType.int) []) {o : Rs Int32} : ∀ (k : Nat) (S : mS) (a0 : Nat) (a2 : Nat) (a3 : Int32) (a4 : Int32) (a5 : Int32), f_X13_perform_95  k S a0 a2 a3 a4 a5 = some o → XX C 10 (QQ C (fun r : Int32 => some (.int r)) S0 o) (17) (108) S 95 [(0, .ref a0), (2, .ref a2), (3, .int a3), (4, .int a4), (5, .int a5)] [] := by
  intro k
  induction k with
  | zero => intro S a0 a2 a3 a4 a5 h; cases h
  | succ k ih =>
    intro S a0 a2 a3 a4 a5 h
    unfold f_X13_perform_95 at h
    refine x_iload (pc := 95) hC 4 dX13_perform_95 rfl ?_
    refine x_aload_n (pc := 97) hC 0 dX13_perform_97 rfl rfl ?_
    obtain ⟨g1, h⟩ := gd_some h
    refine x_getRv (pc := 98) (k := 20) hC fc_19 fl_RX13_42 dX13_perform_98 rfl g1 (fun r2 hr2 => ?_)
    replace h := lt_x hr2 h
    obtain ⟨g3, h⟩ := gd_some h
    obtain ⟨o6, ho6, h⟩ := bd_some h
    refine x_callV (pc := 101) (As := []) (rest := [.int a5]) hC hl (c_J0_length_8abf5 l hls ho6) lk_RX13_356 fc_1 g3 dX13_perform_101 rfl rfl (Nat.le_of_ble_eq_true rfl) ⟨Nat.le_of_ble_eq_true rfl, Nat.le_of_ble_eq_true rfl⟩ ⟨(Nat.le_of_ble_eq_true rfl), (Nat.le_of_ble_eq_true rfl)⟩ ?_
    rcases o6 with ⟨x4 | E7, S5⟩
    · refine xk_i ?_
      replace h := bk_l h
      refine x_icmp_ge (pc := 104) hC 271 dX13_perform_104 (by decide) (fun c28 => ?_) (fun c28 => ?_)
      · rw [if_pos c28] at h
        refine x_aload_n (pc := 271) hC 0 dX13_perform_271 rfl rfl ?_
        refine x_ldcK (pc := 272) (i := 0) (tx := "") hC (by decide) dX13_perform_272 ?_
        obtain ⟨g8, h⟩ := gd_some h
        refine x_putRv (pc := 274) (k := 20) hC fc_19 fl_RX13_42 dX13_perform_274 rfl rfl (Or.inl ⟨_, rfl⟩) g8 (fun S9 hS9 => ?_)
        replace h := zR_x hS9 h
        have g10 : gK S9 a0 = 19 := by rw [hS9]; exact g8
        refine x_aload_n (pc := 277) hC 0 dX13_perform_277 rfl rfl ?_
        obtain ⟨o13, ho13, h⟩ := bd_some h
        refine x_callV (pc := 278) (As := []) (rest := []) hC hl (c_X13_logs l hls ho13) lk_RX13_81 fc_19 g10 dX13_perform_278 rfl rfl (Nat.le_of_ble_eq_true rfl) ⟨Nat.le_of_ble_eq_true rfl, Nat.le_of_ble_eq_true rfl⟩ ⟨(Nat.le_of_ble_eq_true rfl), (Nat.le_of_ble_eq_true rfl)⟩ ?_
        rcases o13 with ⟨_ | E14, S12⟩
        · refine xk_v ?_
          replace h := bk_l h
          refine x_iload (pc := 281) hC 3 dX13_perform_281 rfl ?_
          exact x_ireturn (pc := 283) hC hE dX13_perform_283 (so h) (Nat.le_of_ble_eq_true rfl) (Nat.le_of_ble_eq_true rfl)
        · exact xk_r (xt_out hC hE (bk_r h) (Nat.le_of_ble_eq_true rfl) (Nat.le_of_ble_eq_true rfl))
      · rw [if_neg c28] at h
        refine x_aload_n (pc := 107) hC 0 dX13_perform_107 rfl rfl ?_
        obtain ⟨g15, h⟩ := gd_some h
        refine x_getRv (pc := 108) (k := 20) hC fc_19 fl_RX13_42 dX13_perform_108 rfl g15 (fun r16 hr16 => ?_)
        replace h := lt_x hr16 h
        refine x_iload (pc := 111) hC 4 dX13_perform_111 rfl ?_
        obtain ⟨g17, h⟩ := gd_some h
        obtain ⟨o20, ho20, h⟩ := bd_some h
        refine x_callV (pc := 113) (As := [.int a5]) (rest := []) hC hl (c_J0_charAt_5068e l hls ho20) lk_RX13_375 fc_1 g17 dX13_perform_113 rfl rfl (Nat.le_of_ble_eq_true rfl) ⟨Nat.le_of_ble_eq_true rfl, Nat.le_of_ble_eq_true rfl⟩ ⟨(Nat.le_of_ble_eq_true rfl), (Nat.le_of_ble_eq_true rfl)⟩ ?_
        rcases o20 with ⟨x18 | E21, S19⟩
        · refine xk_i ?_
          replace h := bk_l h
          refine x_istore (pc := 116) hC dX13_perform_116 (by decide) (by decide) rfl ?_
          refine x_iload (pc := 118) hC 0 dX13_perform_118 rfl ?_
          refine x_bipush (pc := 120) (v := (65 : Int32)) hC dX13_perform_120 (by decide) ?_
          refine x_bipush (pc := 122) (v := (68 : Int32)) hC dX13_perform_122 (by decide) ?_
          obtain ⟨o24, ho24, h⟩ := bd_some h
          refine x_callS (pc := 124) (As := [.int x18, .int (65 : Int32), .int (68 : Int32)]) (rest := []) hC hl (c_X13_isBetween l hls ho24) lk_RX13_50 dX13_perform_124 rfl rfl (Nat.le_of_ble_eq_true rfl) ⟨Nat.le_of_ble_eq_true rfl, Nat.le_of_ble_eq_true rfl⟩ ⟨(Nat.le_of_ble_eq_true rfl), (Nat.le_of_ble_eq_true rfl)⟩ ?_
          rcases o24 with ⟨x22 | E25, S23⟩
          · refine xk_i ?_
            replace h := bk_l h
            refine x_if_eq (pc := 127) hC 139 dX13_perform_127 (by decide) (fun c27 => ?_) (fun c27 => ?_)
            · rw [if_pos c27] at h
              cases h
            · rw [if_neg c27] at h
              refine x_iload (pc := 130) hC 0 dX13_perform_130 rfl ?_
              refine x_bipush (pc := 132) (v := (65 : Int32)) hC dX13_perform_132 (by decide) ?_
              refine x_isubv (pc := 134) hC dX13_perform_134 (fun x26 hx26 => ?_)
              replace h := lt_x hx26 h
              refine x_istore_n (pc := 135) hC dX13_perform_135 rfl (by decide) (by decide) rfl ?_
              refine x_goto (pc := 136) hC 265 dX13_perform_136 (by decide) ?_
              refine x_pick [2, 3, 0, 4, 5] rfl ?_
              exact t_X13_perform_265 hls hC hl hE (fun z0 z1 z2 z3 z4 z5 hz => ih z0 z1 z2 z3 z4 z5 hz) h
          · exact xk_r (xt_out hC hE (bk_r h) (Nat.le_of_ble_eq_true rfl) (Nat.le_of_ble_eq_true rfl))
        · exact xk_r (xt_out hC hE (bk_r h) (Nat.le_of_ble_eq_true rfl) (Nat.le_of_ble_eq_true rfl))
    · exact xk_r (xt_out hC hE (bk_r h) (Nat.le_of_ble_eq_true rfl) (Nat.le_of_ble_eq_true rfl))
def f_X13_perform_16  (S : mS) (a0 : Nat) (a1 : Int32) (s0 : Nat) (s1 : Int32) : Option (Rs Int32) :=
  gd (gK S s0 = 19) (bd (f_X13_isWrong S s0 s1) fun x2 S3 => if x2 = 0 then (gd (gN S3 + 1 < KB) (zW (sW S3 37 4) fun S7 => lt9 (gN S3 + 1) fun r8 => gd (gK S7 a0 = 19) (lt9 (gR S7 a0 2) fun r11 => gd (gK S7 r11 = 37) (gd (¬ ((0 : Int32) < 0 ∨ gZ S7 r11 ≤ ((0 : Int32)).toNatClampNeg)) (lt9 (gR S7 r11 ((0 : Int32)).toNatClampNeg) fun r15 => gd (gK S7 r15 = 17) (bd (f_X11_like S7 r15) fun r17 S18 => gd (gK S18 r8 = 37) (gd (¬ ((0 : Int32) < 0 ∨ gZ S18 r8 ≤ ((0 : Int32)).toNatClampNeg)) (gd (gK S18 r17 = 17) (zR (sR S18 r8 ((0 : Int32)).toNatClampNeg r17) fun S23 => gd (gK S23 a0 = 19) (lt9 (gR S23 a0 2) fun r28 => gd (gK S23 r28 = 37) (gd (¬ ((1 : Int32) < 0 ∨ gZ S23 r28 ≤ ((1 : Int32)).toNatClampNeg)) (lt9 (gR S23 r28 ((1 : Int32)).toNatClampNeg) fun r32 => gd (gK S23 r32 = 17) (bd (f_X11_like S23 r32) fun r34 S35 => gd (gK S35 r8 = 37) (gd (¬ ((1 : Int32) < 0 ∨ gZ S35 r8 ≤ ((1 : Int32)).toNatClampNeg)) (gd (gK S35 r34 = 17) (zR (sR S35 r8 ((1 : Int32)).toNatClampNeg r34) fun S40 => gd (gK S40 a0 = 19) (lt9 (gR S40 a0 2) fun r45 => gd (gK S40 r45 = 37) (gd (¬ ((2 : Int32) < 0 ∨ gZ S40 r45 ≤ ((2 : Int32)).toNatClampNeg)) (lt9 (gR S40 r45 ((2 : Int32)).toNatClampNeg) fun r49 => gd (gK S40 r49 = 17) (bd (f_X11_like S40 r49) fun r51 S52 => gd (gK S52 r8 = 37) (gd (¬ ((2 : Int32) < 0 ∨ gZ S52 r8 ≤ ((2 : Int32)).toNatClampNeg)) (gd (gK S52 r51 = 17) (zR (sR S52 r8 ((2 : Int32)).toNatClampNeg r51) fun S57 => gd (gK S57 a0 = 19) (lt9 (gR S57 a0 2) fun r62 => gd (gK S57 r62 = 37) (gd (¬ ((3 : Int32) < 0 ∨ gZ S57 r62 ≤ ((3 : Int32)).toNatClampNeg)) (lt9 (gR S57 r62 ((3 : Int32)).toNatClampNeg) fun r66 => gd (gK S57 r66 = 17) (bd (f_X11_like S57 r66) fun r68 S69 => gd (gK S69 r8 = 37) (gd (¬ ((3 : Int32) < 0 ∨ gZ S69 r8 ≤ ((3 : Int32)).toNatClampNeg)) (gd (gK S69 r68 = 17) (zR (sR S69 r8 ((3 : Int32)).toNatClampNeg r68) fun S74 => f_X13_perform_95  16 S74 a0 r8 (0 : Int32) (0 : Int32) (0 : Int32))))))))))))))))))))))))))))))) else (gd (gK S3 a0 = 19) (bd (f_X13_refuses S3 a0 (116 : Int32) a1 (45 : Int32) (0 : Int32)) fun _ S80 => some (.inl (0 : Int32), S80))))
set_option maxHeartbeats 2000000 in
set_option maxRecDepth 100000 in
theorem t_X13_perform_16 {l : Launch} (hls : l.stackTraces = false) {C : cT} (hC : CX C cX13_perform 10 yX13_perform rm_X13_perform) (hl : C.2.1 = l) {S0 : mS} (hE : CE C S0 (Option.some Jvm.ClassFile.FieldType.int) []) {o : Rs Int32} {S : mS} {a0 : Nat} {a1 : Int32} {s0 : Nat} {s1 : Int32} (h : f_X13_perform_16  S a0 a1 s0 s1 = some o) : XX C 10 (QQ C (fun r : Int32 => some (.int r)) S0 o) (0) (0) S 16 [(0, .ref a0), (1, .int a1)] [.int s1, .ref s0] := by
  unfold f_X13_perform_16 at h
  obtain ⟨g1, h⟩ := gd_some h
  obtain ⟨o4, ho4, h⟩ := bd_some h
  refine x_callV (pc := 16) (As := [.int s1]) (rest := []) hC hl (c_X13_isWrong l hls ho4) lk_RX13_68 fc_19 g1 dX13_perform_16 rfl rfl (Nat.le_of_ble_eq_true rfl) ⟨Nat.le_of_ble_eq_true rfl, Nat.le_of_ble_eq_true rfl⟩ ⟨(Nat.le_of_ble_eq_true rfl), (Nat.le_of_ble_eq_true rfl)⟩ ?_
  rcases o4 with ⟨x2 | E5, S3⟩
  · refine xk_i ?_
    replace h := bk_l h
    refine x_if_eq (pc := 19) hC 34 dX13_perform_19 (by decide) (fun c83 => ?_) (fun c83 => ?_)
    · rw [if_pos c83] at h
      refine x_iconst (pc := 34) (v := (4 : Int32)) hC dX13_perform_34 (by decide) ?_
      obtain ⟨g6, h⟩ := gd_some h
      refine x_newrv (pc := 35) (z := 4) (kd := 37) (t0 := 7) hC wm_1566 wm_1567 (by decide) (fun _ => rfl) dX13_perform_35 (by decide) (by decide) (Nat.le_of_ble_eq_true rfl) g6 (Nat.le_of_ble_eq_true rfl) (Nat.le_of_ble_eq_true rfl) (fun S7 r8 hS7 hr8 => ?_)
      replace h := zW_x hS7 h
      replace h := lt_x hr8 h
      have g9 : gK S7 r8 = 37 := by rw [hr8, hS7]; exact sW_K
      refine x_dup (pc := 38) hC dX13_perform_38 rfl ?_
      refine x_iconst (pc := 39) (v := (0 : Int32)) hC dX13_perform_39 (by decide) ?_
      refine x_aload_n (pc := 40) hC 0 dX13_perform_40 rfl rfl ?_
      obtain ⟨g10, h⟩ := gd_some h
      refine x_getRv (pc := 41) (k := 2) hC fc_19 fl_RX13_19 dX13_perform_41 rfl g10 (fun r11 hr11 => ?_)
      replace h := lt_x hr11 h
      refine x_iconst (pc := 44) (v := (0 : Int32)) hC dX13_perform_44 (by decide) ?_
      obtain ⟨g14, h⟩ := gd_some h
      obtain ⟨g13, h⟩ := gd_some h
      refine x_raldv (pc := 45) (t0 := 7) hC dX13_perform_45 g14 (by decide) (fun _ => rfl) g13 (fun r15 hr15 => ?_)
      replace h := lt_x hr15 h
      obtain ⟨g16, h⟩ := gd_some h
      obtain ⟨o19, ho19, h⟩ := bd_some h
      refine x_callV (pc := 46) (As := []) (rest := [.int (0 : Int32), .ref r8, .ref r8]) hC hl (c_X11_like l hls ho19) lk_RX13_399 fc_17 g16 dX13_perform_46 rfl rfl (Nat.le_of_ble_eq_true rfl) ⟨Nat.le_of_ble_eq_true rfl, Nat.le_of_ble_eq_true rfl⟩ ⟨(Nat.le_of_ble_eq_true rfl), (Nat.le_of_ble_eq_true rfl)⟩ ?_
      rcases o19 with ⟨r17 | E20, S18⟩
      · refine xk_a ?_
        replace h := bk_l h
        obtain ⟨g22, h⟩ := gd_some h
        obtain ⟨g21, h⟩ := gd_some h
        obtain ⟨g24, h⟩ := gd_some h
        refine x_rastv (pc := 49) (t0 := 7) hC fc_17 dX13_perform_49 g22 (by decide) (fun _ => rfl) (Or.inl rfl) g24 g21 (fun S23 hS23 => ?_)
        replace h := zR_x hS23 h
        have g25 : gK S23 r8 = 37 := by rw [hS23]; exact g22
        have g26 : gK S23 r17 = 17 := by rw [hS23]; exact g24
        refine x_dup (pc := 50) hC dX13_perform_50 rfl ?_
        refine x_iconst (pc := 51) (v := (1 : Int32)) hC dX13_perform_51 (by decide) ?_
        refine x_aload_n (pc := 52) hC 0 dX13_perform_52 rfl rfl ?_
        obtain ⟨g27, h⟩ := gd_some h
        refine x_getRv (pc := 53) (k := 2) hC fc_19 fl_RX13_19 dX13_perform_53 rfl g27 (fun r28 hr28 => ?_)
        replace h := lt_x hr28 h
        refine x_iconst (pc := 56) (v := (1 : Int32)) hC dX13_perform_56 (by decide) ?_
        obtain ⟨g31, h⟩ := gd_some h
        obtain ⟨g30, h⟩ := gd_some h
        refine x_raldv (pc := 57) (t0 := 7) hC dX13_perform_57 g31 (by decide) (fun _ => rfl) g30 (fun r32 hr32 => ?_)
        replace h := lt_x hr32 h
        obtain ⟨g33, h⟩ := gd_some h
        obtain ⟨o36, ho36, h⟩ := bd_some h
        refine x_callV (pc := 58) (As := []) (rest := [.int (1 : Int32), .ref r8, .ref r8]) hC hl (c_X11_like l hls ho36) lk_RX13_399 fc_17 g33 dX13_perform_58 rfl rfl (Nat.le_of_ble_eq_true rfl) ⟨Nat.le_of_ble_eq_true rfl, Nat.le_of_ble_eq_true rfl⟩ ⟨(Nat.le_of_ble_eq_true rfl), (Nat.le_of_ble_eq_true rfl)⟩ ?_
        rcases o36 with ⟨r34 | E37, S35⟩
        · refine xk_a ?_
          replace h := bk_l h
          obtain ⟨g39, h⟩ := gd_some h
          obtain ⟨g38, h⟩ := gd_some h
          obtain ⟨g41, h⟩ := gd_some h
          refine x_rastv (pc := 61) (t0 := 7) hC fc_17 dX13_perform_61 g39 (by decide) (fun _ => rfl) (Or.inl rfl) g41 g38 (fun S40 hS40 => ?_)
          replace h := zR_x hS40 h
          have g42 : gK S40 r8 = 37 := by rw [hS40]; exact g39
          have g43 : gK S40 r34 = 17 := by rw [hS40]; exact g41
          refine x_dup (pc := 62) hC dX13_perform_62 rfl ?_
          refine x_iconst (pc := 63) (v := (2 : Int32)) hC dX13_perform_63 (by decide) ?_
          refine x_aload_n (pc := 64) hC 0 dX13_perform_64 rfl rfl ?_
          obtain ⟨g44, h⟩ := gd_some h
          refine x_getRv (pc := 65) (k := 2) hC fc_19 fl_RX13_19 dX13_perform_65 rfl g44 (fun r45 hr45 => ?_)
          replace h := lt_x hr45 h
          refine x_iconst (pc := 68) (v := (2 : Int32)) hC dX13_perform_68 (by decide) ?_
          obtain ⟨g48, h⟩ := gd_some h
          obtain ⟨g47, h⟩ := gd_some h
          refine x_raldv (pc := 69) (t0 := 7) hC dX13_perform_69 g48 (by decide) (fun _ => rfl) g47 (fun r49 hr49 => ?_)
          replace h := lt_x hr49 h
          obtain ⟨g50, h⟩ := gd_some h
          obtain ⟨o53, ho53, h⟩ := bd_some h
          refine x_callV (pc := 70) (As := []) (rest := [.int (2 : Int32), .ref r8, .ref r8]) hC hl (c_X11_like l hls ho53) lk_RX13_399 fc_17 g50 dX13_perform_70 rfl rfl (Nat.le_of_ble_eq_true rfl) ⟨Nat.le_of_ble_eq_true rfl, Nat.le_of_ble_eq_true rfl⟩ ⟨(Nat.le_of_ble_eq_true rfl), (Nat.le_of_ble_eq_true rfl)⟩ ?_
          rcases o53 with ⟨r51 | E54, S52⟩
          · refine xk_a ?_
            replace h := bk_l h
            obtain ⟨g56, h⟩ := gd_some h
            obtain ⟨g55, h⟩ := gd_some h
            obtain ⟨g58, h⟩ := gd_some h
            refine x_rastv (pc := 73) (t0 := 7) hC fc_17 dX13_perform_73 g56 (by decide) (fun _ => rfl) (Or.inl rfl) g58 g55 (fun S57 hS57 => ?_)
            replace h := zR_x hS57 h
            have g59 : gK S57 r8 = 37 := by rw [hS57]; exact g56
            have g60 : gK S57 r51 = 17 := by rw [hS57]; exact g58
            refine x_dup (pc := 74) hC dX13_perform_74 rfl ?_
            refine x_iconst (pc := 75) (v := (3 : Int32)) hC dX13_perform_75 (by decide) ?_
            refine x_aload_n (pc := 76) hC 0 dX13_perform_76 rfl rfl ?_
            obtain ⟨g61, h⟩ := gd_some h
            refine x_getRv (pc := 77) (k := 2) hC fc_19 fl_RX13_19 dX13_perform_77 rfl g61 (fun r62 hr62 => ?_)
            replace h := lt_x hr62 h
            refine x_iconst (pc := 80) (v := (3 : Int32)) hC dX13_perform_80 (by decide) ?_
            obtain ⟨g65, h⟩ := gd_some h
            obtain ⟨g64, h⟩ := gd_some h
            refine x_raldv (pc := 81) (t0 := 7) hC dX13_perform_81 g65 (by decide) (fun _ => rfl) g64 (fun r66 hr66 => ?_)
            replace h := lt_x hr66 h
            obtain ⟨g67, h⟩ := gd_some h
            obtain ⟨o70, ho70, h⟩ := bd_some h
            refine x_callV (pc := 82) (As := []) (rest := [.int (3 : Int32), .ref r8, .ref r8]) hC hl (c_X11_like l hls ho70) lk_RX13_399 fc_17 g67 dX13_perform_82 rfl rfl (Nat.le_of_ble_eq_true rfl) ⟨Nat.le_of_ble_eq_true rfl, Nat.le_of_ble_eq_true rfl⟩ ⟨(Nat.le_of_ble_eq_true rfl), (Nat.le_of_ble_eq_true rfl)⟩ ?_
            rcases o70 with ⟨r68 | E71, S69⟩
            · refine xk_a ?_
              replace h := bk_l h
              obtain ⟨g73, h⟩ := gd_some h
              obtain ⟨g72, h⟩ := gd_some h
              obtain ⟨g75, h⟩ := gd_some h
              refine x_rastv (pc := 85) (t0 := 7) hC fc_17 dX13_perform_85 g73 (by decide) (fun _ => rfl) (Or.inl rfl) g75 g72 (fun S74 hS74 => ?_)
              replace h := zR_x hS74 h
              have g76 : gK S74 r8 = 37 := by rw [hS74]; exact g73
              have g77 : gK S74 r68 = 17 := by rw [hS74]; exact g75
              refine x_astore_n (pc := 86) hC dX13_perform_86 rfl (by decide) (by decide) rfl ?_
              refine x_iconst (pc := 87) (v := (0 : Int32)) hC dX13_perform_87 (by decide) ?_
              refine x_istore_n (pc := 88) hC dX13_perform_88 rfl (by decide) (by decide) rfl ?_
              refine x_iconst (pc := 89) (v := (0 : Int32)) hC dX13_perform_89 (by decide) ?_
              refine x_istore (pc := 90) hC dX13_perform_90 (by decide) (by decide) rfl ?_
              refine x_iconst (pc := 92) (v := (0 : Int32)) hC dX13_perform_92 (by decide) ?_
              refine x_istore (pc := 93) hC dX13_perform_93 (by decide) (by decide) rfl ?_
              refine x_pick [4, 3, 2, 1, 0] rfl ?_
              exact t_X13_perform_95 hls hC hl hE 16 _ _ _ _ _ _ h
            · exact xk_r (xt_out hC hE (bk_r h) (Nat.le_of_ble_eq_true rfl) (Nat.le_of_ble_eq_true rfl))
          · exact xk_r (xt_out hC hE (bk_r h) (Nat.le_of_ble_eq_true rfl) (Nat.le_of_ble_eq_true rfl))
        · exact xk_r (xt_out hC hE (bk_r h) (Nat.le_of_ble_eq_true rfl) (Nat.le_of_ble_eq_true rfl))
      · exact xk_r (xt_out hC hE (bk_r h) (Nat.le_of_ble_eq_true rfl) (Nat.le_of_ble_eq_true rfl))
    · rw [if_neg c83] at h
      refine x_aload_n (pc := 22) hC 0 dX13_perform_22 rfl rfl ?_
      refine x_bipush (pc := 23) (v := (116 : Int32)) hC dX13_perform_23 (by decide) ?_
      refine x_iload_n (pc := 25) hC 1 dX13_perform_25 rfl rfl ?_
      refine x_bipush (pc := 26) (v := (45 : Int32)) hC dX13_perform_26 (by decide) ?_
      refine x_iconst (pc := 28) (v := (0 : Int32)) hC dX13_perform_28 (by decide) ?_
      obtain ⟨g78, h⟩ := gd_some h
      obtain ⟨o81, ho81, h⟩ := bd_some h
      refine x_callV (pc := 29) (As := [.int (116 : Int32), .int a1, .int (45 : Int32), .int (0 : Int32)]) (rest := []) hC hl (c_X13_refuses l hls ho81) lk_RX13_395 fc_19 g78 dX13_perform_29 rfl rfl (Nat.le_of_ble_eq_true rfl) ⟨Nat.le_of_ble_eq_true rfl, Nat.le_of_ble_eq_true rfl⟩ ⟨(Nat.le_of_ble_eq_true rfl), (Nat.le_of_ble_eq_true rfl)⟩ ?_
      rcases o81 with ⟨_ | E82, S80⟩
      · refine xk_v ?_
        replace h := bk_l h
        refine x_iconst (pc := 32) (v := (0 : Int32)) hC dX13_perform_32 (by decide) ?_
        exact x_ireturn (pc := 33) hC hE dX13_perform_33 (so h) (Nat.le_of_ble_eq_true rfl) (Nat.le_of_ble_eq_true rfl)
      · exact xk_r (xt_out hC hE (bk_r h) (Nat.le_of_ble_eq_true rfl) (Nat.le_of_ble_eq_true rfl))
  · exact xk_r (xt_out hC hE (bk_r h) (Nat.le_of_ble_eq_true rfl) (Nat.le_of_ble_eq_true rfl))
def f_X13_perform (S : mS) (a0 : Nat) : Option (Rs Int32) :=
  gd (gK S a0 = 19) (bd (f_X13_badSign S a0) fun x2 S3 => if x2 = (-1 : Int32) then (f_X13_perform_16  S3 a0 x2 a0 (0 : Int32)) else (f_X13_perform_16  S3 a0 x2 a0 (1 : Int32)))
set_option maxHeartbeats 2000000 in
set_option maxRecDepth 100000 in
theorem t_X13_perform {l : Launch} (hls : l.stackTraces = false) {C : cT} (hC : CX C cX13_perform 10 yX13_perform rm_X13_perform) (hl : C.2.1 = l) {S0 : mS} (hE : CE C S0 (Option.some Jvm.ClassFile.FieldType.int) []) {o : Rs Int32} {S : mS} {a0 : Nat} (h : f_X13_perform S a0 = some o) : XX C 10 (QQ C (fun r : Int32 => some (.int r)) S0 o) 0 0 S 0 [(0, .ref a0)] [] := by
  unfold f_X13_perform at h
  refine x_aload_n (pc := 0) hC 0 dX13_perform_0 rfl rfl ?_
  obtain ⟨g1, h⟩ := gd_some h
  obtain ⟨o4, ho4, h⟩ := bd_some h
  refine x_callV (pc := 1) (As := []) (rest := []) hC hl (c_X13_badSign l hls ho4) lk_RX13_392 fc_19 g1 dX13_perform_1 rfl rfl (Nat.le_of_ble_eq_true rfl) ⟨Nat.le_of_ble_eq_true rfl, Nat.le_of_ble_eq_true rfl⟩ ⟨(Nat.le_of_ble_eq_true rfl), (Nat.le_of_ble_eq_true rfl)⟩ ?_
  rcases o4 with ⟨x2 | E5, S3⟩
  · refine xk_i ?_
    replace h := bk_l h
    refine x_istore_n (pc := 4) hC dX13_perform_4 rfl (by decide) (by decide) rfl ?_
    refine x_aload_n (pc := 5) hC 1 dX13_perform_5 rfl rfl ?_
    refine x_iload_n (pc := 6) hC 0 dX13_perform_6 rfl rfl ?_
    refine x_iconst (pc := 7) (v := (-1 : Int32)) hC dX13_perform_7 (by decide) ?_
    refine x_icmp_ne (pc := 8) hC 15 dX13_perform_8 (by decide) (fun c6 => ?_) (fun c6 => ?_)
    · rw [if_neg c6] at h
      refine x_iconst (pc := 15) (v := (1 : Int32)) hC dX13_perform_15 (by decide) ?_
      refine x_pick [1, 0] rfl ?_
      exact t_X13_perform_16 hls hC hl hE h
    · rw [if_pos c6] at h
      refine x_iconst (pc := 11) (v := (0 : Int32)) hC dX13_perform_11 (by decide) ?_
      refine x_goto (pc := 12) hC 16 dX13_perform_12 (by decide) ?_
      refine x_pick [1, 0] rfl ?_
      exact t_X13_perform_16 hls hC hl hE h
  · exact xk_r (xt_out hC hE (bk_r h) (Nat.le_of_ble_eq_true rfl) (Nat.le_of_ble_eq_true rfl))
theorem c_X13_perform (l : Launch) (hls : l.stackTraces = false) {S : mS} {a0 : Nat} {o : Rs Int32} (h : f_X13_perform S a0 = some o) : CT (fun r : Int32 => some (.int r)) l yX13_perform (.code yX13_perform cX13_perform 10 (Option.some Jvm.ClassFile.FieldType.int)) rm_X13_perform S [.ref a0] o := ct_of (by decide +kernel) hls (Nat.le_of_ble_eq_true rfl) (fun C hl hC hE => t_X13_perform hls hC hl hE h)
abbrev rm_X13_cause : Room := { frames := 9, cells := 0, slots := 0, locals := 172 }
def f_X13_cause_36  (S : mS) (s0 : Int32) : Option (Rs Int32) :=
  gd ((s0.toUInt32.toUInt16.toUInt32.toInt32 = s0 ∧ 0 ≤ s0) ∧ s0 ≤ 65535) (some (.inl s0, S))
set_option maxHeartbeats 2000000 in
set_option maxRecDepth 100000 in
theorem t_X13_cause_36 {l : Launch} (hls : l.stackTraces = false) {C : cT} (hC : CX C cX13_cause 2 yX13_cause rm_X13_cause) (hl : C.2.1 = l) {S0 : mS} (hE : CE C S0 (Option.some Jvm.ClassFile.FieldType.char) []) {o : Rs Int32} {S : mS} {s0 : Int32} (h : f_X13_cause_36  S s0 = some o) : XX C 2 (QQ C (fun r : Int32 => some (.int r)) S0 o) (0) (0) S 36 [] [.int s0] := by
  unfold f_X13_cause_36 at h
  obtain ⟨g1, h⟩ := gd_some h
  exact x_zreturn (pc := 36) hC hE dX13_cause_36 (nf_C g1).1 (so h) (Nat.le_of_ble_eq_true rfl) (Nat.le_of_ble_eq_true rfl)
def f_X13_cause_20  (S : mS) (a0 : Nat) (a1 : Int32) (s0 : Nat) (s1 : Int32) : Option (Rs Int32) :=
  gd (gK S s0 = 19) (bd (f_X13_isWrong S s0 s1) fun x2 S3 => if x2 = 0 then (gd (gK S3 a0 = 19) (lt9 (gR S3 a0 7) fun r7 => gd (gK S3 r7 = 31) (gd (¬ (a1 < 0 ∨ gZ S3 r7 ≤ (a1).toNatClampNeg)) (lt9 (gI S3 r7 (a1).toNatClampNeg) fun x11 => f_X13_cause_36  S3 x11)))) else (f_X13_cause_36  S3 (0 : Int32)))
set_option maxHeartbeats 2000000 in
set_option maxRecDepth 100000 in
theorem t_X13_cause_20 {l : Launch} (hls : l.stackTraces = false) {C : cT} (hC : CX C cX13_cause 2 yX13_cause rm_X13_cause) (hl : C.2.1 = l) {S0 : mS} (hE : CE C S0 (Option.some Jvm.ClassFile.FieldType.char) []) {o : Rs Int32} {S : mS} {a0 : Nat} {a1 : Int32} {s0 : Nat} {s1 : Int32} (h : f_X13_cause_20  S a0 a1 s0 s1 = some o) : XX C 2 (QQ C (fun r : Int32 => some (.int r)) S0 o) (0) (0) S 20 [(0, .ref a0), (1, .int a1)] [.int s1, .ref s0] := by
  unfold f_X13_cause_20 at h
  obtain ⟨g1, h⟩ := gd_some h
  obtain ⟨o4, ho4, h⟩ := bd_some h
  refine x_callV (pc := 20) (As := [.int s1]) (rest := []) hC hl (c_X13_isWrong l hls ho4) lk_RX13_68 fc_19 g1 dX13_cause_20 rfl rfl (Nat.le_of_ble_eq_true rfl) ⟨Nat.le_of_ble_eq_true rfl, Nat.le_of_ble_eq_true rfl⟩ ⟨(Nat.le_of_ble_eq_true rfl), (Nat.le_of_ble_eq_true rfl)⟩ ?_
  rcases o4 with ⟨x2 | E5, S3⟩
  · refine xk_i ?_
    replace h := bk_l h
    refine x_if_eq (pc := 23) hC 30 dX13_cause_23 (by decide) (fun c12 => ?_) (fun c12 => ?_)
    · rw [if_pos c12] at h
      refine x_aload_n (pc := 30) hC 0 dX13_cause_30 rfl rfl ?_
      obtain ⟨g6, h⟩ := gd_some h
      refine x_getRv (pc := 31) (k := 7) hC fc_19 fl_RX13_36 dX13_cause_31 rfl g6 (fun r7 hr7 => ?_)
      replace h := lt_x hr7 h
      refine x_iload_n (pc := 34) hC 1 dX13_cause_34 rfl rfl ?_
      obtain ⟨g10, h⟩ := gd_some h
      obtain ⟨g9, h⟩ := gd_some h
      refine x_caldv (pc := 35) hC dX13_cause_35 g10 g9 (fun x11 hx11 => ?_)
      replace h := lt_x hx11 h
      refine x_pick [] rfl ?_
      exact t_X13_cause_36 hls hC hl hE h
    · rw [if_neg c12] at h
      refine x_iconst (pc := 26) (v := (0 : Int32)) hC dX13_cause_26 (by decide) ?_
      refine x_goto (pc := 27) hC 36 dX13_cause_27 (by decide) ?_
      refine x_pick [] rfl ?_
      exact t_X13_cause_36 hls hC hl hE h
  · exact xk_r (xt_out hC hE (bk_r h) (Nat.le_of_ble_eq_true rfl) (Nat.le_of_ble_eq_true rfl))
def f_X13_cause (S : mS) (a0 : Nat) (a1 : Int32) : Option (Rs Int32) :=
  gd (gK S a0 = 19) (lt9 (gI S a0 17) fun x2 => lt9 (x2 - (1 : Int32)) fun x3 => bd (f_X13_isBetween S a1 (0 : Int32) x3) fun x4 S5 => if x4 = 0 then (f_X13_cause_20  S5 a0 a1 a0 (1 : Int32)) else (f_X13_cause_20  S5 a0 a1 a0 (0 : Int32)))
set_option maxHeartbeats 2000000 in
set_option maxRecDepth 100000 in
theorem t_X13_cause {l : Launch} (hls : l.stackTraces = false) {C : cT} (hC : CX C cX13_cause 2 yX13_cause rm_X13_cause) (hl : C.2.1 = l) {S0 : mS} (hE : CE C S0 (Option.some Jvm.ClassFile.FieldType.char) []) {o : Rs Int32} {S : mS} {a0 : Nat} {a1 : Int32} (h : f_X13_cause S a0 a1 = some o) : XX C 2 (QQ C (fun r : Int32 => some (.int r)) S0 o) 0 0 S 0 [(0, .ref a0), (1, .int a1)] [] := by
  unfold f_X13_cause at h
  refine x_aload_n (pc := 0) hC 0 dX13_cause_0 rfl rfl ?_
  refine x_iload_n (pc := 1) hC 1 dX13_cause_1 rfl rfl ?_
  refine x_iconst (pc := 2) (v := (0 : Int32)) hC dX13_cause_2 (by decide) ?_
  refine x_aload_n (pc := 3) hC 0 dX13_cause_3 rfl rfl ?_
  obtain ⟨g1, h⟩ := gd_some h
  refine x_getIv (pc := 4) (k := 17) hC fc_19 fl_RX13_389 dX13_cause_4 rfl g1 (fun x2 hx2 => ?_)
  replace h := lt_x hx2 h
  refine x_iconst (pc := 7) (v := (1 : Int32)) hC dX13_cause_7 (by decide) ?_
  refine x_isubv (pc := 8) hC dX13_cause_8 (fun x3 hx3 => ?_)
  replace h := lt_x hx3 h
  obtain ⟨o6, ho6, h⟩ := bd_some h
  refine x_callS (pc := 9) (As := [.int a1, .int (0 : Int32), .int x3]) (rest := [.ref a0]) hC hl (c_X13_isBetween l hls ho6) lk_RX13_50 dX13_cause_9 rfl rfl (Nat.le_of_ble_eq_true rfl) ⟨Nat.le_of_ble_eq_true rfl, Nat.le_of_ble_eq_true rfl⟩ ⟨(Nat.le_of_ble_eq_true rfl), (Nat.le_of_ble_eq_true rfl)⟩ ?_
  rcases o6 with ⟨x4 | E7, S5⟩
  · refine xk_i ?_
    replace h := bk_l h
    refine x_if_eq (pc := 12) hC 19 dX13_cause_12 (by decide) (fun c8 => ?_) (fun c8 => ?_)
    · rw [if_pos c8] at h
      refine x_iconst (pc := 19) (v := (1 : Int32)) hC dX13_cause_19 (by decide) ?_
      refine x_pick [0, 1] rfl ?_
      exact t_X13_cause_20 hls hC hl hE h
    · rw [if_neg c8] at h
      refine x_iconst (pc := 15) (v := (0 : Int32)) hC dX13_cause_15 (by decide) ?_
      refine x_goto (pc := 16) hC 20 dX13_cause_16 (by decide) ?_
      refine x_pick [0, 1] rfl ?_
      exact t_X13_cause_20 hls hC hl hE h
  · exact xk_r (xt_out hC hE (bk_r h) (Nat.le_of_ble_eq_true rfl) (Nat.le_of_ble_eq_true rfl))
theorem c_X13_cause (l : Launch) (hls : l.stackTraces = false) {S : mS} {a0 : Nat} {a1 : Int32} {o : Rs Int32} (h : f_X13_cause S a0 a1 = some o) : CT (fun r : Int32 => some (.int r)) l yX13_cause (.code yX13_cause cX13_cause 2 (Option.some Jvm.ClassFile.FieldType.char)) rm_X13_cause S [.ref a0, .int a1] o := ct_of (by decide +kernel) hls (Nat.le_of_ble_eq_true rfl) (fun C hl hC hE => t_X13_cause hls hC hl hE h)
abbrev rm_X13_causeNumber : Room := { frames := 9, cells := 0, slots := 0, locals := 172 }
def f_X13_causeNumber_36  (S : mS) (s0 : Int32) : Option (Rs Int32) :=
  some (.inl s0, S)
set_option maxHeartbeats 2000000 in
set_option maxRecDepth 100000 in
theorem t_X13_causeNumber_36 {l : Launch} (hls : l.stackTraces = false) {C : cT} (hC : CX C cX13_causeNumber 2 yX13_causeNumber rm_X13_causeNumber) (hl : C.2.1 = l) {S0 : mS} (hE : CE C S0 (Option.some Jvm.ClassFile.FieldType.int) []) {o : Rs Int32} {S : mS} {s0 : Int32} (h : f_X13_causeNumber_36  S s0 = some o) : XX C 2 (QQ C (fun r : Int32 => some (.int r)) S0 o) (0) (0) S 36 [] [.int s0] := by
  unfold f_X13_causeNumber_36 at h
  exact x_ireturn (pc := 36) hC hE dX13_causeNumber_36 (so h) (Nat.le_of_ble_eq_true rfl) (Nat.le_of_ble_eq_true rfl)
def f_X13_causeNumber_20  (S : mS) (a0 : Nat) (a1 : Int32) (s0 : Nat) (s1 : Int32) : Option (Rs Int32) :=
  gd (gK S s0 = 19) (bd (f_X13_isWrong S s0 s1) fun x2 S3 => if x2 = 0 then (gd (gK S3 a0 = 19) (lt9 (gR S3 a0 6) fun r7 => gd (gK S3 r7 = 30) (gd (¬ (a1 < 0 ∨ gZ S3 r7 ≤ (a1).toNatClampNeg)) (lt9 (gI S3 r7 (a1).toNatClampNeg) fun x11 => f_X13_causeNumber_36  S3 x11)))) else (f_X13_causeNumber_36  S3 (0 : Int32)))
set_option maxHeartbeats 2000000 in
set_option maxRecDepth 100000 in
theorem t_X13_causeNumber_20 {l : Launch} (hls : l.stackTraces = false) {C : cT} (hC : CX C cX13_causeNumber 2 yX13_causeNumber rm_X13_causeNumber) (hl : C.2.1 = l) {S0 : mS} (hE : CE C S0 (Option.some Jvm.ClassFile.FieldType.int) []) {o : Rs Int32} {S : mS} {a0 : Nat} {a1 : Int32} {s0 : Nat} {s1 : Int32} (h : f_X13_causeNumber_20  S a0 a1 s0 s1 = some o) : XX C 2 (QQ C (fun r : Int32 => some (.int r)) S0 o) (0) (0) S 20 [(0, .ref a0), (1, .int a1)] [.int s1, .ref s0] := by
  unfold f_X13_causeNumber_20 at h
  obtain ⟨g1, h⟩ := gd_some h
  obtain ⟨o4, ho4, h⟩ := bd_some h
  refine x_callV (pc := 20) (As := [.int s1]) (rest := []) hC hl (c_X13_isWrong l hls ho4) lk_RX13_68 fc_19 g1 dX13_causeNumber_20 rfl rfl (Nat.le_of_ble_eq_true rfl) ⟨Nat.le_of_ble_eq_true rfl, Nat.le_of_ble_eq_true rfl⟩ ⟨(Nat.le_of_ble_eq_true rfl), (Nat.le_of_ble_eq_true rfl)⟩ ?_
  rcases o4 with ⟨x2 | E5, S3⟩
  · refine xk_i ?_
    replace h := bk_l h
    refine x_if_eq (pc := 23) hC 30 dX13_causeNumber_23 (by decide) (fun c12 => ?_) (fun c12 => ?_)
    · rw [if_pos c12] at h
      refine x_aload_n (pc := 30) hC 0 dX13_causeNumber_30 rfl rfl ?_
      obtain ⟨g6, h⟩ := gd_some h
      refine x_getRv (pc := 31) (k := 6) hC fc_19 fl_RX13_33 dX13_causeNumber_31 rfl g6 (fun r7 hr7 => ?_)
      replace h := lt_x hr7 h
      refine x_iload_n (pc := 34) hC 1 dX13_causeNumber_34 rfl rfl ?_
      obtain ⟨g10, h⟩ := gd_some h
      obtain ⟨g9, h⟩ := gd_some h
      refine x_ialdv (pc := 35) hC dX13_causeNumber_35 g10 g9 (fun x11 hx11 => ?_)
      replace h := lt_x hx11 h
      refine x_pick [] rfl ?_
      exact t_X13_causeNumber_36 hls hC hl hE h
    · rw [if_neg c12] at h
      refine x_iconst (pc := 26) (v := (0 : Int32)) hC dX13_causeNumber_26 (by decide) ?_
      refine x_goto (pc := 27) hC 36 dX13_causeNumber_27 (by decide) ?_
      refine x_pick [] rfl ?_
      exact t_X13_causeNumber_36 hls hC hl hE h
  · exact xk_r (xt_out hC hE (bk_r h) (Nat.le_of_ble_eq_true rfl) (Nat.le_of_ble_eq_true rfl))
def f_X13_causeNumber (S : mS) (a0 : Nat) (a1 : Int32) : Option (Rs Int32) :=
  gd (gK S a0 = 19) (lt9 (gI S a0 17) fun x2 => lt9 (x2 - (1 : Int32)) fun x3 => bd (f_X13_isBetween S a1 (0 : Int32) x3) fun x4 S5 => if x4 = 0 then (f_X13_causeNumber_20  S5 a0 a1 a0 (1 : Int32)) else (f_X13_causeNumber_20  S5 a0 a1 a0 (0 : Int32)))
set_option maxHeartbeats 2000000 in
set_option maxRecDepth 100000 in
theorem t_X13_causeNumber {l : Launch} (hls : l.stackTraces = false) {C : cT} (hC : CX C cX13_causeNumber 2 yX13_causeNumber rm_X13_causeNumber) (hl : C.2.1 = l) {S0 : mS} (hE : CE C S0 (Option.some Jvm.ClassFile.FieldType.int) []) {o : Rs Int32} {S : mS} {a0 : Nat} {a1 : Int32} (h : f_X13_causeNumber S a0 a1 = some o) : XX C 2 (QQ C (fun r : Int32 => some (.int r)) S0 o) 0 0 S 0 [(0, .ref a0), (1, .int a1)] [] := by
  unfold f_X13_causeNumber at h
  refine x_aload_n (pc := 0) hC 0 dX13_causeNumber_0 rfl rfl ?_
  refine x_iload_n (pc := 1) hC 1 dX13_causeNumber_1 rfl rfl ?_
  refine x_iconst (pc := 2) (v := (0 : Int32)) hC dX13_causeNumber_2 (by decide) ?_
  refine x_aload_n (pc := 3) hC 0 dX13_causeNumber_3 rfl rfl ?_
  obtain ⟨g1, h⟩ := gd_some h
  refine x_getIv (pc := 4) (k := 17) hC fc_19 fl_RX13_389 dX13_causeNumber_4 rfl g1 (fun x2 hx2 => ?_)
  replace h := lt_x hx2 h
  refine x_iconst (pc := 7) (v := (1 : Int32)) hC dX13_causeNumber_7 (by decide) ?_
  refine x_isubv (pc := 8) hC dX13_causeNumber_8 (fun x3 hx3 => ?_)
  replace h := lt_x hx3 h
  obtain ⟨o6, ho6, h⟩ := bd_some h
  refine x_callS (pc := 9) (As := [.int a1, .int (0 : Int32), .int x3]) (rest := [.ref a0]) hC hl (c_X13_isBetween l hls ho6) lk_RX13_50 dX13_causeNumber_9 rfl rfl (Nat.le_of_ble_eq_true rfl) ⟨Nat.le_of_ble_eq_true rfl, Nat.le_of_ble_eq_true rfl⟩ ⟨(Nat.le_of_ble_eq_true rfl), (Nat.le_of_ble_eq_true rfl)⟩ ?_
  rcases o6 with ⟨x4 | E7, S5⟩
  · refine xk_i ?_
    replace h := bk_l h
    refine x_if_eq (pc := 12) hC 19 dX13_causeNumber_12 (by decide) (fun c8 => ?_) (fun c8 => ?_)
    · rw [if_pos c8] at h
      refine x_iconst (pc := 19) (v := (1 : Int32)) hC dX13_causeNumber_19 (by decide) ?_
      refine x_pick [0, 1] rfl ?_
      exact t_X13_causeNumber_20 hls hC hl hE h
    · rw [if_neg c8] at h
      refine x_iconst (pc := 15) (v := (0 : Int32)) hC dX13_causeNumber_15 (by decide) ?_
      refine x_goto (pc := 16) hC 20 dX13_causeNumber_16 (by decide) ?_
      refine x_pick [0, 1] rfl ?_
      exact t_X13_causeNumber_20 hls hC hl hE h
  · exact xk_r (xt_out hC hE (bk_r h) (Nat.le_of_ble_eq_true rfl) (Nat.le_of_ble_eq_true rfl))
theorem c_X13_causeNumber (l : Launch) (hls : l.stackTraces = false) {S : mS} {a0 : Nat} {a1 : Int32} {o : Rs Int32} (h : f_X13_causeNumber S a0 a1 = some o) : CT (fun r : Int32 => some (.int r)) l yX13_causeNumber (.code yX13_causeNumber cX13_causeNumber 2 (Option.some Jvm.ClassFile.FieldType.int)) rm_X13_causeNumber S [.ref a0, .int a1] o := ct_of (by decide +kernel) hls (Nat.le_of_ble_eq_true rfl) (fun C hl hC hE => t_X13_causeNumber hls hC hl hE h)
abbrev rm_X13_skip : Room := { frames := 10, cells := 0, slots := 0, locals := 192 }
def f_X13_skip_39  (S : mS) (a0 : Nat) (a1 : Int32) (a2 : Int32) (s0 : Nat) (s1 : Int32) : Option (Rs Int64) :=
  gd (gK S s0 = 19) (bd (f_X13_isWrong S s0 s1) fun x2 S3 => if x2 = 0 then (gd (gK S3 a0 = 19) (lt9 (gR S3 a0 2) fun r7 => gd (gK S3 r7 = 37) (gd (¬ (a1 < 0 ∨ gZ S3 r7 ≤ (a1).toNatClampNeg)) (lt9 (gR S3 r7 (a1).toNatClampNeg) fun r11 => lt9 (gR S3 a0 2) fun r12 => gd (gK S3 r12 = 37) (gd (¬ (a1 < 0 ∨ gZ S3 r12 ≤ (a1).toNatClampNeg)) (lt9 (gR S3 r12 (a1).toNatClampNeg) fun r16 => gd (gK S3 r16 = 17) (lt9 (gL S3 r16 9) fun x18 => lt9 ((a2).toInt64) fun x19 => lt9 (x19 * (60000000 : Int64)) fun x20 => lt9 (x18 - x20) fun x21 => lt9 (if x21 < (0 : Int64) then (0 : Int64) else x21) fun x22 => gd (gK S3 r11 = 17) (zL (sL S3 r11 9 x22) fun S24 => bd (f_X13_logs S24 a0) fun _ S31 => gd (gK S31 a0 = 19) (lt9 (gR S31 a0 2) fun r35 => gd (gK S31 r35 = 37) (gd (¬ (a1 < 0 ∨ gZ S31 r35 ≤ (a1).toNatClampNeg)) (lt9 (gR S31 r35 (a1).toNatClampNeg) fun r39 => gd (gK S31 r39 = 17) (lt9 (gL S31 r39 9) fun x41 => some (.inl x41, S31))))))))))))) else (some (.inl (0 : Int64), S3)))
set_option maxHeartbeats 2000000 in
set_option maxRecDepth 100000 in
theorem t_X13_skip_39 {l : Launch} (hls : l.stackTraces = false) {C : cT} (hC : CX C cX13_skip 3 yX13_skip rm_X13_skip) (hl : C.2.1 = l) {S0 : mS} (hE : CE C S0 (Option.some Jvm.ClassFile.FieldType.long) []) {o : Rs Int64} {S : mS} {a0 : Nat} {a1 : Int32} {a2 : Int32} {s0 : Nat} {s1 : Int32} (h : f_X13_skip_39  S a0 a1 a2 s0 s1 = some o) : XX C 3 (QQ C (fun r : Int64 => some (.long r)) S0 o) (0) (0) S 39 [(0, .ref a0), (1, .int a1), (2, .int a2)] [.int s1, .ref s0] := by
  unfold f_X13_skip_39 at h
  obtain ⟨g1, h⟩ := gd_some h
  obtain ⟨o4, ho4, h⟩ := bd_some h
  refine x_callV (pc := 39) (As := [.int s1]) (rest := []) hC hl (c_X13_isWrong l hls ho4) lk_RX13_68 fc_19 g1 dX13_skip_39 rfl rfl (Nat.le_of_ble_eq_true rfl) ⟨Nat.le_of_ble_eq_true rfl, Nat.le_of_ble_eq_true rfl⟩ ⟨(Nat.le_of_ble_eq_true rfl), (Nat.le_of_ble_eq_true rfl)⟩ ?_
  rcases o4 with ⟨x2 | E5, S3⟩
  · refine xk_i ?_
    replace h := bk_l h
    refine x_if_eq (pc := 42) hC 47 dX13_skip_42 (by decide) (fun c42 => ?_) (fun c42 => ?_)
    · rw [if_pos c42] at h
      refine x_aload_n (pc := 47) hC 0 dX13_skip_47 rfl rfl ?_
      obtain ⟨g6, h⟩ := gd_some h
      refine x_getRv (pc := 48) (k := 2) hC fc_19 fl_RX13_19 dX13_skip_48 rfl g6 (fun r7 hr7 => ?_)
      replace h := lt_x hr7 h
      refine x_iload_n (pc := 51) hC 1 dX13_skip_51 rfl rfl ?_
      obtain ⟨g10, h⟩ := gd_some h
      obtain ⟨g9, h⟩ := gd_some h
      refine x_raldv (pc := 52) (t0 := 7) hC dX13_skip_52 g10 (by decide) (fun _ => rfl) g9 (fun r11 hr11 => ?_)
      replace h := lt_x hr11 h
      refine x_lconst (pc := 53) (v := (0 : Int64)) hC dX13_skip_53 (by decide) ?_
      refine x_aload_n (pc := 54) hC 0 dX13_skip_54 rfl rfl ?_
      refine x_getRv (pc := 55) (k := 2) hC fc_19 fl_RX13_19 dX13_skip_55 rfl g6 (fun r12 hr12 => ?_)
      replace h := lt_x hr12 h
      refine x_iload_n (pc := 58) hC 1 dX13_skip_58 rfl rfl ?_
      obtain ⟨g15, h⟩ := gd_some h
      obtain ⟨g14, h⟩ := gd_some h
      refine x_raldv (pc := 59) (t0 := 7) hC dX13_skip_59 g15 (by decide) (fun _ => rfl) g14 (fun r16 hr16 => ?_)
      replace h := lt_x hr16 h
      obtain ⟨g17, h⟩ := gd_some h
      refine x_getLv (pc := 60) (k := 9) hC fc_17 fl_RX13_163 dX13_skip_60 rfl g17 (fun x18 hx18 => ?_)
      replace h := lt_x hx18 h
      refine x_iload_n (pc := 63) hC 2 dX13_skip_63 rfl rfl ?_
      refine x_i2lv (pc := 64) hC dX13_skip_64 (fun x19 hx19 => ?_)
      replace h := lt_x hx19 h
      refine x_ldc2 (pc := 65) hC wm_1968 dX13_skip_65 ?_
      refine x_lmulv (pc := 68) hC dX13_skip_68 (fun x20 hx20 => ?_)
      replace h := lt_x hx20 h
      refine x_lsubv (pc := 69) hC dX13_skip_69 (fun x21 hx21 => ?_)
      replace h := lt_x hx21 h
      refine x_mmax_long (pc := 70) hC wm_2294 wm_816 wm_69 wm_817 dX13_skip_70 (Nat.le_of_ble_eq_true rfl) (Nat.le_of_ble_eq_true rfl) (Nat.le_of_ble_eq_true rfl) (Nat.le_of_ble_eq_true rfl) (fun x22 hx22 => ?_)
      replace h := lt_x hx22 h
      obtain ⟨g23, h⟩ := gd_some h
      refine x_putLv (pc := 73) (k := 9) hC fc_17 fl_RX13_163 dX13_skip_73 rfl rfl rfl g23 (fun S24 hS24 => ?_)
      replace h := zL_x hS24 h
      have g25 : gK S24 a0 = 19 := by rw [hS24]; exact g6
      have g26 : gK S24 r7 = 37 := by rw [hS24]; exact g10
      have g27 : gK S24 r12 = 37 := by rw [hS24]; exact g15
      have g28 : gK S24 r16 = 17 := by rw [hS24]; exact g17
      have g29 : gK S24 r11 = 17 := by rw [hS24]; exact g23
      refine x_aload_n (pc := 76) hC 0 dX13_skip_76 rfl rfl ?_
      obtain ⟨o32, ho32, h⟩ := bd_some h
      refine x_callV (pc := 77) (As := []) (rest := []) hC hl (c_X13_logs l hls ho32) lk_RX13_81 fc_19 g25 dX13_skip_77 rfl rfl (Nat.le_of_ble_eq_true rfl) ⟨Nat.le_of_ble_eq_true rfl, Nat.le_of_ble_eq_true rfl⟩ ⟨(Nat.le_of_ble_eq_true rfl), (Nat.le_of_ble_eq_true rfl)⟩ ?_
      rcases o32 with ⟨_ | E33, S31⟩
      · refine xk_v ?_
        replace h := bk_l h
        refine x_aload_n (pc := 80) hC 0 dX13_skip_80 rfl rfl ?_
        obtain ⟨g34, h⟩ := gd_some h
        refine x_getRv (pc := 81) (k := 2) hC fc_19 fl_RX13_19 dX13_skip_81 rfl g34 (fun r35 hr35 => ?_)
        replace h := lt_x hr35 h
        refine x_iload_n (pc := 84) hC 1 dX13_skip_84 rfl rfl ?_
        obtain ⟨g38, h⟩ := gd_some h
        obtain ⟨g37, h⟩ := gd_some h
        refine x_raldv (pc := 85) (t0 := 7) hC dX13_skip_85 g38 (by decide) (fun _ => rfl) g37 (fun r39 hr39 => ?_)
        replace h := lt_x hr39 h
        obtain ⟨g40, h⟩ := gd_some h
        refine x_getLv (pc := 86) (k := 9) hC fc_17 fl_RX13_163 dX13_skip_86 rfl g40 (fun x41 hx41 => ?_)
        replace h := lt_x hx41 h
        exact x_lreturn (pc := 89) hC hE dX13_skip_89 (so h) (Nat.le_of_ble_eq_true rfl) (Nat.le_of_ble_eq_true rfl)
      · exact xk_r (xt_out hC hE (bk_r h) (Nat.le_of_ble_eq_true rfl) (Nat.le_of_ble_eq_true rfl))
    · rw [if_neg c42] at h
      refine x_lconst (pc := 45) (v := (0 : Int64)) hC dX13_skip_45 (by decide) ?_
      exact x_lreturn (pc := 46) hC hE dX13_skip_46 (so h) (Nat.le_of_ble_eq_true rfl) (Nat.le_of_ble_eq_true rfl)
  · exact xk_r (xt_out hC hE (bk_r h) (Nat.le_of_ble_eq_true rfl) (Nat.le_of_ble_eq_true rfl))
def f_X13_skip (S : mS) (a0 : Nat) (a1 : Int32) (a2 : Int32) : Option (Rs Int64) :=
  bd (f_X13_isDeck S a1) fun x1 S2 => if x1 = 0 then (f_X13_skip_39  S2 a0 a1 a2 a0 (1 : Int32)) else (bd (f_X13_isBetween S2 a2 (1 : Int32) (32 : Int32)) fun x5 S6 => if x5 = 0 then (f_X13_skip_39  S6 a0 a1 a2 a0 (2 : Int32)) else (gd (gK S6 a0 = 19) (bd (f_X13_isEmpty S6 a0 a1) fun x10 S11 => if x10 = 0 then (f_X13_skip_39  S11 a0 a1 a2 a0 (0 : Int32)) else (f_X13_skip_39  S11 a0 a1 a2 a0 (3 : Int32)))))
set_option maxHeartbeats 2000000 in
set_option maxRecDepth 100000 in
theorem t_X13_skip {l : Launch} (hls : l.stackTraces = false) {C : cT} (hC : CX C cX13_skip 3 yX13_skip rm_X13_skip) (hl : C.2.1 = l) {S0 : mS} (hE : CE C S0 (Option.some Jvm.ClassFile.FieldType.long) []) {o : Rs Int64} {S : mS} {a0 : Nat} {a1 : Int32} {a2 : Int32} (h : f_X13_skip S a0 a1 a2 = some o) : XX C 3 (QQ C (fun r : Int64 => some (.long r)) S0 o) 0 0 S 0 [(0, .ref a0), (1, .int a1), (2, .int a2)] [] := by
  unfold f_X13_skip at h
  refine x_aload_n (pc := 0) hC 0 dX13_skip_0 rfl rfl ?_
  refine x_iload_n (pc := 1) hC 1 dX13_skip_1 rfl rfl ?_
  obtain ⟨o3, ho3, h⟩ := bd_some h
  refine x_callS (pc := 2) (As := [.int a1]) (rest := [.ref a0]) hC hl (c_X13_isDeck l hls ho3) lk_RX13_121 dX13_skip_2 rfl rfl (Nat.le_of_ble_eq_true rfl) ⟨Nat.le_of_ble_eq_true rfl, Nat.le_of_ble_eq_true rfl⟩ ⟨(Nat.le_of_ble_eq_true rfl), (Nat.le_of_ble_eq_true rfl)⟩ ?_
  rcases o3 with ⟨x1 | E4, S2⟩
  · refine xk_i ?_
    replace h := bk_l h
    refine x_if_ne (pc := 5) hC 12 dX13_skip_5 (by decide) (fun c16 => ?_) (fun c16 => ?_)
    · rw [if_neg c16] at h
      refine x_iload_n (pc := 12) hC 2 dX13_skip_12 rfl rfl ?_
      refine x_iconst (pc := 13) (v := (1 : Int32)) hC dX13_skip_13 (by decide) ?_
      refine x_bipush (pc := 14) (v := (32 : Int32)) hC dX13_skip_14 (by decide) ?_
      obtain ⟨o7, ho7, h⟩ := bd_some h
      refine x_callS (pc := 16) (As := [.int a2, .int (1 : Int32), .int (32 : Int32)]) (rest := [.ref a0]) hC hl (c_X13_isBetween l hls ho7) lk_RX13_50 dX13_skip_16 rfl rfl (Nat.le_of_ble_eq_true rfl) ⟨Nat.le_of_ble_eq_true rfl, Nat.le_of_ble_eq_true rfl⟩ ⟨(Nat.le_of_ble_eq_true rfl), (Nat.le_of_ble_eq_true rfl)⟩ ?_
      rcases o7 with ⟨x5 | E8, S6⟩
      · refine xk_i ?_
        replace h := bk_l h
        refine x_if_ne (pc := 19) hC 26 dX13_skip_19 (by decide) (fun c15 => ?_) (fun c15 => ?_)
        · rw [if_neg c15] at h
          refine x_aload_n (pc := 26) hC 0 dX13_skip_26 rfl rfl ?_
          refine x_iload_n (pc := 27) hC 1 dX13_skip_27 rfl rfl ?_
          obtain ⟨g9, h⟩ := gd_some h
          obtain ⟨o12, ho12, h⟩ := bd_some h
          refine x_callV (pc := 28) (As := [.int a1]) (rest := [.ref a0]) hC hl (c_X13_isEmpty l hls ho12) lk_RX13_133 fc_19 g9 dX13_skip_28 rfl rfl (Nat.le_of_ble_eq_true rfl) ⟨Nat.le_of_ble_eq_true rfl, Nat.le_of_ble_eq_true rfl⟩ ⟨(Nat.le_of_ble_eq_true rfl), (Nat.le_of_ble_eq_true rfl)⟩ ?_
          rcases o12 with ⟨x10 | E13, S11⟩
          · refine xk_i ?_
            replace h := bk_l h
            refine x_if_eq (pc := 31) hC 38 dX13_skip_31 (by decide) (fun c14 => ?_) (fun c14 => ?_)
            · rw [if_pos c14] at h
              refine x_iconst (pc := 38) (v := (0 : Int32)) hC dX13_skip_38 (by decide) ?_
              refine x_pick [0, 1, 2] rfl ?_
              exact t_X13_skip_39 hls hC hl hE h
            · rw [if_neg c14] at h
              refine x_iconst (pc := 34) (v := (3 : Int32)) hC dX13_skip_34 (by decide) ?_
              refine x_goto (pc := 35) hC 39 dX13_skip_35 (by decide) ?_
              refine x_pick [0, 1, 2] rfl ?_
              exact t_X13_skip_39 hls hC hl hE h
          · exact xk_r (xt_out hC hE (bk_r h) (Nat.le_of_ble_eq_true rfl) (Nat.le_of_ble_eq_true rfl))
        · rw [if_pos c15] at h
          refine x_iconst (pc := 22) (v := (2 : Int32)) hC dX13_skip_22 (by decide) ?_
          refine x_goto (pc := 23) hC 39 dX13_skip_23 (by decide) ?_
          refine x_pick [0, 1, 2] rfl ?_
          exact t_X13_skip_39 hls hC hl hE h
      · exact xk_r (xt_out hC hE (bk_r h) (Nat.le_of_ble_eq_true rfl) (Nat.le_of_ble_eq_true rfl))
    · rw [if_pos c16] at h
      refine x_iconst (pc := 8) (v := (1 : Int32)) hC dX13_skip_8 (by decide) ?_
      refine x_goto (pc := 9) hC 39 dX13_skip_9 (by decide) ?_
      refine x_pick [0, 1, 2] rfl ?_
      exact t_X13_skip_39 hls hC hl hE h
  · exact xk_r (xt_out hC hE (bk_r h) (Nat.le_of_ble_eq_true rfl) (Nat.le_of_ble_eq_true rfl))
theorem c_X13_skip (l : Launch) (hls : l.stackTraces = false) {S : mS} {a0 : Nat} {a1 : Int32} {a2 : Int32} {o : Rs Int64} (h : f_X13_skip S a0 a1 a2 = some o) : CT (fun r : Int64 => some (.long r)) l yX13_skip (.code yX13_skip cX13_skip 3 (Option.some Jvm.ClassFile.FieldType.long)) rm_X13_skip S [.ref a0, .int a1, .int a2] o := ct_of (by decide +kernel) hls (Nat.le_of_ble_eq_true rfl) (fun C hl hC hE => t_X13_skip hls hC hl hE h)
abbrev rm_X13_loseStick : Room := { frames := 11, cells := 0, slots := 0, locals := 214 }
def f_X13_loseStick_149  (S : mS) : Option (Rs Int32) :=
  some (.inl (-1 : Int32), S)
set_option maxHeartbeats 2000000 in
set_option maxRecDepth 100000 in
theorem t_X13_loseStick_149 {l : Launch} (hls : l.stackTraces = false) {C : cT} (hC : CX C cX13_loseStick 7 yX13_loseStick rm_X13_loseStick) (hl : C.2.1 = l) {S0 : mS} (hE : CE C S0 (Option.some Jvm.ClassFile.FieldType.int) []) {o : Rs Int32} {S : mS} (h : f_X13_loseStick_149  S = some o) : XX C 7 (QQ C (fun r : Int32 => some (.int r)) S0 o) (0) (0) S 149 [] [] := by
  unfold f_X13_loseStick_149 at h
  refine x_iconst (pc := 149) (v := (-1 : Int32)) hC dX13_loseStick_149 (by decide) ?_
  exact x_ireturn (pc := 150) hC hE dX13_loseStick_150 (so h) (Nat.le_of_ble_eq_true rfl) (Nat.le_of_ble_eq_true rfl)
def f_X13_loseStick_143 (rc67 : mS → Nat → Int32 → Int32 → Int32 → Option (Rs Int32)) (S : mS) (a0 : Nat) (a1 : Int32) (a2 : Int32) (a3 : Int32) : Option (Rs Int32) :=
  lt9 (a3 + Int32.ofInt (1)) fun x1 => rc67 S a0 a1 a2 x1
set_option maxHeartbeats 2000000 in
set_option maxRecDepth 100000 in
theorem t_X13_loseStick_143 {l : Launch} (hls : l.stackTraces = false) {C : cT} (hC : CX C cX13_loseStick 7 yX13_loseStick rm_X13_loseStick) (hl : C.2.1 = l) {S0 : mS} (hE : CE C S0 (Option.some Jvm.ClassFile.FieldType.int) []) {o : Rs Int32} {rc67 : mS → Nat → Int32 → Int32 → Int32 → Option (Rs Int32)} (hrc67 : ∀ (S : mS) (a0 : Nat) (a1 : Int32) (a2 : Int32) (a3 : Int32), rc67 S a0 a1 a2 a3 = some o → XX C 7 (QQ C (fun r : Int32 => some (.int r)) S0 o) (0) (0) S 67 [(0, .ref a0), (1, .int a1), (2, .int a2), (3, .int a3)] []) {S : mS} {a0 : Nat} {a1 : Int32} {a2 : Int32} {a3 : Int32} (h : f_X13_loseStick_143 rc67 S a0 a1 a2 a3 = some o) : XX C 7 (QQ C (fun r : Int32 => some (.int r)) S0 o) (0) (0) S 143 [(0, .ref a0), (1, .int a1), (2, .int a2), (3, .int a3)] [] := by
  unfold f_X13_loseStick_143 at h
  obtain ⟨x1, hx1⟩ : ∃ z, z = (a3 + Int32.ofInt (1)) := ⟨_, rfl⟩
  replace h := lt_x hx1 h
  refine x_iinc (pc := 143) hC 3 dX13_loseStick_143 rfl hx1.symm (by decide) (by decide) rfl ?_
  refine x_goto (pc := 146) hC 67 dX13_loseStick_146 (by decide) ?_
  refine x_pick [1, 2, 3, 0] rfl ?_
  exact hrc67 _ _ _ _ _ h
def f_X13_loseStick_67  : Nat → mS → Nat → Int32 → Int32 → Int32 → Option (Rs Int32)
  | 0, _, _, _, _, _ => none
  | k + 1, S, a0, a1, a2, a3 => if (4 : Int32) ≤ a3 then (f_X13_loseStick_149  S) else (if a2 = 0 then (gd (gK S a0 = 19) (lt9 (gR S a0 2) fun r2 => gd (gK S r2 = 37) (gd (¬ (a3 < 0 ∨ gZ S r2 ≤ (a3).toNatClampNeg)) (lt9 (gR S r2 (a3).toNatClampNeg) fun r6 => if a3 = a1 then (f_X13_loseStick_143 (f_X13_loseStick_67 k) S a0 a1 a2 a3) else (gd (gK S r6 = 17) (lt9 (gR S r6 0) fun r8 => if r8 = 0 then (f_X13_loseStick_143 (f_X13_loseStick_67 k) S a0 a1 a2 a3) else (lt9 (gI S r6 5) fun x9 => if x9 < (30 : Int32) then (f_X13_loseStick_143 (f_X13_loseStick_67 k) S a0 a1 a2 a3) else (lt9 (gI S r6 13) fun x10 => if x10 = 0 then (lt9 (gL S r6 9) fun x11 => lt9 (gR S r6 0) fun r12 => gd (gK S r12 = 18) (bd (f_X12_last S r12) fun x14 S15 => lt9 (lg_cmp x11 x14) fun x18 => if x18 < 0 then (gd (gK S15 r6 = 17) (bd (f_X11_begins S15 r6) fun x20 S21 => some (.inl a3, S21))) else (f_X13_loseStick_143 (f_X13_loseStick_67 k) S15 a0 a1 a2 a3))) else (f_X13_loseStick_143 (f_X13_loseStick_67 k) S a0 a1 a2 a3))))))))) else (f_X13_loseStick_149  S))
set_option maxHeartbeats 2000000 in
set_option maxRecDepth 100000 in
theorem t_X13_loseStick_67 {l : Launch} (hls : l.stackTraces = false) {C : cT} (hC : CX C cX13_loseStick 7 yX13_loseStick rm_X13_loseStick) (hl : C.2.1 = l) {S0 : mS} (hE : CE C S0 (Option.some Jvm.ClassFile.FieldType.int) []) {o : Rs Int32} : ∀ (k : Nat) (S : mS) (a0 : Nat) (a1 : Int32) (a2 : Int32) (a3 : Int32), f_X13_loseStick_67  k S a0 a1 a2 a3 = some o → XX C 7 (QQ C (fun r : Int32 => some (.int r)) S0 o) (0) (0) S 67 [(0, .ref a0), (1, .int a1), (2, .int a2), (3, .int a3)] [] := by
  intro k
  induction k with
  | zero => intro S a0 a1 a2 a3 h; cases h
  | succ k ih =>
    intro S a0 a1 a2 a3 h
    unfold f_X13_loseStick_67 at h
    refine x_iload_n (pc := 67) hC 3 dX13_loseStick_67 rfl rfl ?_
    refine x_iconst (pc := 68) (v := (4 : Int32)) hC dX13_loseStick_68 (by decide) ?_
    refine x_icmp_ge (pc := 69) hC 149 dX13_loseStick_69 (by decide) (fun c30 => ?_) (fun c30 => ?_)
    · rw [if_pos c30] at h
      refine x_pick [] rfl ?_
      exact t_X13_loseStick_149 hls hC hl hE h
    · rw [if_neg c30] at h
      refine x_iload_n (pc := 72) hC 2 dX13_loseStick_72 rfl rfl ?_
      refine x_if_ne (pc := 73) hC 149 dX13_loseStick_73 (by decide) (fun c29 => ?_) (fun c29 => ?_)
      · rw [if_neg c29] at h
        refine x_pick [] rfl ?_
        exact t_X13_loseStick_149 hls hC hl hE h
      · rw [if_pos c29] at h
        refine x_aload_n (pc := 76) hC 0 dX13_loseStick_76 rfl rfl ?_
        obtain ⟨g1, h⟩ := gd_some h
        refine x_getRv (pc := 77) (k := 2) hC fc_19 fl_RX13_19 dX13_loseStick_77 rfl g1 (fun r2 hr2 => ?_)
        replace h := lt_x hr2 h
        refine x_iload_n (pc := 80) hC 3 dX13_loseStick_80 rfl rfl ?_
        obtain ⟨g5, h⟩ := gd_some h
        obtain ⟨g4, h⟩ := gd_some h
        refine x_raldv (pc := 81) (t0 := 7) hC dX13_loseStick_81 g5 (by decide) (fun _ => rfl) g4 (fun r6 hr6 => ?_)
        replace h := lt_x hr6 h
        refine x_astore (pc := 82) hC dX13_loseStick_82 (by decide) (by decide) rfl ?_
        refine x_iload_n (pc := 84) hC 4 dX13_loseStick_84 rfl rfl ?_
        refine x_iload_n (pc := 85) hC 2 dX13_loseStick_85 rfl rfl ?_
        refine x_icmp_eq (pc := 86) hC 143 dX13_loseStick_86 (by decide) (fun c28 => ?_) (fun c28 => ?_)
        · rw [if_pos c28] at h
          refine x_pick [1, 2, 3, 4] rfl ?_
          exact t_X13_loseStick_143 hls hC hl hE (fun z0 z1 z2 z3 z4 hz => ih z0 z1 z2 z3 z4 hz) h
        · rw [if_neg c28] at h
          refine x_aload (pc := 89) hC 0 dX13_loseStick_89 rfl ?_
          obtain ⟨g7, h⟩ := gd_some h
          refine x_getRv (pc := 91) (k := 0) hC fc_17 fl_RX13_60 dX13_loseStick_91 rfl g7 (fun r8 hr8 => ?_)
          replace h := lt_x hr8 h
          refine x_ifnull (pc := 94) hC 143 dX13_loseStick_94 (by decide) (fun c27 => ?_) (fun c27 => ?_)
          · rw [if_pos c27] at h
            refine x_pick [1, 2, 3, 4] rfl ?_
            exact t_X13_loseStick_143 hls hC hl hE (fun z0 z1 z2 z3 z4 hz => ih z0 z1 z2 z3 z4 hz) h
          · rw [if_neg c27] at h
            refine x_aload (pc := 97) hC 0 dX13_loseStick_97 rfl ?_
            refine x_getIv (pc := 99) (k := 5) hC fc_17 fl_RX13_199 dX13_loseStick_99 rfl g7 (fun x9 hx9 => ?_)
            replace h := lt_x hx9 h
            refine x_bipush (pc := 102) (v := (30 : Int32)) hC dX13_loseStick_102 (by decide) ?_
            refine x_icmp_lt (pc := 104) hC 143 dX13_loseStick_104 (by decide) (fun c26 => ?_) (fun c26 => ?_)
            · rw [if_pos c26] at h
              refine x_pick [1, 2, 3, 4] rfl ?_
              exact t_X13_loseStick_143 hls hC hl hE (fun z0 z1 z2 z3 z4 hz => ih z0 z1 z2 z3 z4 hz) h
            · rw [if_neg c26] at h
              refine x_aload (pc := 107) hC 0 dX13_loseStick_107 rfl ?_
              refine x_getIv (pc := 109) (k := 13) hC fc_17 fl_RX13_124 dX13_loseStick_109 rfl g7 (fun x10 hx10 => ?_)
              replace h := lt_x hx10 h
              refine x_if_ne (pc := 112) hC 143 dX13_loseStick_112 (by decide) (fun c25 => ?_) (fun c25 => ?_)
              · rw [if_neg c25] at h
                refine x_pick [1, 2, 3, 4] rfl ?_
                exact t_X13_loseStick_143 hls hC hl hE (fun z0 z1 z2 z3 z4 hz => ih z0 z1 z2 z3 z4 hz) h
              · rw [if_pos c25] at h
                refine x_aload (pc := 115) hC 0 dX13_loseStick_115 rfl ?_
                refine x_getLv (pc := 117) (k := 9) hC fc_17 fl_RX13_163 dX13_loseStick_117 rfl g7 (fun x11 hx11 => ?_)
                replace h := lt_x hx11 h
                refine x_aload (pc := 120) hC 0 dX13_loseStick_120 rfl ?_
                refine x_getRv (pc := 122) (k := 0) hC fc_17 fl_RX13_60 dX13_loseStick_122 rfl g7 (fun r12 hr12 => ?_)
                replace h := lt_x hr12 h
                obtain ⟨g13, h⟩ := gd_some h
                obtain ⟨o16, ho16, h⟩ := bd_some h
                refine x_callV (pc := 125) (As := []) (rest := [.long x11]) hC hl (c_X12_last l hls ho16) lk_RX13_326 fc_18 g13 dX13_loseStick_125 rfl rfl (Nat.le_of_ble_eq_true rfl) ⟨Nat.le_of_ble_eq_true rfl, Nat.le_of_ble_eq_true rfl⟩ ⟨(Nat.le_of_ble_eq_true rfl), (Nat.le_of_ble_eq_true rfl)⟩ ?_
                rcases o16 with ⟨x14 | E17, S15⟩
                · refine xk_j ?_
                  replace h := bk_l h
                  refine x_lcmpv (pc := 128) hC dX13_loseStick_128 (fun x18 hx18 => ?_)
                  replace h := lt_x hx18 h
                  refine x_if_lt (pc := 129) hC 135 dX13_loseStick_129 (by decide) (fun c24 => ?_) (fun c24 => ?_)
                  · rw [if_pos c24] at h
                    refine x_aload (pc := 135) hC 0 dX13_loseStick_135 rfl ?_
                    obtain ⟨g19, h⟩ := gd_some h
                    obtain ⟨o22, ho22, h⟩ := bd_some h
                    refine x_callV (pc := 137) (As := []) (rest := []) hC hl (c_X11_begins l hls ho22) lk_RX13_139 fc_17 g19 dX13_loseStick_137 rfl rfl (Nat.le_of_ble_eq_true rfl) ⟨Nat.le_of_ble_eq_true rfl, Nat.le_of_ble_eq_true rfl⟩ ⟨(Nat.le_of_ble_eq_true rfl), (Nat.le_of_ble_eq_true rfl)⟩ ?_
                    rcases o22 with ⟨x20 | E23, S21⟩
                    · refine xk_i ?_
                      replace h := bk_l h
                      refine x_pop (pc := 140) hC dX13_loseStick_140 rfl ?_
                      refine x_iload_n (pc := 141) hC 4 dX13_loseStick_141 rfl rfl ?_
                      exact x_ireturn (pc := 142) hC hE dX13_loseStick_142 (so h) (Nat.le_of_ble_eq_true rfl) (Nat.le_of_ble_eq_true rfl)
                    · exact xk_r (xt_out hC hE (bk_r h) (Nat.le_of_ble_eq_true rfl) (Nat.le_of_ble_eq_true rfl))
                  · rw [if_neg c24] at h
                    refine x_goto (pc := 132) hC 143 dX13_loseStick_132 (by decide) ?_
                    refine x_pick [1, 2, 3, 4] rfl ?_
                    exact t_X13_loseStick_143 hls hC hl hE (fun z0 z1 z2 z3 z4 hz => ih z0 z1 z2 z3 z4 hz) h
                · exact xk_r (xt_out hC hE (bk_r h) (Nat.le_of_ble_eq_true rfl) (Nat.le_of_ble_eq_true rfl))
def f_X13_loseStick_37  : Nat → mS → Nat → Int32 → Int32 → Nat → Int32 → Int32 → Option (Rs Int32)
  | 0, _, _, _, _, _, _, _ => none
  | k + 1, S, a0, a1, a2, a3, a4, a5 => if a4 ≤ a5 then (f_X13_loseStick_67  16 S a0 a1 a2 (0 : Int32)) else (gd (gK S a3 = 37) (gd (¬ (a5 < 0 ∨ gZ S a3 ≤ (a5).toNatClampNeg)) (lt9 (gR S a3 (a5).toNatClampNeg) fun r4 => gd (gK S a0 = 19) (bd (f_X13_isHeard S a0 r4) fun x6 S7 => lt9 (a2 ||| x6) fun x10 => lt9 (a5 + Int32.ofInt (1)) fun x11 => f_X13_loseStick_37 k S7 a0 a1 x10 a3 a4 x11))))
set_option maxHeartbeats 2000000 in
set_option maxRecDepth 100000 in
theorem t_X13_loseStick_37 {l : Launch} (hls : l.stackTraces = false) {C : cT} (hC : CX C cX13_loseStick 7 yX13_loseStick rm_X13_loseStick) (hl : C.2.1 = l) {S0 : mS} (hE : CE C S0 (Option.some Jvm.ClassFile.FieldType.int) []) {o : Rs Int32} : ∀ (k : Nat) (S : mS) (a0 : Nat) (a1 : Int32) (a2 : Int32) (a3 : Nat) (a4 : Int32) (a5 : Int32), f_X13_loseStick_37  k S a0 a1 a2 a3 a4 a5 = some o → XX C 7 (QQ C (fun r : Int32 => some (.int r)) S0 o) (0) (0) S 37 [(0, .ref a0), (1, .int a1), (2, .int a2), (3, .ref a3), (4, .int a4), (5, .int a5)] [] := by
  intro k
  induction k with
  | zero => intro S a0 a1 a2 a3 a4 a5 h; cases h
  | succ k ih =>
    intro S a0 a1 a2 a3 a4 a5 h
    unfold f_X13_loseStick_37 at h
    refine x_iload (pc := 37) hC 5 dX13_loseStick_37 rfl ?_
    refine x_iload (pc := 39) hC 4 dX13_loseStick_39 rfl ?_
    refine x_icmp_ge (pc := 41) hC 65 dX13_loseStick_41 (by decide) (fun c12 => ?_) (fun c12 => ?_)
    · rw [if_pos c12] at h
      refine x_iconst (pc := 65) (v := (0 : Int32)) hC dX13_loseStick_65 (by decide) ?_
      refine x_istore_n (pc := 66) hC dX13_loseStick_66 rfl (by decide) (by decide) rfl ?_
      refine x_pick [1, 2, 3, 0] rfl ?_
      exact t_X13_loseStick_67 hls hC hl hE 16 _ _ _ _ _ h
    · rw [if_neg c12] at h
      refine x_aload_n (pc := 44) hC 3 dX13_loseStick_44 rfl rfl ?_
      refine x_iload (pc := 45) hC 5 dX13_loseStick_45 rfl ?_
      obtain ⟨g3, h⟩ := gd_some h
      obtain ⟨g2, h⟩ := gd_some h
      refine x_raldv (pc := 47) (t0 := 7) hC dX13_loseStick_47 g3 (by decide) (fun _ => rfl) g2 (fun r4 hr4 => ?_)
      replace h := lt_x hr4 h
      refine x_astore (pc := 48) hC dX13_loseStick_48 (by decide) (by decide) rfl ?_
      refine x_iload_n (pc := 50) hC 3 dX13_loseStick_50 rfl rfl ?_
      refine x_aload_n (pc := 51) hC 1 dX13_loseStick_51 rfl rfl ?_
      refine x_aload (pc := 52) hC 0 dX13_loseStick_52 rfl ?_
      obtain ⟨g5, h⟩ := gd_some h
      obtain ⟨o8, ho8, h⟩ := bd_some h
      refine x_callV (pc := 54) (As := [.ref r4]) (rest := [.int a2]) hC hl (c_X13_isHeard l hls ho8) lk_RX13_256 fc_19 g5 dX13_loseStick_54 rfl rfl (Nat.le_of_ble_eq_true rfl) ⟨Nat.le_of_ble_eq_true rfl, Nat.le_of_ble_eq_true rfl⟩ ⟨(Nat.le_of_ble_eq_true rfl), (Nat.le_of_ble_eq_true rfl)⟩ ?_
      rcases o8 with ⟨x6 | E9, S7⟩
      · refine xk_i ?_
        replace h := bk_l h
        refine x_iorv (pc := 57) hC dX13_loseStick_57 (fun x10 hx10 => ?_)
        replace h := lt_x hx10 h
        refine x_istore_n (pc := 58) hC dX13_loseStick_58 rfl (by decide) (by decide) rfl ?_
        obtain ⟨x11, hx11⟩ : ∃ z, z = (a5 + Int32.ofInt (1)) := ⟨_, rfl⟩
        replace h := lt_x hx11 h
        refine x_iinc (pc := 59) hC 6 dX13_loseStick_59 rfl hx11.symm (by decide) (by decide) rfl ?_
        refine x_goto (pc := 62) hC 37 dX13_loseStick_62 (by decide) ?_
        refine x_pick [3, 4, 1, 5, 6, 0] rfl ?_
        exact ih _ _ _ _ _ _ _ h
      · exact xk_r (xt_out hC hE (bk_r h) (Nat.le_of_ble_eq_true rfl) (Nat.le_of_ble_eq_true rfl))
def f_X13_loseStick (S : mS) (a0 : Nat) (a1 : Int32) : Option (Rs Int32) :=
  gd (gK S a0 = 19) (bd (f_X13_isNoRecord S a0 a1) fun x2 S3 => if x2 = 0 then (gd (gK S3 a0 = 19) (lt9 (gR S3 a0 2) fun r7 => gd (gK S3 r7 = 37) (gd (¬ (a1 < 0 ∨ gZ S3 r7 ≤ (a1).toNatClampNeg)) (lt9 (gR S3 r7 (a1).toNatClampNeg) fun r11 => gd (gK S3 r11 = 17) (bd (f_X11_empties S3 r11) fun _ S14 => gd (gK S14 a0 = 19) (bd (f_X13_logs S14 a0) fun _ S19 => gd (gK S19 a0 = 19) (lt9 (gR S19 a0 2) fun r23 => gd (gK S19 r23 = 37) (lt9 (Int32.ofNat (gZ S19 r23)) fun x25 => f_X13_loseStick_37  16 S19 a0 a1 (0 : Int32) r23 x25 (0 : Int32))))))))) else (some (.inl (0 : Int32), S3)))
set_option maxHeartbeats 2000000 in
set_option maxRecDepth 100000 in
theorem t_X13_loseStick {l : Launch} (hls : l.stackTraces = false) {C : cT} (hC : CX C cX13_loseStick 7 yX13_loseStick rm_X13_loseStick) (hl : C.2.1 = l) {S0 : mS} (hE : CE C S0 (Option.some Jvm.ClassFile.FieldType.int) []) {o : Rs Int32} {S : mS} {a0 : Nat} {a1 : Int32} (h : f_X13_loseStick S a0 a1 = some o) : XX C 7 (QQ C (fun r : Int32 => some (.int r)) S0 o) 0 0 S 0 [(0, .ref a0), (1, .int a1)] [] := by
  unfold f_X13_loseStick at h
  refine x_aload_n (pc := 0) hC 0 dX13_loseStick_0 rfl rfl ?_
  refine x_iload_n (pc := 1) hC 1 dX13_loseStick_1 rfl rfl ?_
  obtain ⟨g1, h⟩ := gd_some h
  obtain ⟨o4, ho4, h⟩ := bd_some h
  refine x_callV (pc := 2) (As := [.int a1]) (rest := []) hC hl (c_X13_isNoRecord l hls ho4) lk_RX13_136 fc_19 g1 dX13_loseStick_2 rfl rfl (Nat.le_of_ble_eq_true rfl) ⟨Nat.le_of_ble_eq_true rfl, Nat.le_of_ble_eq_true rfl⟩ ⟨(Nat.le_of_ble_eq_true rfl), (Nat.le_of_ble_eq_true rfl)⟩ ?_
  rcases o4 with ⟨x2 | E5, S3⟩
  · refine xk_i ?_
    replace h := bk_l h
    refine x_if_eq (pc := 5) hC 10 dX13_loseStick_5 (by decide) (fun c26 => ?_) (fun c26 => ?_)
    · rw [if_pos c26] at h
      refine x_aload_n (pc := 10) hC 0 dX13_loseStick_10 rfl rfl ?_
      obtain ⟨g6, h⟩ := gd_some h
      refine x_getRv (pc := 11) (k := 2) hC fc_19 fl_RX13_19 dX13_loseStick_11 rfl g6 (fun r7 hr7 => ?_)
      replace h := lt_x hr7 h
      refine x_iload_n (pc := 14) hC 1 dX13_loseStick_14 rfl rfl ?_
      obtain ⟨g10, h⟩ := gd_some h
      obtain ⟨g9, h⟩ := gd_some h
      refine x_raldv (pc := 15) (t0 := 7) hC dX13_loseStick_15 g10 (by decide) (fun _ => rfl) g9 (fun r11 hr11 => ?_)
      replace h := lt_x hr11 h
      obtain ⟨g12, h⟩ := gd_some h
      obtain ⟨o15, ho15, h⟩ := bd_some h
      refine x_callV (pc := 16) (As := []) (rest := []) hC hl (c_X11_empties l hls ho15) lk_RX13_411 fc_17 g12 dX13_loseStick_16 rfl rfl (Nat.le_of_ble_eq_true rfl) ⟨Nat.le_of_ble_eq_true rfl, Nat.le_of_ble_eq_true rfl⟩ ⟨(Nat.le_of_ble_eq_true rfl), (Nat.le_of_ble_eq_true rfl)⟩ ?_
      rcases o15 with ⟨_ | E16, S14⟩
      · refine xk_v ?_
        replace h := bk_l h
        refine x_aload_n (pc := 19) hC 0 dX13_loseStick_19 rfl rfl ?_
        obtain ⟨g17, h⟩ := gd_some h
        obtain ⟨o20, ho20, h⟩ := bd_some h
        refine x_callV (pc := 20) (As := []) (rest := []) hC hl (c_X13_logs l hls ho20) lk_RX13_81 fc_19 g17 dX13_loseStick_20 rfl rfl (Nat.le_of_ble_eq_true rfl) ⟨Nat.le_of_ble_eq_true rfl, Nat.le_of_ble_eq_true rfl⟩ ⟨(Nat.le_of_ble_eq_true rfl), (Nat.le_of_ble_eq_true rfl)⟩ ?_
        rcases o20 with ⟨_ | E21, S19⟩
        · refine xk_v ?_
          replace h := bk_l h
          refine x_iconst (pc := 23) (v := (0 : Int32)) hC dX13_loseStick_23 (by decide) ?_
          refine x_istore_n (pc := 24) hC dX13_loseStick_24 rfl (by decide) (by decide) rfl ?_
          refine x_aload_n (pc := 25) hC 1 dX13_loseStick_25 rfl rfl ?_
          obtain ⟨g22, h⟩ := gd_some h
          refine x_getRv (pc := 26) (k := 2) hC fc_19 fl_RX13_19 dX13_loseStick_26 rfl g22 (fun r23 hr23 => ?_)
          replace h := lt_x hr23 h
          refine x_astore_n (pc := 29) hC dX13_loseStick_29 rfl (by decide) (by decide) rfl ?_
          refine x_aload_n (pc := 30) hC 0 dX13_loseStick_30 rfl rfl ?_
          obtain ⟨g24, h⟩ := gd_some h
          refine x_alenv (pc := 31) (t0 := 7) hC dX13_loseStick_31 g24 (by decide) (fun _ => rfl) (fun x25 hx25 => ?_)
          replace h := lt_x hx25 h
          refine x_istore (pc := 32) hC dX13_loseStick_32 (by decide) (by decide) rfl ?_
          refine x_iconst (pc := 34) (v := (0 : Int32)) hC dX13_loseStick_34 (by decide) ?_
          refine x_istore (pc := 35) hC dX13_loseStick_35 (by decide) (by decide) rfl ?_
          refine x_pick [4, 5, 3, 2, 1, 0] rfl ?_
          exact t_X13_loseStick_37 hls hC hl hE 16 _ _ _ _ _ _ _ h
        · exact xk_r (xt_out hC hE (bk_r h) (Nat.le_of_ble_eq_true rfl) (Nat.le_of_ble_eq_true rfl))
      · exact xk_r (xt_out hC hE (bk_r h) (Nat.le_of_ble_eq_true rfl) (Nat.le_of_ble_eq_true rfl))
    · rw [if_neg c26] at h
      refine x_iconst (pc := 8) (v := (0 : Int32)) hC dX13_loseStick_8 (by decide) ?_
      exact x_ireturn (pc := 9) hC hE dX13_loseStick_9 (so h) (Nat.le_of_ble_eq_true rfl) (Nat.le_of_ble_eq_true rfl)
  · exact xk_r (xt_out hC hE (bk_r h) (Nat.le_of_ble_eq_true rfl) (Nat.le_of_ble_eq_true rfl))
theorem c_X13_loseStick (l : Launch) (hls : l.stackTraces = false) {S : mS} {a0 : Nat} {a1 : Int32} {o : Rs Int32} (h : f_X13_loseStick S a0 a1 = some o) : CT (fun r : Int32 => some (.int r)) l yX13_loseStick (.code yX13_loseStick cX13_loseStick 7 (Option.some Jvm.ClassFile.FieldType.int)) rm_X13_loseStick S [.ref a0, .int a1] o := ct_of (by decide +kernel) hls (Nat.le_of_ble_eq_true rfl) (fun C hl hC hE => t_X13_loseStick hls hC hl hE h)
abbrev rm_X13_logged : Room := { frames := 9, cells := 0, slots := 0, locals := 171 }
def f_X13_logged (S : mS) (a0 : Nat) : Option (Rs Int32) :=
  gd (gK S a0 = 19) (lt9 (gI S a0 16) fun x2 => bd (f_X13_plain S a0 x2) fun x3 S4 => some (.inl x3, S4))
set_option maxHeartbeats 2000000 in
set_option maxRecDepth 100000 in
theorem t_X13_logged {l : Launch} (hls : l.stackTraces = false) {C : cT} (hC : CX C cX13_logged 1 yX13_logged rm_X13_logged) (hl : C.2.1 = l) {S0 : mS} (hE : CE C S0 (Option.some Jvm.ClassFile.FieldType.int) []) {o : Rs Int32} {S : mS} {a0 : Nat} (h : f_X13_logged S a0 = some o) : XX C 1 (QQ C (fun r : Int32 => some (.int r)) S0 o) 0 0 S 0 [(0, .ref a0)] [] := by
  unfold f_X13_logged at h
  refine x_aload_n (pc := 0) hC 0 dX13_logged_0 rfl rfl ?_
  refine x_aload_n (pc := 1) hC 0 dX13_logged_1 rfl rfl ?_
  obtain ⟨g1, h⟩ := gd_some h
  refine x_getIv (pc := 2) (k := 16) hC fc_19 fl_RX13_64 dX13_logged_2 rfl g1 (fun x2 hx2 => ?_)
  replace h := lt_x hx2 h
  obtain ⟨o5, ho5, h⟩ := bd_some h
  refine x_callV (pc := 5) (As := [.int x2]) (rest := []) hC hl (c_X13_plain l hls ho5) lk_RX13_310 fc_19 g1 dX13_logged_5 rfl rfl (Nat.le_of_ble_eq_true rfl) ⟨Nat.le_of_ble_eq_true rfl, Nat.le_of_ble_eq_true rfl⟩ ⟨(Nat.le_of_ble_eq_true rfl), (Nat.le_of_ble_eq_true rfl)⟩ ?_
  rcases o5 with ⟨x3 | E6, S4⟩
  · refine xk_i ?_
    replace h := bk_l h
    exact x_ireturn (pc := 8) hC hE dX13_logged_8 (so h) (Nat.le_of_ble_eq_true rfl) (Nat.le_of_ble_eq_true rfl)
  · exact xk_r (xt_out hC hE (bk_r h) (Nat.le_of_ble_eq_true rfl) (Nat.le_of_ble_eq_true rfl))
theorem c_X13_logged (l : Launch) (hls : l.stackTraces = false) {S : mS} {a0 : Nat} {o : Rs Int32} (h : f_X13_logged S a0 = some o) : CT (fun r : Int32 => some (.int r)) l yX13_logged (.code yX13_logged cX13_logged 1 (Option.some Jvm.ClassFile.FieldType.int)) rm_X13_logged S [.ref a0] o := ct_of (by decide +kernel) hls (Nat.le_of_ble_eq_true rfl) (fun C hl hC hE => t_X13_logged hls hC hl hE h)
abbrev rm_X13_print : Room := { frames := 8, cells := 1, slots := 6, locals := 150 }
def f_X13_print_162  : Nat → mS → Int64 → Nat → Int32 → Int32 → Option (Rs Int64)
  | 0, _, _, _, _, _ => none
  | k + 1, S, a1, a5, a6, a7 => if a6 ≤ a7 then (some (.inl a1, S)) else (gd (gK S a5 = 30) (gd (¬ (a7 < 0 ∨ gZ S a5 ≤ (a7).toNatClampNeg)) (lt9 (gI S a5 (a7).toNatClampNeg) fun x4 => lt9 ((31 : Int64) * a1) fun x5 => lt9 ((x4).toInt64) fun x6 => lt9 (x5 + x6) fun x7 => lt9 (a7 + Int32.ofInt (1)) fun x8 => f_X13_print_162 k S x7 a5 a6 x8)))
set_option maxHeartbeats 2000000 in
set_option maxRecDepth 100000 in
theorem t_X13_print_162 {l : Launch} (hls : l.stackTraces = false) {C : cT} (hC : CX C cX13_print 9 yX13_print rm_X13_print) (hl : C.2.1 = l) {S0 : mS} (hE : CE C S0 (Option.some Jvm.ClassFile.FieldType.long) []) {o : Rs Int64} : ∀ (k : Nat) (S : mS) (a1 : Int64) (a5 : Nat) (a6 : Int32) (a7 : Int32), f_X13_print_162  k S a1 a5 a6 a7 = some o → XX C 9 (QQ C (fun r : Int64 => some (.long r)) S0 o) (1) (6) S 162 [(1, .long a1), (5, .ref a5), (6, .int a6), (7, .int a7)] [] := by
  intro k
  induction k with
  | zero => intro S a1 a5 a6 a7 h; cases h
  | succ k ih =>
    intro S a1 a5 a6 a7 h
    unfold f_X13_print_162 at h
    refine x_iload (pc := 162) hC 3 dX13_print_162 rfl ?_
    refine x_iload (pc := 164) hC 2 dX13_print_164 rfl ?_
    refine x_icmp_ge (pc := 166) hC 192 dX13_print_166 (by decide) (fun c9 => ?_) (fun c9 => ?_)
    · rw [if_pos c9] at h
      refine x_lload_n (pc := 192) hC 0 dX13_print_192 rfl rfl ?_
      exact x_lreturn (pc := 193) hC hE dX13_print_193 (so h) (Nat.le_of_ble_eq_true rfl) (Nat.le_of_ble_eq_true rfl)
    · rw [if_neg c9] at h
      refine x_aload (pc := 169) hC 1 dX13_print_169 rfl ?_
      refine x_iload (pc := 171) hC 3 dX13_print_171 rfl ?_
      obtain ⟨g3, h⟩ := gd_some h
      obtain ⟨g2, h⟩ := gd_some h
      refine x_ialdv (pc := 173) hC dX13_print_173 g3 g2 (fun x4 hx4 => ?_)
      replace h := lt_x hx4 h
      refine x_istore (pc := 174) hC dX13_print_174 (by decide) (by decide) rfl ?_
      refine x_ldc2 (pc := 176) hC wm_2643 dX13_print_176 ?_
      refine x_lload_n (pc := 179) hC 1 dX13_print_179 rfl rfl ?_
      refine x_lmulv (pc := 180) hC dX13_print_180 (fun x5 hx5 => ?_)
      replace h := lt_x hx5 h
      refine x_iload (pc := 181) hC 0 dX13_print_181 rfl ?_
      refine x_i2lv (pc := 183) hC dX13_print_183 (fun x6 hx6 => ?_)
      replace h := lt_x hx6 h
      refine x_laddv (pc := 184) hC dX13_print_184 (fun x7 hx7 => ?_)
      replace h := lt_x hx7 h
      refine x_lstore_n (pc := 185) hC dX13_print_185 rfl (by decide) (by decide) rfl ?_
      obtain ⟨x8, hx8⟩ : ∃ z, z = (a7 + Int32.ofInt (1)) := ⟨_, rfl⟩
      replace h := lt_x hx8 h
      refine x_iinc (pc := 186) hC 4 dX13_print_186 rfl hx8.symm (by decide) (by decide) rfl ?_
      refine x_goto (pc := 189) hC 162 dX13_print_189 (by decide) ?_
      refine x_pick [1, 3, 4, 0] rfl ?_
      exact ih _ _ _ _ _ h
def f_X13_print_80  : Nat → mS → Nat → Int64 → Int32 → Nat → Int32 → Int32 → Option (Rs Int64)
  | 0, _, _, _, _, _, _, _ => none
  | k + 1, S, a0, a1, a3, a4, a5, a6 => if a5 ≤ a6 then (gd (gN S + 1 < KB) (zW (sW S 30 6) fun S2 => lt9 (gN S + 1) fun r3 => gd (gK S2 a0 = 19) (lt9 (gI S2 a0 9) fun x6 => gd (¬ ((0 : Int32) < 0 ∨ gZ S2 r3 ≤ ((0 : Int32)).toNatClampNeg)) (zI (sI S2 r3 ((0 : Int32)).toNatClampNeg x6) fun S8 => lt9 (gI S8 a0 11) fun x11 => gd (¬ ((1 : Int32) < 0 ∨ gZ S8 r3 ≤ ((1 : Int32)).toNatClampNeg)) (zI (sI S8 r3 ((1 : Int32)).toNatClampNeg x11) fun S13 => lt9 (gI S13 a0 12) fun x16 => gd (¬ ((2 : Int32) < 0 ∨ gZ S13 r3 ≤ ((2 : Int32)).toNatClampNeg)) (zI (sI S13 r3 ((2 : Int32)).toNatClampNeg x16) fun S18 => lt9 (gI S18 a0 13) fun x21 => gd (¬ ((3 : Int32) < 0 ∨ gZ S18 r3 ≤ ((3 : Int32)).toNatClampNeg)) (zI (sI S18 r3 ((3 : Int32)).toNatClampNeg x21) fun S23 => gd (¬ ((4 : Int32) < 0 ∨ gZ S23 r3 ≤ ((4 : Int32)).toNatClampNeg)) (zI (sI S23 r3 ((4 : Int32)).toNatClampNeg a3) fun S27 => lt9 (gI S27 a0 14) fun x30 => gd (¬ ((5 : Int32) < 0 ∨ gZ S27 r3 ≤ ((5 : Int32)).toNatClampNeg)) (zI (sI S27 r3 ((5 : Int32)).toNatClampNeg x30) fun S32 => lt9 (Int32.ofNat (gZ S32 r3)) fun x35 => f_X13_print_162  16 S32 a1 r3 x35 (0 : Int32)))))))))) else (gd (gK S a4 = 30) (gd (¬ (a6 < 0 ∨ gZ S a4 ≤ (a6).toNatClampNeg)) (lt9 (gI S a4 (a6).toNatClampNeg) fun x39 => lt9 (a3 + x39) fun x40 => lt9 (a6 + Int32.ofInt (1)) fun x41 => f_X13_print_80 k S a0 a1 x40 a4 a5 x41)))
set_option maxHeartbeats 2000000 in
set_option maxRecDepth 100000 in
theorem t_X13_print_80 {l : Launch} (hls : l.stackTraces = false) {C : cT} (hC : CX C cX13_print 9 yX13_print rm_X13_print) (hl : C.2.1 = l) {S0 : mS} (hE : CE C S0 (Option.some Jvm.ClassFile.FieldType.long) []) {o : Rs Int64} : ∀ (k : Nat) (S : mS) (a0 : Nat) (a1 : Int64) (a3 : Int32) (a4 : Nat) (a5 : Int32) (a6 : Int32), f_X13_print_80  k S a0 a1 a3 a4 a5 a6 = some o → XX C 9 (QQ C (fun r : Int64 => some (.long r)) S0 o) (0) (0) S 80 [(0, .ref a0), (1, .long a1), (3, .int a3), (4, .ref a4), (5, .int a5), (6, .int a6)] [] := by
  intro k
  induction k with
  | zero => intro S a0 a1 a3 a4 a5 a6 h; cases h
  | succ k ih =>
    intro S a0 a1 a3 a4 a5 a6 h
    unfold f_X13_print_80 at h
    refine x_iload (pc := 80) hC 5 dX13_print_80 rfl ?_
    refine x_iload (pc := 82) hC 4 dX13_print_82 rfl ?_
    refine x_icmp_ge (pc := 84) hC 105 dX13_print_84 (by decide) (fun c42 => ?_) (fun c42 => ?_)
    · rw [if_pos c42] at h
      refine x_bipush (pc := 105) (v := (6 : Int32)) hC dX13_print_105 (by decide) ?_
      obtain ⟨g1, h⟩ := gd_some h
      refine x_newaIv (pc := 107) (z := 6) hC wm_186 dX13_print_107 (by decide) (by decide) (Nat.le_of_ble_eq_true rfl) g1 (Nat.le_of_ble_eq_true rfl) (Nat.le_of_ble_eq_true rfl) (fun S2 r3 hS2 hr3 => ?_)
      replace h := zW_x hS2 h
      replace h := lt_x hr3 h
      have g4 : gK S2 r3 = 30 := by rw [hr3, hS2]; exact sW_K
      refine x_dup (pc := 109) hC dX13_print_109 rfl ?_
      refine x_iconst (pc := 110) (v := (0 : Int32)) hC dX13_print_110 (by decide) ?_
      refine x_aload_n (pc := 111) hC 0 dX13_print_111 rfl rfl ?_
      obtain ⟨g5, h⟩ := gd_some h
      refine x_getIv (pc := 112) (k := 9) hC fc_19 fl_RX13_295 dX13_print_112 rfl g5 (fun x6 hx6 => ?_)
      replace h := lt_x hx6 h
      obtain ⟨g7, h⟩ := gd_some h
      refine x_iastv (pc := 115) hC dX13_print_115 g4 g7 (fun S8 hS8 => ?_)
      replace h := zI_x hS8 h
      have g9 : gK S8 r3 = 30 := by rw [hS8]; exact g4
      have g10 : gK S8 a0 = 19 := by rw [hS8]; exact g5
      refine x_dup (pc := 116) hC dX13_print_116 rfl ?_
      refine x_iconst (pc := 117) (v := (1 : Int32)) hC dX13_print_117 (by decide) ?_
      refine x_aload_n (pc := 118) hC 0 dX13_print_118 rfl rfl ?_
      refine x_getIv (pc := 119) (k := 11) hC fc_19 fl_RX13_280 dX13_print_119 rfl g10 (fun x11 hx11 => ?_)
      replace h := lt_x hx11 h
      obtain ⟨g12, h⟩ := gd_some h
      refine x_iastv (pc := 122) hC dX13_print_122 g9 g12 (fun S13 hS13 => ?_)
      replace h := zI_x hS13 h
      have g14 : gK S13 r3 = 30 := by rw [hS13]; exact g9
      have g15 : gK S13 a0 = 19 := by rw [hS13]; exact g10
      refine x_dup (pc := 123) hC dX13_print_123 rfl ?_
      refine x_iconst (pc := 124) (v := (2 : Int32)) hC dX13_print_124 (by decide) ?_
      refine x_aload_n (pc := 125) hC 0 dX13_print_125 rfl rfl ?_
      refine x_getIv (pc := 126) (k := 12) hC fc_19 fl_RX13_283 dX13_print_126 rfl g15 (fun x16 hx16 => ?_)
      replace h := lt_x hx16 h
      obtain ⟨g17, h⟩ := gd_some h
      refine x_iastv (pc := 129) hC dX13_print_129 g14 g17 (fun S18 hS18 => ?_)
      replace h := zI_x hS18 h
      have g19 : gK S18 r3 = 30 := by rw [hS18]; exact g14
      have g20 : gK S18 a0 = 19 := by rw [hS18]; exact g15
      refine x_dup (pc := 130) hC dX13_print_130 rfl ?_
      refine x_iconst (pc := 131) (v := (3 : Int32)) hC dX13_print_131 (by decide) ?_
      refine x_aload_n (pc := 132) hC 0 dX13_print_132 rfl rfl ?_
      refine x_getIv (pc := 133) (k := 13) hC fc_19 fl_RX13_286 dX13_print_133 rfl g20 (fun x21 hx21 => ?_)
      replace h := lt_x hx21 h
      obtain ⟨g22, h⟩ := gd_some h
      refine x_iastv (pc := 136) hC dX13_print_136 g19 g22 (fun S23 hS23 => ?_)
      replace h := zI_x hS23 h
      have g24 : gK S23 r3 = 30 := by rw [hS23]; exact g19
      have g25 : gK S23 a0 = 19 := by rw [hS23]; exact g20
      refine x_dup (pc := 137) hC dX13_print_137 rfl ?_
      refine x_iconst (pc := 138) (v := (4 : Int32)) hC dX13_print_138 (by decide) ?_
      refine x_iload_n (pc := 139) hC 2 dX13_print_139 rfl rfl ?_
      obtain ⟨g26, h⟩ := gd_some h
      refine x_iastv (pc := 140) hC dX13_print_140 g24 g26 (fun S27 hS27 => ?_)
      replace h := zI_x hS27 h
      have g28 : gK S27 r3 = 30 := by rw [hS27]; exact g24
      have g29 : gK S27 a0 = 19 := by rw [hS27]; exact g25
      refine x_dup (pc := 141) hC dX13_print_141 rfl ?_
      refine x_iconst (pc := 142) (v := (5 : Int32)) hC dX13_print_142 (by decide) ?_
      refine x_aload_n (pc := 143) hC 0 dX13_print_143 rfl rfl ?_
      refine x_getIv (pc := 144) (k := 14) hC fc_19 fl_RX13_301 dX13_print_144 rfl g29 (fun x30 hx30 => ?_)
      replace h := lt_x hx30 h
      obtain ⟨g31, h⟩ := gd_some h
      refine x_iastv (pc := 147) hC dX13_print_147 g28 g31 (fun S32 hS32 => ?_)
      replace h := zI_x hS32 h
      have g33 : gK S32 r3 = 30 := by rw [hS32]; exact g28
      have g34 : gK S32 a0 = 19 := by rw [hS32]; exact g29
      refine x_astore (pc := 148) hC dX13_print_148 (by decide) (by decide) rfl ?_
      refine x_aload (pc := 150) hC 0 dX13_print_150 rfl ?_
      refine x_astore (pc := 152) hC dX13_print_152 (by decide) (by decide) rfl ?_
      refine x_aload (pc := 154) hC 0 dX13_print_154 rfl ?_
      refine x_alenv (pc := 156) (t0 := 0) hC dX13_print_156 g33 (by decide) (fun _ => rfl) (fun x35 hx35 => ?_)
      replace h := lt_x hx35 h
      refine x_istore (pc := 157) hC dX13_print_157 (by decide) (by decide) rfl ?_
      refine x_iconst (pc := 159) (v := (0 : Int32)) hC dX13_print_159 (by decide) ?_
      refine x_istore (pc := 160) hC dX13_print_160 (by decide) (by decide) rfl ?_
      refine x_pick [5, 2, 1, 0] rfl ?_
      exact t_X13_print_162 hls hC hl hE 16 _ _ _ _ _ h
    · rw [if_neg c42] at h
      refine x_aload (pc := 87) hC 3 dX13_print_87 rfl ?_
      refine x_iload (pc := 89) hC 5 dX13_print_89 rfl ?_
      obtain ⟨g38, h⟩ := gd_some h
      obtain ⟨g37, h⟩ := gd_some h
      refine x_ialdv (pc := 91) hC dX13_print_91 g38 g37 (fun x39 hx39 => ?_)
      replace h := lt_x hx39 h
      refine x_istore (pc := 92) hC dX13_print_92 (by decide) (by decide) rfl ?_
      refine x_iload_n (pc := 94) hC 3 dX13_print_94 rfl rfl ?_
      refine x_iload (pc := 95) hC 0 dX13_print_95 rfl ?_
      refine x_iaddv (pc := 97) hC dX13_print_97 (fun x40 hx40 => ?_)
      replace h := lt_x hx40 h
      refine x_istore_n (pc := 98) hC dX13_print_98 rfl (by decide) (by decide) rfl ?_
      obtain ⟨x41, hx41⟩ : ∃ z, z = (a6 + Int32.ofInt (1)) := ⟨_, rfl⟩
      replace h := lt_x hx41 h
      refine x_iinc (pc := 99) hC 6 dX13_print_99 rfl hx41.symm (by decide) (by decide) rfl ?_
      refine x_goto (pc := 102) hC 80 dX13_print_102 (by decide) ?_
      refine x_pick [3, 4, 1, 5, 6, 0] rfl ?_
      exact ih _ _ _ _ _ _ _ h
def f_X13_print_56 (rc21 : mS → Nat → Int64 → Nat → Int32 → Int32 → Option (Rs Int64)) (S : mS) (a0 : Nat) (a3 : Nat) (a4 : Int32) (a5 : Int32) (s0 : Int64) (s1 : Int64) : Option (Rs Int64) :=
  lt9 (s0 + s1) fun x1 => lt9 (a5 + Int32.ofInt (1)) fun x2 => rc21 S a0 x1 a3 a4 x2
set_option maxHeartbeats 2000000 in
set_option maxRecDepth 100000 in
theorem t_X13_print_56 {l : Launch} (hls : l.stackTraces = false) {C : cT} (hC : CX C cX13_print 9 yX13_print rm_X13_print) (hl : C.2.1 = l) {S0 : mS} (hE : CE C S0 (Option.some Jvm.ClassFile.FieldType.long) []) {o : Rs Int64} {rc21 : mS → Nat → Int64 → Nat → Int32 → Int32 → Option (Rs Int64)} (hrc21 : ∀ (S : mS) (a0 : Nat) (a1 : Int64) (a3 : Nat) (a4 : Int32) (a5 : Int32), rc21 S a0 a1 a3 a4 a5 = some o → XX C 9 (QQ C (fun r : Int64 => some (.long r)) S0 o) (0) (0) S 21 [(0, .ref a0), (1, .long a1), (3, .ref a3), (4, .int a4), (5, .int a5)] []) {S : mS} {a0 : Nat} {a3 : Nat} {a4 : Int32} {a5 : Int32} {s0 : Int64} {s1 : Int64} (h : f_X13_print_56 rc21 S a0 a3 a4 a5 s0 s1 = some o) : XX C 9 (QQ C (fun r : Int64 => some (.long r)) S0 o) (0) (0) S 56 [(0, .ref a0), (3, .ref a3), (4, .int a4), (5, .int a5)] [.long s1, .long s0] := by
  unfold f_X13_print_56 at h
  refine x_laddv (pc := 56) hC dX13_print_56 (fun x1 hx1 => ?_)
  replace h := lt_x hx1 h
  refine x_lstore_n (pc := 57) hC dX13_print_57 rfl (by decide) (by decide) rfl ?_
  obtain ⟨x2, hx2⟩ : ∃ z, z = (a5 + Int32.ofInt (1)) := ⟨_, rfl⟩
  replace h := lt_x hx2 h
  refine x_iinc (pc := 58) hC 4 dX13_print_58 rfl hx2.symm (by decide) (by decide) rfl ?_
  refine x_goto (pc := 61) hC 21 dX13_print_61 (by decide) ?_
  refine x_pick [2, 1, 3, 4, 0] rfl ?_
  exact hrc21 _ _ _ _ _ _ h
def f_X13_print_21  : Nat → mS → Nat → Int64 → Nat → Int32 → Int32 → Option (Rs Int64)
  | 0, _, _, _, _, _, _ => none
  | k + 1, S, a0, a1, a3, a4, a5 => if a4 ≤ a5 then (gd (gK S a0 = 19) (lt9 (gR S a0 3) fun r2 => gd (gK S r2 = 30) (lt9 (Int32.ofNat (gZ S r2)) fun x4 => f_X13_print_80  16 S a0 a1 (0 : Int32) r2 x4 (0 : Int32)))) else (gd (gK S a3 = 37) (gd (¬ (a5 < 0 ∨ gZ S a3 ≤ (a5).toNatClampNeg)) (lt9 (gR S a3 (a5).toNatClampNeg) fun r8 => lt9 ((31 : Int64) * a1) fun x9 => gd (gK S r8 = 17) (lt9 (gR S r8 0) fun r11 => if r11 = 0 then (f_X13_print_56 (f_X13_print_21 k) S a0 a3 a4 a5 x9 (0 : Int64)) else (lt9 (gL S r8 9) fun x12 => f_X13_print_56 (f_X13_print_21 k) S a0 a3 a4 a5 x9 x12)))))
set_option maxHeartbeats 2000000 in
set_option maxRecDepth 100000 in
theorem t_X13_print_21 {l : Launch} (hls : l.stackTraces = false) {C : cT} (hC : CX C cX13_print 9 yX13_print rm_X13_print) (hl : C.2.1 = l) {S0 : mS} (hE : CE C S0 (Option.some Jvm.ClassFile.FieldType.long) []) {o : Rs Int64} : ∀ (k : Nat) (S : mS) (a0 : Nat) (a1 : Int64) (a3 : Nat) (a4 : Int32) (a5 : Int32), f_X13_print_21  k S a0 a1 a3 a4 a5 = some o → XX C 9 (QQ C (fun r : Int64 => some (.long r)) S0 o) (0) (0) S 21 [(0, .ref a0), (1, .long a1), (3, .ref a3), (4, .int a4), (5, .int a5)] [] := by
  intro k
  induction k with
  | zero => intro S a0 a1 a3 a4 a5 h; cases h
  | succ k ih =>
    intro S a0 a1 a3 a4 a5 h
    unfold f_X13_print_21 at h
    refine x_iload (pc := 21) hC 4 dX13_print_21 rfl ?_
    refine x_iload (pc := 23) hC 3 dX13_print_23 rfl ?_
    refine x_icmp_ge (pc := 25) hC 64 dX13_print_25 (by decide) (fun c14 => ?_) (fun c14 => ?_)
    · rw [if_pos c14] at h
      refine x_iconst (pc := 64) (v := (0 : Int32)) hC dX13_print_64 (by decide) ?_
      refine x_istore_n (pc := 65) hC dX13_print_65 rfl (by decide) (by decide) rfl ?_
      refine x_aload_n (pc := 66) hC 1 dX13_print_66 rfl rfl ?_
      obtain ⟨g1, h⟩ := gd_some h
      refine x_getRv (pc := 67) (k := 3) hC fc_19 fl_RX13_23 dX13_print_67 rfl g1 (fun r2 hr2 => ?_)
      replace h := lt_x hr2 h
      refine x_astore (pc := 70) hC dX13_print_70 (by decide) (by decide) rfl ?_
      refine x_aload (pc := 72) hC 0 dX13_print_72 rfl ?_
      obtain ⟨g3, h⟩ := gd_some h
      refine x_alenv (pc := 74) (t0 := 0) hC dX13_print_74 g3 (by decide) (fun _ => rfl) (fun x4 hx4 => ?_)
      replace h := lt_x hx4 h
      refine x_istore (pc := 75) hC dX13_print_75 (by decide) (by decide) rfl ?_
      refine x_iconst (pc := 77) (v := (0 : Int32)) hC dX13_print_77 (by decide) ?_
      refine x_istore (pc := 78) hC dX13_print_78 (by decide) (by decide) rfl ?_
      refine x_pick [4, 5, 3, 2, 1, 0] rfl ?_
      exact t_X13_print_80 hls hC hl hE 16 _ _ _ _ _ _ _ h
    · rw [if_neg c14] at h
      refine x_aload_n (pc := 28) hC 2 dX13_print_28 rfl rfl ?_
      refine x_iload (pc := 29) hC 4 dX13_print_29 rfl ?_
      obtain ⟨g7, h⟩ := gd_some h
      obtain ⟨g6, h⟩ := gd_some h
      refine x_raldv (pc := 31) (t0 := 7) hC dX13_print_31 g7 (by decide) (fun _ => rfl) g6 (fun r8 hr8 => ?_)
      replace h := lt_x hr8 h
      refine x_astore (pc := 32) hC dX13_print_32 (by decide) (by decide) rfl ?_
      refine x_ldc2 (pc := 34) hC wm_2643 dX13_print_34 ?_
      refine x_lload_n (pc := 37) hC 2 dX13_print_37 rfl rfl ?_
      refine x_lmulv (pc := 38) hC dX13_print_38 (fun x9 hx9 => ?_)
      replace h := lt_x hx9 h
      refine x_aload (pc := 39) hC 0 dX13_print_39 rfl ?_
      obtain ⟨g10, h⟩ := gd_some h
      refine x_getRv (pc := 41) (k := 0) hC fc_17 fl_RX13_60 dX13_print_41 rfl g10 (fun r11 hr11 => ?_)
      replace h := lt_x hr11 h
      refine x_ifnonnull (pc := 44) hC 51 dX13_print_44 (by decide) (fun c13 => ?_) (fun c13 => ?_)
      · rw [if_neg c13] at h
        refine x_aload (pc := 51) hC 0 dX13_print_51 rfl ?_
        refine x_getLv (pc := 53) (k := 9) hC fc_17 fl_RX13_163 dX13_print_53 rfl g10 (fun x12 hx12 => ?_)
        replace h := lt_x hx12 h
        refine x_pick [1, 3, 4, 5] rfl ?_
        exact t_X13_print_56 hls hC hl hE (fun z0 z1 z2 z3 z4 z5 hz => ih z0 z1 z2 z3 z4 z5 hz) h
      · rw [if_pos c13] at h
        refine x_lconst (pc := 47) (v := (0 : Int64)) hC dX13_print_47 (by decide) ?_
        refine x_goto (pc := 48) hC 56 dX13_print_48 (by decide) ?_
        refine x_pick [1, 3, 4, 5] rfl ?_
        exact t_X13_print_56 hls hC hl hE (fun z0 z1 z2 z3 z4 z5 hz => ih z0 z1 z2 z3 z4 z5 hz) h
def f_X13_print (S : mS) (a0 : Nat) : Option (Rs Int64) :=
  gd (gK S a0 = 19) (zI (sI S a0 0 (0 : Int32)) fun S2 => lt9 (gR S2 a0 2) fun r4 => gd (gK S2 r4 = 37) (lt9 (Int32.ofNat (gZ S2 r4)) fun x6 => f_X13_print_21  16 S2 a0 (7 : Int64) r4 x6 (0 : Int32)))
set_option maxHeartbeats 2000000 in
set_option maxRecDepth 100000 in
theorem t_X13_print {l : Launch} (hls : l.stackTraces = false) {C : cT} (hC : CX C cX13_print 9 yX13_print rm_X13_print) (hl : C.2.1 = l) {S0 : mS} (hE : CE C S0 (Option.some Jvm.ClassFile.FieldType.long) []) {o : Rs Int64} {S : mS} {a0 : Nat} (h : f_X13_print S a0 = some o) : XX C 9 (QQ C (fun r : Int64 => some (.long r)) S0 o) 0 0 S 0 [(0, .ref a0)] [] := by
  unfold f_X13_print at h
  refine x_aload_n (pc := 0) hC 0 dX13_print_0 rfl rfl ?_
  refine x_iconst (pc := 1) (v := (0 : Int32)) hC dX13_print_1 (by decide) ?_
  obtain ⟨g1, h⟩ := gd_some h
  refine x_putIv (pc := 2) (k := 0) hC fc_19 fl_RX13_46 dX13_print_2 rfl rfl (nf_int _) g1 (fun S2 hS2 => ?_)
  replace h := zI_x hS2 h
  have g3 : gK S2 a0 = 19 := by rw [hS2]; exact g1
  refine x_ldc2 (pc := 5) hC wm_2642 dX13_print_5 ?_
  refine x_lstore_n (pc := 8) hC dX13_print_8 rfl (by decide) (by decide) rfl ?_
  refine x_aload_n (pc := 9) hC 1 dX13_print_9 rfl rfl ?_
  refine x_getRv (pc := 10) (k := 2) hC fc_19 fl_RX13_19 dX13_print_10 rfl g3 (fun r4 hr4 => ?_)
  replace h := lt_x hr4 h
  refine x_astore_n (pc := 13) hC dX13_print_13 rfl (by decide) (by decide) rfl ?_
  refine x_aload_n (pc := 14) hC 0 dX13_print_14 rfl rfl ?_
  obtain ⟨g5, h⟩ := gd_some h
  refine x_alenv (pc := 15) (t0 := 7) hC dX13_print_15 g5 (by decide) (fun _ => rfl) (fun x6 hx6 => ?_)
  replace h := lt_x hx6 h
  refine x_istore (pc := 16) hC dX13_print_16 (by decide) (by decide) rfl ?_
  refine x_iconst (pc := 18) (v := (0 : Int32)) hC dX13_print_18 (by decide) ?_
  refine x_istore (pc := 19) hC dX13_print_19 (by decide) (by decide) rfl ?_
  refine x_pick [4, 3, 2, 1, 0] rfl ?_
  exact t_X13_print_21 hls hC hl hE 16 _ _ _ _ _ _ h
theorem c_X13_print (l : Launch) (hls : l.stackTraces = false) {S : mS} {a0 : Nat} {o : Rs Int64} (h : f_X13_print S a0 = some o) : CT (fun r : Int64 => some (.long r)) l yX13_print (.code yX13_print cX13_print 9 (Option.some Jvm.ClassFile.FieldType.long)) rm_X13_print S [.ref a0] o := ct_of (by decide +kernel) hls (Nat.le_of_ble_eq_true rfl) (fun C hl hC hE => t_X13_print hls hC hl hE h)
abbrev rm_X13_printAgain : Room := { frames := 9, cells := 1, slots := 6, locals := 178 }
def f_X13_printAgain (S : mS) (a0 : Nat) : Option (Rs Int64) :=
  gd (gK S a0 = 19) (bd (f_X13_print S a0) fun x2 S3 => some (.inl x2, S3))
set_option maxHeartbeats 2000000 in
set_option maxRecDepth 100000 in
theorem t_X13_printAgain {l : Launch} (hls : l.stackTraces = false) {C : cT} (hC : CX C cX13_printAgain 1 yX13_printAgain rm_X13_printAgain) (hl : C.2.1 = l) {S0 : mS} (hE : CE C S0 (Option.some Jvm.ClassFile.FieldType.long) []) {o : Rs Int64} {S : mS} {a0 : Nat} (h : f_X13_printAgain S a0 = some o) : XX C 1 (QQ C (fun r : Int64 => some (.long r)) S0 o) 0 0 S 0 [(0, .ref a0)] [] := by
  unfold f_X13_printAgain at h
  refine x_aload_n (pc := 0) hC 0 dX13_printAgain_0 rfl rfl ?_
  obtain ⟨g1, h⟩ := gd_some h
  obtain ⟨o4, ho4, h⟩ := bd_some h
  refine x_callV (pc := 1) (As := []) (rest := []) hC hl (c_X13_print l hls ho4) lk_RX13_418 fc_19 g1 dX13_printAgain_1 rfl rfl (Nat.le_of_ble_eq_true rfl) ⟨Nat.le_of_ble_eq_true rfl, Nat.le_of_ble_eq_true rfl⟩ ⟨(Nat.le_of_ble_eq_true rfl), (Nat.le_of_ble_eq_true rfl)⟩ ?_
  rcases o4 with ⟨x2 | E5, S3⟩
  · refine xk_j ?_
    replace h := bk_l h
    exact x_lreturn (pc := 4) hC hE dX13_printAgain_4 (so h) (Nat.le_of_ble_eq_true rfl) (Nat.le_of_ble_eq_true rfl)
  · exact xk_r (xt_out hC hE (bk_r h) (Nat.le_of_ble_eq_true rfl) (Nat.le_of_ble_eq_true rfl))
theorem c_X13_printAgain (l : Launch) (hls : l.stackTraces = false) {S : mS} {a0 : Nat} {o : Rs Int64} (h : f_X13_printAgain S a0 = some o) : CT (fun r : Int64 => some (.long r)) l yX13_printAgain (.code yX13_printAgain cX13_printAgain 1 (Option.some Jvm.ClassFile.FieldType.long)) rm_X13_printAgain S [.ref a0] o := ct_of (by decide +kernel) hls (Nat.le_of_ble_eq_true rfl) (fun C hl hC hE => t_X13_printAgain hls hC hl hE h)
abbrev rm_X13_silentShare : Room := { frames := 9, cells := 0, slots := 0, locals := 171 }
def f_X13_silentShare_34  (S : mS) (s0 : UInt32) : Option (Rs UInt32) :=
  some (.inl s0, S)
set_option maxHeartbeats 2000000 in
set_option maxRecDepth 100000 in
theorem t_X13_silentShare_34 {l : Launch} (hls : l.stackTraces = false) {C : cT} (hC : CX C cX13_silentShare 1 yX13_silentShare rm_X13_silentShare) (hl : C.2.1 = l) {S0 : mS} (hE : CE C S0 (Option.some Jvm.ClassFile.FieldType.float) []) {o : Rs UInt32} {S : mS} {s0 : UInt32} (h : f_X13_silentShare_34  S s0 = some o) : XX C 1 (QQ C (fun r : UInt32 => some (.float r)) S0 o) (0) (0) S 34 [] [.float s0] := by
  unfold f_X13_silentShare_34 at h
  exact x_freturn (pc := 34) hC hE dX13_silentShare_34 (so h) (Nat.le_of_ble_eq_true rfl) (Nat.le_of_ble_eq_true rfl)
def f_X13_silentShare_13  (S : mS) (a0 : Nat) (s0 : Nat) (s1 : Int32) : Option (Rs UInt32) :=
  gd (gK S s0 = 19) (bd (f_X13_isWrong S s0 s1) fun x2 S3 => if x2 = 0 then (gd (gK S3 a0 = 19) (lt9 (gI S3 a0 11) fun x7 => none)) else (f_X13_silentShare_34  S3 FP.fconst0))
set_option maxHeartbeats 2000000 in
set_option maxRecDepth 100000 in
theorem t_X13_silentShare_13 {l : Launch} (hls : l.stackTraces = false) {C : cT} (hC : CX C cX13_silentShare 1 yX13_silentShare rm_X13_silentShare) (hl : C.2.1 = l) {S0 : mS} (hE : CE C S0 (Option.some Jvm.ClassFile.FieldType.float) []) {o : Rs UInt32} {S : mS} {a0 : Nat} {s0 : Nat} {s1 : Int32} (h : f_X13_silentShare_13  S a0 s0 s1 = some o) : XX C 1 (QQ C (fun r : UInt32 => some (.float r)) S0 o) (0) (0) S 13 [(0, .ref a0)] [.int s1, .ref s0] := by
  unfold f_X13_silentShare_13 at h
  obtain ⟨g1, h⟩ := gd_some h
  obtain ⟨o4, ho4, h⟩ := bd_some h
  refine x_callV (pc := 13) (As := [.int s1]) (rest := []) hC hl (c_X13_isWrong l hls ho4) lk_RX13_68 fc_19 g1 dX13_silentShare_13 rfl rfl (Nat.le_of_ble_eq_true rfl) ⟨Nat.le_of_ble_eq_true rfl, Nat.le_of_ble_eq_true rfl⟩ ⟨(Nat.le_of_ble_eq_true rfl), (Nat.le_of_ble_eq_true rfl)⟩ ?_
  rcases o4 with ⟨x2 | E5, S3⟩
  · refine xk_i ?_
    replace h := bk_l h
    refine x_if_eq (pc := 16) hC 23 dX13_silentShare_16 (by decide) (fun c8 => ?_) (fun c8 => ?_)
    · rw [if_pos c8] at h
      refine x_aload_n (pc := 23) hC 0 dX13_silentShare_23 rfl rfl ?_
      obtain ⟨g6, h⟩ := gd_some h
      refine x_getIv (pc := 24) (k := 11) hC fc_19 fl_RX13_280 dX13_silentShare_24 rfl g6 (fun x7 hx7 => ?_)
      replace h := lt_x hx7 h
      cases h
    · rw [if_neg c8] at h
      refine x_fconst0 (pc := 19) hC dX13_silentShare_19 ?_
      refine x_goto (pc := 20) hC 34 dX13_silentShare_20 (by decide) ?_
      refine x_pick [] rfl ?_
      exact t_X13_silentShare_34 hls hC hl hE h
  · exact xk_r (xt_out hC hE (bk_r h) (Nat.le_of_ble_eq_true rfl) (Nat.le_of_ble_eq_true rfl))
def f_X13_silentShare (S : mS) (a0 : Nat) : Option (Rs UInt32) :=
  gd (gK S a0 = 19) (lt9 (gI S a0 9) fun x2 => if x2 = 0 then (f_X13_silentShare_13  S a0 a0 (1 : Int32)) else (f_X13_silentShare_13  S a0 a0 (0 : Int32)))
set_option maxHeartbeats 2000000 in
set_option maxRecDepth 100000 in
theorem t_X13_silentShare {l : Launch} (hls : l.stackTraces = false) {C : cT} (hC : CX C cX13_silentShare 1 yX13_silentShare rm_X13_silentShare) (hl : C.2.1 = l) {S0 : mS} (hE : CE C S0 (Option.some Jvm.ClassFile.FieldType.float) []) {o : Rs UInt32} {S : mS} {a0 : Nat} (h : f_X13_silentShare S a0 = some o) : XX C 1 (QQ C (fun r : UInt32 => some (.float r)) S0 o) 0 0 S 0 [(0, .ref a0)] [] := by
  unfold f_X13_silentShare at h
  refine x_aload_n (pc := 0) hC 0 dX13_silentShare_0 rfl rfl ?_
  refine x_aload_n (pc := 1) hC 0 dX13_silentShare_1 rfl rfl ?_
  obtain ⟨g1, h⟩ := gd_some h
  refine x_getIv (pc := 2) (k := 9) hC fc_19 fl_RX13_295 dX13_silentShare_2 rfl g1 (fun x2 hx2 => ?_)
  replace h := lt_x hx2 h
  refine x_if_ne (pc := 5) hC 12 dX13_silentShare_5 (by decide) (fun c3 => ?_) (fun c3 => ?_)
  · rw [if_neg c3] at h
    refine x_iconst (pc := 12) (v := (0 : Int32)) hC dX13_silentShare_12 (by decide) ?_
    refine x_pick [0] rfl ?_
    exact t_X13_silentShare_13 hls hC hl hE h
  · rw [if_pos c3] at h
    refine x_iconst (pc := 8) (v := (1 : Int32)) hC dX13_silentShare_8 (by decide) ?_
    refine x_goto (pc := 9) hC 13 dX13_silentShare_9 (by decide) ?_
    refine x_pick [0] rfl ?_
    exact t_X13_silentShare_13 hls hC hl hE h
theorem c_X13_silentShare (l : Launch) (hls : l.stackTraces = false) {S : mS} {a0 : Nat} {o : Rs UInt32} (h : f_X13_silentShare S a0 = some o) : CT (fun r : UInt32 => some (.float r)) l yX13_silentShare (.code yX13_silentShare cX13_silentShare 1 (Option.some Jvm.ClassFile.FieldType.float)) rm_X13_silentShare S [.ref a0] o := ct_of (by decide +kernel) hls (Nat.le_of_ble_eq_true rfl) (fun C hl hC hE => t_X13_silentShare hls hC hl hE h)
abbrev rm_X13_meanLoudness : Room := { frames := 9, cells := 0, slots := 0, locals := 171 }
def f_X13_meanLoudness_34  (S : mS) (s0 : UInt64) : Option (Rs UInt64) :=
  some (.inl s0, S)
set_option maxHeartbeats 2000000 in
set_option maxRecDepth 100000 in
theorem t_X13_meanLoudness_34 {l : Launch} (hls : l.stackTraces = false) {C : cT} (hC : CX C cX13_meanLoudness 1 yX13_meanLoudness rm_X13_meanLoudness) (hl : C.2.1 = l) {S0 : mS} (hE : CE C S0 (Option.some Jvm.ClassFile.FieldType.double) []) {o : Rs UInt64} {S : mS} {s0 : UInt64} (h : f_X13_meanLoudness_34  S s0 = some o) : XX C 1 (QQ C (fun r : UInt64 => some (.double r)) S0 o) (0) (0) S 34 [] [.double s0] := by
  unfold f_X13_meanLoudness_34 at h
  exact x_dreturn (pc := 34) hC hE dX13_meanLoudness_34 (so h) (Nat.le_of_ble_eq_true rfl) (Nat.le_of_ble_eq_true rfl)
def f_X13_meanLoudness_13  (S : mS) (a0 : Nat) (s0 : Nat) (s1 : Int32) : Option (Rs UInt64) :=
  gd (gK S s0 = 19) (bd (f_X13_isWrong S s0 s1) fun x2 S3 => if x2 = 0 then (gd (gK S3 a0 = 19) (lt9 (gL S3 a0 18) fun x7 => none)) else (f_X13_meanLoudness_34  S3 FP.dconst0))
set_option maxHeartbeats 2000000 in
set_option maxRecDepth 100000 in
theorem t_X13_meanLoudness_13 {l : Launch} (hls : l.stackTraces = false) {C : cT} (hC : CX C cX13_meanLoudness 1 yX13_meanLoudness rm_X13_meanLoudness) (hl : C.2.1 = l) {S0 : mS} (hE : CE C S0 (Option.some Jvm.ClassFile.FieldType.double) []) {o : Rs UInt64} {S : mS} {a0 : Nat} {s0 : Nat} {s1 : Int32} (h : f_X13_meanLoudness_13  S a0 s0 s1 = some o) : XX C 1 (QQ C (fun r : UInt64 => some (.double r)) S0 o) (0) (0) S 13 [(0, .ref a0)] [.int s1, .ref s0] := by
  unfold f_X13_meanLoudness_13 at h
  obtain ⟨g1, h⟩ := gd_some h
  obtain ⟨o4, ho4, h⟩ := bd_some h
  refine x_callV (pc := 13) (As := [.int s1]) (rest := []) hC hl (c_X13_isWrong l hls ho4) lk_RX13_68 fc_19 g1 dX13_meanLoudness_13 rfl rfl (Nat.le_of_ble_eq_true rfl) ⟨Nat.le_of_ble_eq_true rfl, Nat.le_of_ble_eq_true rfl⟩ ⟨(Nat.le_of_ble_eq_true rfl), (Nat.le_of_ble_eq_true rfl)⟩ ?_
  rcases o4 with ⟨x2 | E5, S3⟩
  · refine xk_i ?_
    replace h := bk_l h
    refine x_if_eq (pc := 16) hC 23 dX13_meanLoudness_16 (by decide) (fun c8 => ?_) (fun c8 => ?_)
    · rw [if_pos c8] at h
      refine x_aload_n (pc := 23) hC 0 dX13_meanLoudness_23 rfl rfl ?_
      obtain ⟨g6, h⟩ := gd_some h
      refine x_getLv (pc := 24) (k := 18) hC fc_19 fl_RX13_289 dX13_meanLoudness_24 rfl g6 (fun x7 hx7 => ?_)
      replace h := lt_x hx7 h
      cases h
    · rw [if_neg c8] at h
      refine x_dconst0 (pc := 19) hC dX13_meanLoudness_19 ?_
      refine x_goto (pc := 20) hC 34 dX13_meanLoudness_20 (by decide) ?_
      refine x_pick [] rfl ?_
      exact t_X13_meanLoudness_34 hls hC hl hE h
  · exact xk_r (xt_out hC hE (bk_r h) (Nat.le_of_ble_eq_true rfl) (Nat.le_of_ble_eq_true rfl))
def f_X13_meanLoudness (S : mS) (a0 : Nat) : Option (Rs UInt64) :=
  gd (gK S a0 = 19) (lt9 (gI S a0 9) fun x2 => if x2 = 0 then (f_X13_meanLoudness_13  S a0 a0 (1 : Int32)) else (f_X13_meanLoudness_13  S a0 a0 (0 : Int32)))
set_option maxHeartbeats 2000000 in
set_option maxRecDepth 100000 in
theorem t_X13_meanLoudness {l : Launch} (hls : l.stackTraces = false) {C : cT} (hC : CX C cX13_meanLoudness 1 yX13_meanLoudness rm_X13_meanLoudness) (hl : C.2.1 = l) {S0 : mS} (hE : CE C S0 (Option.some Jvm.ClassFile.FieldType.double) []) {o : Rs UInt64} {S : mS} {a0 : Nat} (h : f_X13_meanLoudness S a0 = some o) : XX C 1 (QQ C (fun r : UInt64 => some (.double r)) S0 o) 0 0 S 0 [(0, .ref a0)] [] := by
  unfold f_X13_meanLoudness at h
  refine x_aload_n (pc := 0) hC 0 dX13_meanLoudness_0 rfl rfl ?_
  refine x_aload_n (pc := 1) hC 0 dX13_meanLoudness_1 rfl rfl ?_
  obtain ⟨g1, h⟩ := gd_some h
  refine x_getIv (pc := 2) (k := 9) hC fc_19 fl_RX13_295 dX13_meanLoudness_2 rfl g1 (fun x2 hx2 => ?_)
  replace h := lt_x hx2 h
  refine x_if_ne (pc := 5) hC 12 dX13_meanLoudness_5 (by decide) (fun c3 => ?_) (fun c3 => ?_)
  · rw [if_neg c3] at h
    refine x_iconst (pc := 12) (v := (0 : Int32)) hC dX13_meanLoudness_12 (by decide) ?_
    refine x_pick [0] rfl ?_
    exact t_X13_meanLoudness_13 hls hC hl hE h
  · rw [if_pos c3] at h
    refine x_iconst (pc := 8) (v := (1 : Int32)) hC dX13_meanLoudness_8 (by decide) ?_
    refine x_goto (pc := 9) hC 13 dX13_meanLoudness_9 (by decide) ?_
    refine x_pick [0] rfl ?_
    exact t_X13_meanLoudness_13 hls hC hl hE h
theorem c_X13_meanLoudness (l : Launch) (hls : l.stackTraces = false) {S : mS} {a0 : Nat} {o : Rs UInt64} (h : f_X13_meanLoudness S a0 = some o) : CT (fun r : UInt64 => some (.double r)) l yX13_meanLoudness (.code yX13_meanLoudness cX13_meanLoudness 1 (Option.some Jvm.ClassFile.FieldType.double)) rm_X13_meanLoudness S [.ref a0] o := ct_of (by decide +kernel) hls (Nat.le_of_ble_eq_true rfl) (fun C hl hC hE => t_X13_meanLoudness hls hC hl hE h)
abbrev rm_X13_isSound : Room := { frames := 8, cells := 0, slots := 0, locals := 150 }
def f_X13_isSound (S : mS) (a0 : Nat) : Option (Rs Int32) :=
  gd (gK S a0 = 19) (zI (sI S a0 0 (0 : Int32)) fun S2 => some (.inl (1 : Int32), S2))
set_option maxHeartbeats 2000000 in
set_option maxRecDepth 100000 in
theorem t_X13_isSound {l : Launch} (hls : l.stackTraces = false) {C : cT} (hC : CX C cX13_isSound 1 yX13_isSound rm_X13_isSound) (hl : C.2.1 = l) {S0 : mS} (hE : CE C S0 (Option.some Jvm.ClassFile.FieldType.boolean) []) {o : Rs Int32} {S : mS} {a0 : Nat} (h : f_X13_isSound S a0 = some o) : XX C 1 (QQ C (fun r : Int32 => some (.int r)) S0 o) 0 0 S 0 [(0, .ref a0)] [] := by
  unfold f_X13_isSound at h
  refine x_aload_n (pc := 0) hC 0 dX13_isSound_0 rfl rfl ?_
  refine x_iconst (pc := 1) (v := (0 : Int32)) hC dX13_isSound_1 (by decide) ?_
  obtain ⟨g1, h⟩ := gd_some h
  refine x_putIv (pc := 2) (k := 0) hC fc_19 fl_RX13_46 dX13_isSound_2 rfl rfl (nf_int _) g1 (fun S2 hS2 => ?_)
  replace h := zI_x hS2 h
  have g3 : gK S2 a0 = 19 := by rw [hS2]; exact g1
  refine x_iconst (pc := 5) (v := (1 : Int32)) hC dX13_isSound_5 (by decide) ?_
  exact x_zreturn (pc := 6) hC hE dX13_isSound_6 (show NF .boolean _ from ⟨rfl, rfl⟩).1 (so h) (Nat.le_of_ble_eq_true rfl) (Nat.le_of_ble_eq_true rfl)
theorem c_X13_isSound (l : Launch) (hls : l.stackTraces = false) {S : mS} {a0 : Nat} {o : Rs Int32} (h : f_X13_isSound S a0 = some o) : CT (fun r : Int32 => some (.int r)) l yX13_isSound (.code yX13_isSound cX13_isSound 1 (Option.some Jvm.ClassFile.FieldType.boolean)) rm_X13_isSound S [.ref a0] o := ct_of (by decide +kernel) hls (Nat.le_of_ble_eq_true rfl) (fun C hl hC hE => t_X13_isSound hls hC hl hE h)
end P23MODEL
