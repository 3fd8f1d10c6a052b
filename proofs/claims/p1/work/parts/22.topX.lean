section P22TOPX
abbrev rm_X10_init : Room := { frames := 12, cells := 469, slots := 6873, locals := 232 }
def f_X10_init (S : mS) (a0 : Nat) : Option (Rs Unit) :=
  gd (gK S a0 = 16) (gd (gN S + 1 < KB) (zW (sW S 14 0) fun S3 => lt9 (gN S + 1) fun r4 => bd (f_X8_init S3 r4) fun _ S7 => gd (gK S7 a0 = 16) (zR (sR S7 a0 0 r4) fun S11 => gd (gN S11 + 1 < KB) (zW (sW S11 14 0) fun S14 => lt9 (gN S11 + 1) fun r15 => bd (f_X8_init S14 r15) fun _ S18 => gd (gK S18 a0 = 16) (zR (sR S18 a0 1 r15) fun S22 => gd (gN S22 + 1 < KB) (zW (sW S22 12 0) fun S25 => lt9 (gN S22 + 1) fun r26 => bd (f_X6_init S25 r26) fun _ S29 => gd (gK S29 a0 = 16) (zR (sR S29 a0 2 r26) fun S33 => gd (gN S33 + 1 < KB) (zW (sW S33 13 0) fun S36 => lt9 (gN S33 + 1) fun r37 => bd (f_X7_init S36 r37) fun _ S40 => gd (gK S40 a0 = 16) (zR (sR S40 a0 3 r37) fun S44 => gd (gN S44 + 1 < KB) (zW (sW S44 15 0) fun S47 => lt9 (gN S44 + 1) fun r48 => gd (gK S47 a0 = 16) (lt9 (gR S47 a0 0) fun r51 => bd (f_X9_init S47 r48 r51) fun _ S53 => gd (gK S53 a0 = 16) (zR (sR S53 a0 4 r48) fun S57 => some (.inl (), S57)))))))))))))
set_option maxHeartbeats 2000000 in
set_option maxRecDepth 100000 in
theorem t_X10_init {l : Launch} (hls : l.stackTraces = false) {C : cT} (hC : CX C cX10_init 1 yX10_init rm_X10_init) (hl : C.2.1 = l) {S0 : mS} (hE : CE C S0 (Option.none : Option Jvm.ClassFile.FieldType) []) {o : Rs Unit} {S : mS} {a0 : Nat} (h : f_X10_init S a0 = some o) : XX C 1 (QQ C (fun _ : Unit => none) S0 o) 0 0 S 0 [(0, .ref a0)] [] := by
  unfold f_X10_init at h
  refine x_aload_n (pc := 0) hC 0 dX10_init_0 rfl rfl ?_
  obtain ⟨g1, h⟩ := gd_some h
  refine x_objInit (pc := 1) hC wm_93 wm_94 wm_95 dX10_init_1 (by rw [g1]; decide) (Nat.le_of_ble_eq_true rfl) (Nat.le_of_ble_eq_true rfl) ?_
  refine x_aload_n (pc := 4) hC 0 dX10_init_4 rfl rfl ?_
  obtain ⟨g2, h⟩ := gd_some h
  refine x_newv (pc := 5) hC fc_14 fn_14 wm_96 wm_97 wm_47 dX10_init_5 g2 (Nat.le_of_ble_eq_true rfl) (Nat.le_of_ble_eq_true rfl) (fun S3 r4 hS3 hr4 => ?_)
  replace h := zW_x hS3 h
  replace h := lt_x hr4 h
  have g5 : gK S3 r4 = 14 := by rw [hr4, hS3]; exact sW_K
  refine x_dup (pc := 8) hC dX10_init_8 rfl ?_
  obtain ⟨o8, ho8, h⟩ := bd_some h
  refine x_callI (pc := 9) (As := []) (rest := [.ref r4, .ref a0]) hC hl (c_X8_init l hls ho8) lk_RX10_9 (by rw [g5]; decide) dX10_init_9 rfl rfl (Nat.le_of_ble_eq_true rfl) ⟨Nat.le_of_ble_eq_true rfl, Nat.le_of_ble_eq_true rfl⟩ ⟨(Nat.le_of_ble_eq_true rfl), (Nat.le_of_ble_eq_true rfl)⟩ ?_
  rcases o8 with ⟨_ | E9, S7⟩
  · refine xk_v ?_
    replace h := bk_l h
    obtain ⟨g10, h⟩ := gd_some h
    refine x_putRFv (pc := 12) (k := 0) hC fc_16 wm_421 rfl dX10_init_12 rfl rfl rfl rfl (Or.inl ⟨_, rfl⟩) g10 (fun S11 hS11 => ?_)
    replace h := zR_x hS11 h
    have g12 : gK S11 a0 = 16 := by rw [hS11]; exact g10
    refine x_aload_n (pc := 15) hC 0 dX10_init_15 rfl rfl ?_
    obtain ⟨g13, h⟩ := gd_some h
    refine x_newv (pc := 16) hC fc_14 fn_14 wm_96 wm_97 wm_47 dX10_init_16 g13 (Nat.le_of_ble_eq_true rfl) (Nat.le_of_ble_eq_true rfl) (fun S14 r15 hS14 hr15 => ?_)
    replace h := zW_x hS14 h
    replace h := lt_x hr15 h
    have g16 : gK S14 r15 = 14 := by rw [hr15, hS14]; exact sW_K
    refine x_dup (pc := 19) hC dX10_init_19 rfl ?_
    obtain ⟨o19, ho19, h⟩ := bd_some h
    refine x_callI (pc := 20) (As := []) (rest := [.ref r15, .ref a0]) hC hl (c_X8_init l hls ho19) lk_RX10_9 (by rw [g16]; decide) dX10_init_20 rfl rfl (Nat.le_of_ble_eq_true rfl) ⟨Nat.le_of_ble_eq_true rfl, Nat.le_of_ble_eq_true rfl⟩ ⟨(Nat.le_of_ble_eq_true rfl), (Nat.le_of_ble_eq_true rfl)⟩ ?_
    rcases o19 with ⟨_ | E20, S18⟩
    · refine xk_v ?_
      replace h := bk_l h
      obtain ⟨g21, h⟩ := gd_some h
      refine x_putRFv (pc := 23) (k := 1) hC fc_16 wm_422 rfl dX10_init_23 rfl rfl rfl rfl (Or.inl ⟨_, rfl⟩) g21 (fun S22 hS22 => ?_)
      replace h := zR_x hS22 h
      have g23 : gK S22 a0 = 16 := by rw [hS22]; exact g21
      refine x_aload_n (pc := 26) hC 0 dX10_init_26 rfl rfl ?_
      obtain ⟨g24, h⟩ := gd_some h
      refine x_newv (pc := 27) hC fc_12 fn_12 wm_340 wm_341 wm_54 dX10_init_27 g24 (Nat.le_of_ble_eq_true rfl) (Nat.le_of_ble_eq_true rfl) (fun S25 r26 hS25 hr26 => ?_)
      replace h := zW_x hS25 h
      replace h := lt_x hr26 h
      have g27 : gK S25 r26 = 12 := by rw [hr26, hS25]; exact sW_K
      refine x_dup (pc := 30) hC dX10_init_30 rfl ?_
      obtain ⟨o30, ho30, h⟩ := bd_some h
      refine x_callI (pc := 31) (As := []) (rest := [.ref r26, .ref a0]) hC hl (c_X6_init l hls ho30) lk_RX10_21 (by rw [g27]; decide) dX10_init_31 rfl rfl (Nat.le_of_ble_eq_true rfl) ⟨Nat.le_of_ble_eq_true rfl, Nat.le_of_ble_eq_true rfl⟩ ⟨(Nat.le_of_ble_eq_true rfl), (Nat.le_of_ble_eq_true rfl)⟩ ?_
      rcases o30 with ⟨_ | E31, S29⟩
      · refine xk_v ?_
        replace h := bk_l h
        obtain ⟨g32, h⟩ := gd_some h
        refine x_putRFv (pc := 34) (k := 2) hC fc_16 wm_423 rfl dX10_init_34 rfl rfl rfl rfl (Or.inl ⟨_, rfl⟩) g32 (fun S33 hS33 => ?_)
        replace h := zR_x hS33 h
        have g34 : gK S33 a0 = 16 := by rw [hS33]; exact g32
        refine x_aload_n (pc := 37) hC 0 dX10_init_37 rfl rfl ?_
        obtain ⟨g35, h⟩ := gd_some h
        refine x_newv (pc := 38) hC fc_13 fn_13 wm_365 wm_366 wm_55 dX10_init_38 g35 (Nat.le_of_ble_eq_true rfl) (Nat.le_of_ble_eq_true rfl) (fun S36 r37 hS36 hr37 => ?_)
        replace h := zW_x hS36 h
        replace h := lt_x hr37 h
        have g38 : gK S36 r37 = 13 := by rw [hr37, hS36]; exact sW_K
        refine x_dup (pc := 41) hC dX10_init_41 rfl ?_
        obtain ⟨o41, ho41, h⟩ := bd_some h
        refine x_callI (pc := 42) (As := []) (rest := [.ref r37, .ref a0]) hC hl (c_X7_init l hls ho41) lk_RX10_28 (by rw [g38]; decide) dX10_init_42 rfl rfl (Nat.le_of_ble_eq_true rfl) ⟨Nat.le_of_ble_eq_true rfl, Nat.le_of_ble_eq_true rfl⟩ ⟨(Nat.le_of_ble_eq_true rfl), (Nat.le_of_ble_eq_true rfl)⟩ ?_
        rcases o41 with ⟨_ | E42, S40⟩
        · refine xk_v ?_
          replace h := bk_l h
          obtain ⟨g43, h⟩ := gd_some h
          refine x_putRFv (pc := 45) (k := 3) hC fc_16 wm_424 rfl dX10_init_45 rfl rfl rfl rfl (Or.inl ⟨_, rfl⟩) g43 (fun S44 hS44 => ?_)
          replace h := zR_x hS44 h
          have g45 : gK S44 a0 = 16 := by rw [hS44]; exact g43
          refine x_aload_n (pc := 48) hC 0 dX10_init_48 rfl rfl ?_
          obtain ⟨g46, h⟩ := gd_some h
          refine x_newv (pc := 49) hC fc_15 fn_15 wm_395 wm_396 wm_56 dX10_init_49 g46 (Nat.le_of_ble_eq_true rfl) (Nat.le_of_ble_eq_true rfl) (fun S47 r48 hS47 hr48 => ?_)
          replace h := zW_x hS47 h
          replace h := lt_x hr48 h
          have g49 : gK S47 r48 = 15 := by rw [hr48, hS47]; exact sW_K
          refine x_dup (pc := 52) hC dX10_init_52 rfl ?_
          refine x_aload_n (pc := 53) hC 0 dX10_init_53 rfl rfl ?_
          obtain ⟨g50, h⟩ := gd_some h
          refine x_getRv (pc := 54) (k := 0) hC fc_16 fl_RX10_10 dX10_init_54 rfl g50 (fun r51 hr51 => ?_)
          replace h := lt_x hr51 h
          obtain ⟨o54, ho54, h⟩ := bd_some h
          refine x_callI (pc := 57) (As := [.ref r51]) (rest := [.ref r48, .ref a0]) hC hl (c_X9_init l hls ho54) lk_RX10_35 (by rw [g49]; decide) dX10_init_57 rfl rfl (Nat.le_of_ble_eq_true rfl) ⟨Nat.le_of_ble_eq_true rfl, Nat.le_of_ble_eq_true rfl⟩ ⟨(Nat.le_of_ble_eq_true rfl), (Nat.le_of_ble_eq_true rfl)⟩ ?_
          rcases o54 with ⟨_ | E55, S53⟩
          · refine xk_v ?_
            replace h := bk_l h
            obtain ⟨g56, h⟩ := gd_some h
            refine x_putRFv (pc := 60) (k := 4) hC fc_16 wm_425 rfl dX10_init_60 rfl rfl rfl rfl (Or.inl ⟨_, rfl⟩) g56 (fun S57 hS57 => ?_)
            replace h := zR_x hS57 h
            have g58 : gK S57 a0 = 16 := by rw [hS57]; exact g56
            exact x_vreturn (pc := 63) hC hE dX10_init_63 (so h) (Nat.le_of_ble_eq_true rfl) (Nat.le_of_ble_eq_true rfl)
          · exact xk_r (xt_out hC hE (bk_r h) (Nat.le_of_ble_eq_true rfl) (Nat.le_of_ble_eq_true rfl))
        · exact xk_r (xt_out hC hE (bk_r h) (Nat.le_of_ble_eq_true rfl) (Nat.le_of_ble_eq_true rfl))
      · exact xk_r (xt_out hC hE (bk_r h) (Nat.le_of_ble_eq_true rfl) (Nat.le_of_ble_eq_true rfl))
    · exact xk_r (xt_out hC hE (bk_r h) (Nat.le_of_ble_eq_true rfl) (Nat.le_of_ble_eq_true rfl))
  · exact xk_r (xt_out hC hE (bk_r h) (Nat.le_of_ble_eq_true rfl) (Nat.le_of_ble_eq_true rfl))
theorem c_X10_init (l : Launch) (hls : l.stackTraces = false) {S : mS} {a0 : Nat} {o : Rs Unit} (h : f_X10_init S a0 = some o) : CT (fun _ : Unit => none) l yX10_init (.code yX10_init cX10_init 1 (Option.none : Option Jvm.ClassFile.FieldType)) rm_X10_init S [.ref a0] o := ct_of (by decide +kernel) hls (Nat.le_of_ble_eq_true rfl) (fun C hl hC hE => t_X10_init hls hC hl hE h)
abbrev rm_X10_demand : Room := { frames := 8, cells := 1, slots := 6, locals := 150 }
def f_X10_demand (S : mS) (a0 : Int32) : Option (Rs Unit) :=
  if a0 = 0 then (some (.inr "java/lang/IllegalArgumentException", S)) else (some (.inl (), S))
set_option maxHeartbeats 2000000 in
set_option maxRecDepth 100000 in
theorem t_X10_demand {l : Launch} (hls : l.stackTraces = false) {C : cT} (hC : CX C cX10_demand 1 yX10_demand rm_X10_demand) (hl : C.2.1 = l) {S0 : mS} (hE : CE C S0 (Option.none : Option Jvm.ClassFile.FieldType) []) {o : Rs Unit} {S : mS} {a0 : Int32} (h : f_X10_demand S a0 = some o) : XX C 1 (QQ C (fun _ : Unit => none) S0 o) 0 0 S 0 [(0, .int a0)] [] := by
  unfold f_X10_demand at h
  refine x_iload_n (pc := 0) hC 0 dX10_demand_0 rfl rfl ?_
  refine x_if_ne (pc := 1) hC 15 dX10_demand_1 (by decide) (fun c1 => ?_) (fun c1 => ?_)
  · rw [if_neg c1] at h
    exact x_vreturn (pc := 15) hC hE dX10_demand_15 (so h) (Nat.le_of_ble_eq_true rfl) (Nat.le_of_ble_eq_true rfl)
  · rw [if_pos c1] at h
    exact x_throwSW (pc := 4) hC hE th_RX10_356_360_421 dX10_demand_4 dX10_demand_7 dX10_demand_8 dX10_demand_11 dX10_demand_14 (so h) (Nat.le_of_ble_eq_true rfl) (Nat.le_of_ble_eq_true rfl) (Nat.le_of_ble_eq_true rfl) (Nat.le_of_ble_eq_true rfl)
theorem c_X10_demand (l : Launch) (hls : l.stackTraces = false) {S : mS} {a0 : Int32} {o : Rs Unit} (h : f_X10_demand S a0 = some o) : CT (fun _ : Unit => none) l yX10_demand (.code yX10_demand cX10_demand 1 (Option.none : Option Jvm.ClassFile.FieldType)) rm_X10_demand S [.int a0] o := ct_of (by decide +kernel) hls (Nat.le_of_ble_eq_true rfl) (fun C hl hC hE => t_X10_demand hls hC hl hE h)
abbrev rm_X10_isIn : Room := { frames := 8, cells := 0, slots := 0, locals := 150 }
def f_X10_isIn_15  (S : mS) (s0 : Int32) : Option (Rs Int32) :=
  gd (s0 = 0 ∨ s0 = 1) (some (.inl s0, S))
set_option maxHeartbeats 2000000 in
set_option maxRecDepth 100000 in
theorem t_X10_isIn_15 {l : Launch} (hls : l.stackTraces = false) {C : cT} (hC : CX C cX10_isIn 3 yX10_isIn rm_X10_isIn) (hl : C.2.1 = l) {S0 : mS} (hE : CE C S0 (Option.some Jvm.ClassFile.FieldType.boolean) []) {o : Rs Int32} {S : mS} {s0 : Int32} (h : f_X10_isIn_15  S s0 = some o) : XX C 3 (QQ C (fun r : Int32 => some (.int r)) S0 o) (0) (0) S 15 [] [.int s0] := by
  unfold f_X10_isIn_15 at h
  obtain ⟨g1, h⟩ := gd_some h
  exact x_zreturn (pc := 15) hC hE dX10_isIn_15 (nf_B g1).1 (so h) (Nat.le_of_ble_eq_true rfl) (Nat.le_of_ble_eq_true rfl)
def f_X10_isIn_14  (S : mS) : Option (Rs Int32) :=
  f_X10_isIn_15  S (0 : Int32)
set_option maxHeartbeats 2000000 in
set_option maxRecDepth 100000 in
theorem t_X10_isIn_14 {l : Launch} (hls : l.stackTraces = false) {C : cT} (hC : CX C cX10_isIn 3 yX10_isIn rm_X10_isIn) (hl : C.2.1 = l) {S0 : mS} (hE : CE C S0 (Option.some Jvm.ClassFile.FieldType.boolean) []) {o : Rs Int32} {S : mS} (h : f_X10_isIn_14  S = some o) : XX C 3 (QQ C (fun r : Int32 => some (.int r)) S0 o) (0) (0) S 14 [] [] := by
  unfold f_X10_isIn_14 at h
  refine x_iconst (pc := 14) (v := (0 : Int32)) hC dX10_isIn_14 (by decide) ?_
  refine x_pick [] rfl ?_
  exact t_X10_isIn_15 hls hC hl hE h
def f_X10_isIn (S : mS) (a0 : Int32) (a1 : Int32) (a2 : Int32) : Option (Rs Int32) :=
  if a0 < a1 then (f_X10_isIn_14  S) else (if a2 < a0 then (f_X10_isIn_14  S) else (f_X10_isIn_15  S (1 : Int32)))
set_option maxHeartbeats 2000000 in
set_option maxRecDepth 100000 in
theorem t_X10_isIn {l : Launch} (hls : l.stackTraces = false) {C : cT} (hC : CX C cX10_isIn 3 yX10_isIn rm_X10_isIn) (hl : C.2.1 = l) {S0 : mS} (hE : CE C S0 (Option.some Jvm.ClassFile.FieldType.boolean) []) {o : Rs Int32} {S : mS} {a0 : Int32} {a1 : Int32} {a2 : Int32} (h : f_X10_isIn S a0 a1 a2 = some o) : XX C 3 (QQ C (fun r : Int32 => some (.int r)) S0 o) 0 0 S 0 [(0, .int a0), (1, .int a1), (2, .int a2)] [] := by
  unfold f_X10_isIn at h
  refine x_iload_n (pc := 0) hC 0 dX10_isIn_0 rfl rfl ?_
  refine x_iload_n (pc := 1) hC 1 dX10_isIn_1 rfl rfl ?_
  refine x_icmp_lt (pc := 2) hC 14 dX10_isIn_2 (by decide) (fun c2 => ?_) (fun c2 => ?_)
  · rw [if_pos c2] at h
    refine x_pick [] rfl ?_
    exact t_X10_isIn_14 hls hC hl hE h
  · rw [if_neg c2] at h
    refine x_iload_n (pc := 5) hC 0 dX10_isIn_5 rfl rfl ?_
    refine x_iload_n (pc := 6) hC 2 dX10_isIn_6 rfl rfl ?_
    refine x_icmp_gt (pc := 7) hC 14 dX10_isIn_7 (by decide) (fun c1 => ?_) (fun c1 => ?_)
    · rw [if_pos c1] at h
      refine x_pick [] rfl ?_
      exact t_X10_isIn_14 hls hC hl hE h
    · rw [if_neg c1] at h
      refine x_iconst (pc := 10) (v := (1 : Int32)) hC dX10_isIn_10 (by decide) ?_
      refine x_goto (pc := 11) hC 15 dX10_isIn_11 (by decide) ?_
      refine x_pick [] rfl ?_
      exact t_X10_isIn_15 hls hC hl hE h
theorem c_X10_isIn (l : Launch) (hls : l.stackTraces = false) {S : mS} {a0 : Int32} {a1 : Int32} {a2 : Int32} {o : Rs Int32} (h : f_X10_isIn S a0 a1 a2 = some o) : CT (fun r : Int32 => some (.int r)) l yX10_isIn (.code yX10_isIn cX10_isIn 3 (Option.some Jvm.ClassFile.FieldType.boolean)) rm_X10_isIn S [.int a0, .int a1, .int a2] o := ct_of (by decide +kernel) hls (Nat.le_of_ble_eq_true rfl) (fun C hl hC hE => t_X10_isIn hls hC hl hE h)
abbrev rm_X10_isTempo : Room := { frames := 9, cells := 0, slots := 0, locals := 172 }
def f_X10_isTempo (S : mS) (a0 : Int32) : Option (Rs Int32) :=
  bd (f_X10_isIn S a0 (600 : Int32) (2000 : Int32)) fun x1 S2 => gd (x1 = 0 ∨ x1 = 1) (some (.inl x1, S2))
set_option maxHeartbeats 2000000 in
set_option maxRecDepth 100000 in
theorem t_X10_isTempo {l : Launch} (hls : l.stackTraces = false) {C : cT} (hC : CX C cX10_isTempo 1 yX10_isTempo rm_X10_isTempo) (hl : C.2.1 = l) {S0 : mS} (hE : CE C S0 (Option.some Jvm.ClassFile.FieldType.boolean) []) {o : Rs Int32} {S : mS} {a0 : Int32} (h : f_X10_isTempo S a0 = some o) : XX C 1 (QQ C (fun r : Int32 => some (.int r)) S0 o) 0 0 S 0 [(0, .int a0)] [] := by
  unfold f_X10_isTempo at h
  refine x_iload_n (pc := 0) hC 0 dX10_isTempo_0 rfl rfl ?_
  refine x_sipush (pc := 1) (v := (600 : Int32)) hC dX10_isTempo_1 (by decide) ?_
  refine x_sipush (pc := 4) (v := (2000 : Int32)) hC dX10_isTempo_4 (by decide) ?_
  obtain ⟨o3, ho3, h⟩ := bd_some h
  refine x_callS (pc := 7) (As := [.int a0, .int (600 : Int32), .int (2000 : Int32)]) (rest := []) hC hl (c_X10_isIn l hls ho3) lk_RX10_46 dX10_isTempo_7 rfl rfl (Nat.le_of_ble_eq_true rfl) ⟨Nat.le_of_ble_eq_true rfl, Nat.le_of_ble_eq_true rfl⟩ ⟨(Nat.le_of_ble_eq_true rfl), (Nat.le_of_ble_eq_true rfl)⟩ ?_
  rcases o3 with ⟨x1 | E4, S2⟩
  · refine xk_i ?_
    replace h := bk_l h
    obtain ⟨g5, h⟩ := gd_some h
    exact x_zreturn (pc := 10) hC hE dX10_isTempo_10 (nf_B g5).1 (so h) (Nat.le_of_ble_eq_true rfl) (Nat.le_of_ble_eq_true rfl)
  · exact xk_r (xt_out hC hE (bk_r h) (Nat.le_of_ble_eq_true rfl) (Nat.le_of_ble_eq_true rfl))
theorem c_X10_isTempo (l : Launch) (hls : l.stackTraces = false) {S : mS} {a0 : Int32} {o : Rs Int32} (h : f_X10_isTempo S a0 = some o) : CT (fun r : Int32 => some (.int r)) l yX10_isTempo (.code yX10_isTempo cX10_isTempo 1 (Option.some Jvm.ClassFile.FieldType.boolean)) rm_X10_isTempo S [.int a0] o := ct_of (by decide +kernel) hls (Nat.le_of_ble_eq_true rfl) (fun C hl hC hE => t_X10_isTempo hls hC hl hE h)
abbrev rm_X10_addRecord : Room := { frames := 10, cells := 4, slots := 24, locals := 204 }
def f_X10_addRecord_104  (S : mS) (a0 : Nat) (a1 : Int32) (a2 : Int32) (a3 : Int32) (a4 : Int32) (a5 : Int32) (a6 : Int32) (a7 : Int32) (s0 : Int32) : Option (Rs Int32) :=
  bd (f_X10_demand S s0) fun _ S2 => gd (gK S2 a0 = 16) (lt9 (gR S2 a0 0) fun r6 => gd (gK S2 r6 = 14) (lt9 (gI S2 r6 4) fun x8 => lt9 (gR S2 a0 0) fun r9 => gd (gK S2 r9 = 14) (lt9 (gR S2 r9 0) fun r11 => gd (gK S2 r11 = 36) (lt9 (Int32.ofNat (gZ S2 r11)) fun x13 => if x8 < x13 then (lt9 (gR S2 a0 2) fun r14 => gd (gK S2 r14 = 12) (bd (f_X6_open S2 r14 (1 : Int32)) fun _ S17 => gd (gK S17 a0 = 16) (lt9 (gR S17 a0 2) fun r21 => gd (gK S17 r21 = 12) (bd (f_X6_put S17 r21 a1) fun _ S24 => gd (gK S24 a0 = 16) (lt9 (gR S24 a0 2) fun r28 => gd (gK S24 r28 = 12) (bd (f_X6_put S24 r28 a2) fun _ S31 => gd (gK S31 a0 = 16) (lt9 (gR S31 a0 2) fun r35 => gd (gK S31 r35 = 12) (bd (f_X6_put S31 r35 a3) fun _ S38 => gd (gK S38 a0 = 16) (lt9 (gR S38 a0 2) fun r42 => gd (gK S38 r42 = 12) (bd (f_X6_put S38 r42 a4) fun _ S45 => gd (gK S45 a0 = 16) (lt9 (gR S45 a0 2) fun r49 => gd (gK S45 r49 = 12) (bd (f_X6_put S45 r49 a5) fun _ S52 => gd (gK S52 a0 = 16) (lt9 (gR S52 a0 2) fun r56 => gd (gK S52 r56 = 12) (bd (f_X6_put S52 r56 a6) fun _ S59 => gd (gK S59 a0 = 16) (lt9 (gR S59 a0 2) fun r63 => gd (gK S59 r63 = 12) (bd (f_X6_put S59 r63 a7) fun _ S66 => gd (gK S66 a0 = 16) (lt9 (gR S66 a0 0) fun r70 => gd (gK S66 r70 = 14) (bd (f_X8_addDisc S66 r70 a1 a2 a3 a4 a5 a6 a7) fun x72 S73 => some (.inl x72, S73))))))))))))))))))) else (some (.inr "java/lang/IllegalStateException", S2))))))
set_option maxHeartbeats 2000000 in
set_option maxRecDepth 100000 in
theorem t_X10_addRecord_104 {l : Launch} (hls : l.stackTraces = false) {C : cT} (hC : CX C cX10_addRecord 8 yX10_addRecord rm_X10_addRecord) (hl : C.2.1 = l) {S0 : mS} (hE : CE C S0 (Option.some Jvm.ClassFile.FieldType.int) []) {o : Rs Int32} {S : mS} {a0 : Nat} {a1 : Int32} {a2 : Int32} {a3 : Int32} {a4 : Int32} {a5 : Int32} {a6 : Int32} {a7 : Int32} {s0 : Int32} (h : f_X10_addRecord_104  S a0 a1 a2 a3 a4 a5 a6 a7 s0 = some o) : XX C 8 (QQ C (fun r : Int32 => some (.int r)) S0 o) (2) (12) S 104 [(0, .ref a0), (1, .int a1), (2, .int a2), (3, .int a3), (4, .int a4), (5, .int a5), (6, .int a6), (7, .int a7)] [.int s0] := by
  unfold f_X10_addRecord_104 at h
  obtain ⟨o3, ho3, h⟩ := bd_some h
  refine x_callS (pc := 104) (As := [.int s0]) (rest := []) hC hl (c_X10_demand l hls ho3) lk_RX10_50 dX10_addRecord_104 rfl rfl (Nat.le_of_ble_eq_true rfl) ⟨Nat.le_of_ble_eq_true rfl, Nat.le_of_ble_eq_true rfl⟩ ⟨(Nat.le_of_ble_eq_true rfl), (Nat.le_of_ble_eq_true rfl)⟩ ?_
  rcases o3 with ⟨_ | E4, S2⟩
  · refine xk_v ?_
    replace h := bk_l h
    refine x_aload_n (pc := 107) hC 0 dX10_addRecord_107 rfl rfl ?_
    obtain ⟨g5, h⟩ := gd_some h
    refine x_getRv (pc := 108) (k := 0) hC fc_16 fl_RX10_10 dX10_addRecord_108 rfl g5 (fun r6 hr6 => ?_)
    replace h := lt_x hr6 h
    obtain ⟨g7, h⟩ := gd_some h
    refine x_getIv (pc := 111) (k := 4) hC fc_14 fl_RX10_55 dX10_addRecord_111 rfl g7 (fun x8 hx8 => ?_)
    replace h := lt_x hx8 h
    refine x_aload_n (pc := 114) hC 0 dX10_addRecord_114 rfl rfl ?_
    refine x_getRv (pc := 115) (k := 0) hC fc_16 fl_RX10_10 dX10_addRecord_115 rfl g5 (fun r9 hr9 => ?_)
    replace h := lt_x hr9 h
    obtain ⟨g10, h⟩ := gd_some h
    refine x_getRv (pc := 118) (k := 0) hC fc_14 fl_RX10_59 dX10_addRecord_118 rfl g10 (fun r11 hr11 => ?_)
    replace h := lt_x hr11 h
    obtain ⟨g12, h⟩ := gd_some h
    refine x_alenv (pc := 121) (t0 := 6) hC dX10_addRecord_121 g12 (by decide) (fun _ => rfl) (fun x13 hx13 => ?_)
    replace h := lt_x hx13 h
    refine x_icmp_lt (pc := 122) hC 135 dX10_addRecord_122 (by decide) (fun c76 => ?_) (fun c76 => ?_)
    · rw [if_pos c76] at h
      refine x_aload_n (pc := 135) hC 0 dX10_addRecord_135 rfl rfl ?_
      refine x_getRv (pc := 136) (k := 2) hC fc_16 fl_RX10_22 dX10_addRecord_136 rfl g5 (fun r14 hr14 => ?_)
      replace h := lt_x hr14 h
      refine x_iconst (pc := 139) (v := (1 : Int32)) hC dX10_addRecord_139 (by decide) ?_
      obtain ⟨g15, h⟩ := gd_some h
      obtain ⟨o18, ho18, h⟩ := bd_some h
      refine x_callV (pc := 140) (As := [.int (1 : Int32)]) (rest := []) hC hl (c_X6_open l hls ho18) lk_RX10_70 fc_12 g15 dX10_addRecord_140 rfl rfl (Nat.le_of_ble_eq_true rfl) ⟨Nat.le_of_ble_eq_true rfl, Nat.le_of_ble_eq_true rfl⟩ ⟨(Nat.le_of_ble_eq_true rfl), (Nat.le_of_ble_eq_true rfl)⟩ ?_
      rcases o18 with ⟨_ | E19, S17⟩
      · refine xk_v ?_
        replace h := bk_l h
        refine x_aload_n (pc := 143) hC 0 dX10_addRecord_143 rfl rfl ?_
        obtain ⟨g20, h⟩ := gd_some h
        refine x_getRv (pc := 144) (k := 2) hC fc_16 fl_RX10_22 dX10_addRecord_144 rfl g20 (fun r21 hr21 => ?_)
        replace h := lt_x hr21 h
        refine x_iload_n (pc := 147) hC 1 dX10_addRecord_147 rfl rfl ?_
        obtain ⟨g22, h⟩ := gd_some h
        obtain ⟨o25, ho25, h⟩ := bd_some h
        refine x_callV (pc := 148) (As := [.int a1]) (rest := []) hC hl (c_X6_put l hls ho25) lk_RX10_74 fc_12 g22 dX10_addRecord_148 rfl rfl (Nat.le_of_ble_eq_true rfl) ⟨Nat.le_of_ble_eq_true rfl, Nat.le_of_ble_eq_true rfl⟩ ⟨(Nat.le_of_ble_eq_true rfl), (Nat.le_of_ble_eq_true rfl)⟩ ?_
        rcases o25 with ⟨_ | E26, S24⟩
        · refine xk_v ?_
          replace h := bk_l h
          refine x_aload_n (pc := 151) hC 0 dX10_addRecord_151 rfl rfl ?_
          obtain ⟨g27, h⟩ := gd_some h
          refine x_getRv (pc := 152) (k := 2) hC fc_16 fl_RX10_22 dX10_addRecord_152 rfl g27 (fun r28 hr28 => ?_)
          replace h := lt_x hr28 h
          refine x_iload_n (pc := 155) hC 2 dX10_addRecord_155 rfl rfl ?_
          obtain ⟨g29, h⟩ := gd_some h
          obtain ⟨o32, ho32, h⟩ := bd_some h
          refine x_callV (pc := 156) (As := [.int a2]) (rest := []) hC hl (c_X6_put l hls ho32) lk_RX10_74 fc_12 g29 dX10_addRecord_156 rfl rfl (Nat.le_of_ble_eq_true rfl) ⟨Nat.le_of_ble_eq_true rfl, Nat.le_of_ble_eq_true rfl⟩ ⟨(Nat.le_of_ble_eq_true rfl), (Nat.le_of_ble_eq_true rfl)⟩ ?_
          rcases o32 with ⟨_ | E33, S31⟩
          · refine xk_v ?_
            replace h := bk_l h
            refine x_aload_n (pc := 159) hC 0 dX10_addRecord_159 rfl rfl ?_
            obtain ⟨g34, h⟩ := gd_some h
            refine x_getRv (pc := 160) (k := 2) hC fc_16 fl_RX10_22 dX10_addRecord_160 rfl g34 (fun r35 hr35 => ?_)
            replace h := lt_x hr35 h
            refine x_iload_n (pc := 163) hC 3 dX10_addRecord_163 rfl rfl ?_
            obtain ⟨g36, h⟩ := gd_some h
            obtain ⟨o39, ho39, h⟩ := bd_some h
            refine x_callV (pc := 164) (As := [.int a3]) (rest := []) hC hl (c_X6_put l hls ho39) lk_RX10_74 fc_12 g36 dX10_addRecord_164 rfl rfl (Nat.le_of_ble_eq_true rfl) ⟨Nat.le_of_ble_eq_true rfl, Nat.le_of_ble_eq_true rfl⟩ ⟨(Nat.le_of_ble_eq_true rfl), (Nat.le_of_ble_eq_true rfl)⟩ ?_
            rcases o39 with ⟨_ | E40, S38⟩
            · refine xk_v ?_
              replace h := bk_l h
              refine x_aload_n (pc := 167) hC 0 dX10_addRecord_167 rfl rfl ?_
              obtain ⟨g41, h⟩ := gd_some h
              refine x_getRv (pc := 168) (k := 2) hC fc_16 fl_RX10_22 dX10_addRecord_168 rfl g41 (fun r42 hr42 => ?_)
              replace h := lt_x hr42 h
              refine x_iload (pc := 171) hC 4 dX10_addRecord_171 rfl ?_
              obtain ⟨g43, h⟩ := gd_some h
              obtain ⟨o46, ho46, h⟩ := bd_some h
              refine x_callV (pc := 173) (As := [.int a4]) (rest := []) hC hl (c_X6_put l hls ho46) lk_RX10_74 fc_12 g43 dX10_addRecord_173 rfl rfl (Nat.le_of_ble_eq_true rfl) ⟨Nat.le_of_ble_eq_true rfl, Nat.le_of_ble_eq_true rfl⟩ ⟨(Nat.le_of_ble_eq_true rfl), (Nat.le_of_ble_eq_true rfl)⟩ ?_
              rcases o46 with ⟨_ | E47, S45⟩
              · refine xk_v ?_
                replace h := bk_l h
                refine x_aload_n (pc := 176) hC 0 dX10_addRecord_176 rfl rfl ?_
                obtain ⟨g48, h⟩ := gd_some h
                refine x_getRv (pc := 177) (k := 2) hC fc_16 fl_RX10_22 dX10_addRecord_177 rfl g48 (fun r49 hr49 => ?_)
                replace h := lt_x hr49 h
                refine x_iload (pc := 180) hC 5 dX10_addRecord_180 rfl ?_
                obtain ⟨g50, h⟩ := gd_some h
                obtain ⟨o53, ho53, h⟩ := bd_some h
                refine x_callV (pc := 182) (As := [.int a5]) (rest := []) hC hl (c_X6_put l hls ho53) lk_RX10_74 fc_12 g50 dX10_addRecord_182 rfl rfl (Nat.le_of_ble_eq_true rfl) ⟨Nat.le_of_ble_eq_true rfl, Nat.le_of_ble_eq_true rfl⟩ ⟨(Nat.le_of_ble_eq_true rfl), (Nat.le_of_ble_eq_true rfl)⟩ ?_
                rcases o53 with ⟨_ | E54, S52⟩
                · refine xk_v ?_
                  replace h := bk_l h
                  refine x_aload_n (pc := 185) hC 0 dX10_addRecord_185 rfl rfl ?_
                  obtain ⟨g55, h⟩ := gd_some h
                  refine x_getRv (pc := 186) (k := 2) hC fc_16 fl_RX10_22 dX10_addRecord_186 rfl g55 (fun r56 hr56 => ?_)
                  replace h := lt_x hr56 h
                  refine x_iload (pc := 189) hC 6 dX10_addRecord_189 rfl ?_
                  obtain ⟨g57, h⟩ := gd_some h
                  obtain ⟨o60, ho60, h⟩ := bd_some h
                  refine x_callV (pc := 191) (As := [.int a6]) (rest := []) hC hl (c_X6_put l hls ho60) lk_RX10_74 fc_12 g57 dX10_addRecord_191 rfl rfl (Nat.le_of_ble_eq_true rfl) ⟨Nat.le_of_ble_eq_true rfl, Nat.le_of_ble_eq_true rfl⟩ ⟨(Nat.le_of_ble_eq_true rfl), (Nat.le_of_ble_eq_true rfl)⟩ ?_
                  rcases o60 with ⟨_ | E61, S59⟩
                  · refine xk_v ?_
                    replace h := bk_l h
                    refine x_aload_n (pc := 194) hC 0 dX10_addRecord_194 rfl rfl ?_
                    obtain ⟨g62, h⟩ := gd_some h
                    refine x_getRv (pc := 195) (k := 2) hC fc_16 fl_RX10_22 dX10_addRecord_195 rfl g62 (fun r63 hr63 => ?_)
                    replace h := lt_x hr63 h
                    refine x_iload (pc := 198) hC 7 dX10_addRecord_198 rfl ?_
                    obtain ⟨g64, h⟩ := gd_some h
                    obtain ⟨o67, ho67, h⟩ := bd_some h
                    refine x_callV (pc := 200) (As := [.int a7]) (rest := []) hC hl (c_X6_put l hls ho67) lk_RX10_74 fc_12 g64 dX10_addRecord_200 rfl rfl (Nat.le_of_ble_eq_true rfl) ⟨Nat.le_of_ble_eq_true rfl, Nat.le_of_ble_eq_true rfl⟩ ⟨(Nat.le_of_ble_eq_true rfl), (Nat.le_of_ble_eq_true rfl)⟩ ?_
                    rcases o67 with ⟨_ | E68, S66⟩
                    · refine xk_v ?_
                      replace h := bk_l h
                      refine x_aload_n (pc := 203) hC 0 dX10_addRecord_203 rfl rfl ?_
                      obtain ⟨g69, h⟩ := gd_some h
                      refine x_getRv (pc := 204) (k := 0) hC fc_16 fl_RX10_10 dX10_addRecord_204 rfl g69 (fun r70 hr70 => ?_)
                      replace h := lt_x hr70 h
                      refine x_iload_n (pc := 207) hC 1 dX10_addRecord_207 rfl rfl ?_
                      refine x_iload_n (pc := 208) hC 2 dX10_addRecord_208 rfl rfl ?_
                      refine x_iload_n (pc := 209) hC 3 dX10_addRecord_209 rfl rfl ?_
                      refine x_iload (pc := 210) hC 4 dX10_addRecord_210 rfl ?_
                      refine x_iload (pc := 212) hC 5 dX10_addRecord_212 rfl ?_
                      refine x_iload (pc := 214) hC 6 dX10_addRecord_214 rfl ?_
                      refine x_iload (pc := 216) hC 7 dX10_addRecord_216 rfl ?_
                      obtain ⟨g71, h⟩ := gd_some h
                      obtain ⟨o74, ho74, h⟩ := bd_some h
                      refine x_callV (pc := 218) (As := [.int a1, .int a2, .int a3, .int a4, .int a5, .int a6, .int a7]) (rest := []) hC hl (c_X8_addDisc l hls ho74) lk_RX10_77 fc_14 g71 dX10_addRecord_218 rfl rfl (Nat.le_of_ble_eq_true rfl) ⟨Nat.le_of_ble_eq_true rfl, Nat.le_of_ble_eq_true rfl⟩ ⟨(Nat.le_of_ble_eq_true rfl), (Nat.le_of_ble_eq_true rfl)⟩ ?_
                      rcases o74 with ⟨x72 | E75, S73⟩
                      · refine xk_i ?_
                        replace h := bk_l h
                        exact x_ireturn (pc := 221) hC hE dX10_addRecord_221 (so h) (Nat.le_of_ble_eq_true rfl) (Nat.le_of_ble_eq_true rfl)
                      · exact xk_r (xt_out hC hE (bk_r h) (Nat.le_of_ble_eq_true rfl) (Nat.le_of_ble_eq_true rfl))
                    · exact xk_r (xt_out hC hE (bk_r h) (Nat.le_of_ble_eq_true rfl) (Nat.le_of_ble_eq_true rfl))
                  · exact xk_r (xt_out hC hE (bk_r h) (Nat.le_of_ble_eq_true rfl) (Nat.le_of_ble_eq_true rfl))
                · exact xk_r (xt_out hC hE (bk_r h) (Nat.le_of_ble_eq_true rfl) (Nat.le_of_ble_eq_true rfl))
              · exact xk_r (xt_out hC hE (bk_r h) (Nat.le_of_ble_eq_true rfl) (Nat.le_of_ble_eq_true rfl))
            · exact xk_r (xt_out hC hE (bk_r h) (Nat.le_of_ble_eq_true rfl) (Nat.le_of_ble_eq_true rfl))
          · exact xk_r (xt_out hC hE (bk_r h) (Nat.le_of_ble_eq_true rfl) (Nat.le_of_ble_eq_true rfl))
        · exact xk_r (xt_out hC hE (bk_r h) (Nat.le_of_ble_eq_true rfl) (Nat.le_of_ble_eq_true rfl))
      · exact xk_r (xt_out hC hE (bk_r h) (Nat.le_of_ble_eq_true rfl) (Nat.le_of_ble_eq_true rfl))
    · rw [if_neg c76] at h
      exact x_throwS (pc := 125) hC hE th_RX10_63_67_65 dX10_addRecord_125 dX10_addRecord_128 dX10_addRecord_129 dX10_addRecord_131 dX10_addRecord_134 (so h) (Nat.le_of_ble_eq_true rfl) (Nat.le_of_ble_eq_true rfl) (Nat.le_of_ble_eq_true rfl) (Nat.le_of_ble_eq_true rfl)
  · exact xk_r (xt_out hC hE (bk_r h) (Nat.le_of_ble_eq_true rfl) (Nat.le_of_ble_eq_true rfl))
def f_X10_addRecord_103  (S : mS) (a0 : Nat) (a1 : Int32) (a2 : Int32) (a3 : Int32) (a4 : Int32) (a5 : Int32) (a6 : Int32) (a7 : Int32) : Option (Rs Int32) :=
  f_X10_addRecord_104  S a0 a1 a2 a3 a4 a5 a6 a7 (0 : Int32)
set_option maxHeartbeats 2000000 in
set_option maxRecDepth 100000 in
theorem t_X10_addRecord_103 {l : Launch} (hls : l.stackTraces = false) {C : cT} (hC : CX C cX10_addRecord 8 yX10_addRecord rm_X10_addRecord) (hl : C.2.1 = l) {S0 : mS} (hE : CE C S0 (Option.some Jvm.ClassFile.FieldType.int) []) {o : Rs Int32} {S : mS} {a0 : Nat} {a1 : Int32} {a2 : Int32} {a3 : Int32} {a4 : Int32} {a5 : Int32} {a6 : Int32} {a7 : Int32} (h : f_X10_addRecord_103  S a0 a1 a2 a3 a4 a5 a6 a7 = some o) : XX C 8 (QQ C (fun r : Int32 => some (.int r)) S0 o) (2) (12) S 103 [(0, .ref a0), (1, .int a1), (2, .int a2), (3, .int a3), (4, .int a4), (5, .int a5), (6, .int a6), (7, .int a7)] [] := by
  unfold f_X10_addRecord_103 at h
  refine x_iconst (pc := 103) (v := (0 : Int32)) hC dX10_addRecord_103 (by decide) ?_
  refine x_pick [0, 1, 2, 3, 4, 5, 6, 7] rfl ?_
  exact t_X10_addRecord_104 hls hC hl hE h
def f_X10_addRecord_74  (S : mS) (a0 : Nat) (a1 : Int32) (a2 : Int32) (a3 : Int32) (a4 : Int32) (a5 : Int32) (a6 : Int32) (a7 : Int32) (s0 : Int32) : Option (Rs Int32) :=
  bd (f_X10_demand S s0) fun _ S2 => bd (f_X10_isIn S2 a6 (0 : Int32) (65535 : Int32)) fun x5 S6 => if x5 = 0 then (f_X10_addRecord_103  S6 a0 a1 a2 a3 a4 a5 a6 a7) else (bd (f_X10_isIn S6 a7 (0 : Int32) (65535 : Int32)) fun x9 S10 => if x9 = 0 then (f_X10_addRecord_103  S10 a0 a1 a2 a3 a4 a5 a6 a7) else (f_X10_addRecord_104  S10 a0 a1 a2 a3 a4 a5 a6 a7 (1 : Int32)))
set_option maxHeartbeats 2000000 in
set_option maxRecDepth 100000 in
theorem t_X10_addRecord_74 {l : Launch} (hls : l.stackTraces = false) {C : cT} (hC : CX C cX10_addRecord 8 yX10_addRecord rm_X10_addRecord) (hl : C.2.1 = l) {S0 : mS} (hE : CE C S0 (Option.some Jvm.ClassFile.FieldType.int) []) {o : Rs Int32} {S : mS} {a0 : Nat} {a1 : Int32} {a2 : Int32} {a3 : Int32} {a4 : Int32} {a5 : Int32} {a6 : Int32} {a7 : Int32} {s0 : Int32} (h : f_X10_addRecord_74  S a0 a1 a2 a3 a4 a5 a6 a7 s0 = some o) : XX C 8 (QQ C (fun r : Int32 => some (.int r)) S0 o) (1) (6) S 74 [(0, .ref a0), (1, .int a1), (2, .int a2), (3, .int a3), (4, .int a4), (5, .int a5), (6, .int a6), (7, .int a7)] [.int s0] := by
  unfold f_X10_addRecord_74 at h
  obtain ⟨o3, ho3, h⟩ := bd_some h
  refine x_callS (pc := 74) (As := [.int s0]) (rest := []) hC hl (c_X10_demand l hls ho3) lk_RX10_50 dX10_addRecord_74 rfl rfl (Nat.le_of_ble_eq_true rfl) ⟨Nat.le_of_ble_eq_true rfl, Nat.le_of_ble_eq_true rfl⟩ ⟨(Nat.le_of_ble_eq_true rfl), (Nat.le_of_ble_eq_true rfl)⟩ ?_
  rcases o3 with ⟨_ | E4, S2⟩
  · refine xk_v ?_
    replace h := bk_l h
    refine x_iload (pc := 77) hC 6 dX10_addRecord_77 rfl ?_
    refine x_iconst (pc := 79) (v := (0 : Int32)) hC dX10_addRecord_79 (by decide) ?_
    refine x_ldc (pc := 80) hC wm_972 dX10_addRecord_80 ?_
    obtain ⟨o7, ho7, h⟩ := bd_some h
    refine x_callS (pc := 82) (As := [.int a6, .int (0 : Int32), .int (65535 : Int32)]) (rest := []) hC hl (c_X10_isIn l hls ho7) lk_RX10_46 dX10_addRecord_82 rfl rfl (Nat.le_of_ble_eq_true rfl) ⟨Nat.le_of_ble_eq_true rfl, Nat.le_of_ble_eq_true rfl⟩ ⟨(Nat.le_of_ble_eq_true rfl), (Nat.le_of_ble_eq_true rfl)⟩ ?_
    rcases o7 with ⟨x5 | E8, S6⟩
    · refine xk_i ?_
      replace h := bk_l h
      refine x_if_eq (pc := 85) hC 103 dX10_addRecord_85 (by decide) (fun c14 => ?_) (fun c14 => ?_)
      · rw [if_pos c14] at h
        refine x_pick [0, 1, 2, 3, 4, 5, 6, 7] rfl ?_
        exact t_X10_addRecord_103 hls hC hl hE h
      · rw [if_neg c14] at h
        refine x_iload (pc := 88) hC 7 dX10_addRecord_88 rfl ?_
        refine x_iconst (pc := 90) (v := (0 : Int32)) hC dX10_addRecord_90 (by decide) ?_
        refine x_ldc (pc := 91) hC wm_972 dX10_addRecord_91 ?_
        obtain ⟨o11, ho11, h⟩ := bd_some h
        refine x_callS (pc := 93) (As := [.int a7, .int (0 : Int32), .int (65535 : Int32)]) (rest := []) hC hl (c_X10_isIn l hls ho11) lk_RX10_46 dX10_addRecord_93 rfl rfl (Nat.le_of_ble_eq_true rfl) ⟨Nat.le_of_ble_eq_true rfl, Nat.le_of_ble_eq_true rfl⟩ ⟨(Nat.le_of_ble_eq_true rfl), (Nat.le_of_ble_eq_true rfl)⟩ ?_
        rcases o11 with ⟨x9 | E12, S10⟩
        · refine xk_i ?_
          replace h := bk_l h
          refine x_if_eq (pc := 96) hC 103 dX10_addRecord_96 (by decide) (fun c13 => ?_) (fun c13 => ?_)
          · rw [if_pos c13] at h
            refine x_pick [0, 1, 2, 3, 4, 5, 6, 7] rfl ?_
            exact t_X10_addRecord_103 hls hC hl hE h
          · rw [if_neg c13] at h
            refine x_iconst (pc := 99) (v := (1 : Int32)) hC dX10_addRecord_99 (by decide) ?_
            refine x_goto (pc := 100) hC 104 dX10_addRecord_100 (by decide) ?_
            refine x_pick [0, 1, 2, 3, 4, 5, 6, 7] rfl ?_
            exact t_X10_addRecord_104 hls hC hl hE h
        · exact xk_r (xt_out hC hE (bk_r h) (Nat.le_of_ble_eq_true rfl) (Nat.le_of_ble_eq_true rfl))
    · exact xk_r (xt_out hC hE (bk_r h) (Nat.le_of_ble_eq_true rfl) (Nat.le_of_ble_eq_true rfl))
  · exact xk_r (xt_out hC hE (bk_r h) (Nat.le_of_ble_eq_true rfl) (Nat.le_of_ble_eq_true rfl))
def f_X10_addRecord_69  (S : mS) (a0 : Nat) (a1 : Int32) (a2 : Int32) (a3 : Int32) (a4 : Int32) (a5 : Int32) (a6 : Int32) (a7 : Int32) : Option (Rs Int32) :=
  f_X10_addRecord_74  S a0 a1 a2 a3 a4 a5 a6 a7 (1 : Int32)
set_option maxHeartbeats 2000000 in
set_option maxRecDepth 100000 in
theorem t_X10_addRecord_69 {l : Launch} (hls : l.stackTraces = false) {C : cT} (hC : CX C cX10_addRecord 8 yX10_addRecord rm_X10_addRecord) (hl : C.2.1 = l) {S0 : mS} (hE : CE C S0 (Option.some Jvm.ClassFile.FieldType.int) []) {o : Rs Int32} {S : mS} {a0 : Nat} {a1 : Int32} {a2 : Int32} {a3 : Int32} {a4 : Int32} {a5 : Int32} {a6 : Int32} {a7 : Int32} (h : f_X10_addRecord_69  S a0 a1 a2 a3 a4 a5 a6 a7 = some o) : XX C 8 (QQ C (fun r : Int32 => some (.int r)) S0 o) (1) (6) S 69 [(0, .ref a0), (1, .int a1), (2, .int a2), (3, .int a3), (4, .int a4), (5, .int a5), (6, .int a6), (7, .int a7)] [] := by
  unfold f_X10_addRecord_69 at h
  refine x_iconst (pc := 69) (v := (1 : Int32)) hC dX10_addRecord_69 (by decide) ?_
  refine x_goto (pc := 70) hC 74 dX10_addRecord_70 (by decide) ?_
  refine x_pick [0, 1, 2, 3, 4, 5, 6, 7] rfl ?_
  exact t_X10_addRecord_74 hls hC hl hE h
def f_X10_addRecord_45  (S : mS) (a0 : Nat) (a1 : Int32) (a2 : Int32) (a3 : Int32) (a4 : Int32) (a5 : Int32) (a6 : Int32) (a7 : Int32) (s0 : Int32) : Option (Rs Int32) :=
  bd (f_X10_demand S s0) fun _ S2 => if a5 = (8 : Int32) then (f_X10_addRecord_69  S2 a0 a1 a2 a3 a4 a5 a6 a7) else (if a5 = (16 : Int32) then (f_X10_addRecord_69  S2 a0 a1 a2 a3 a4 a5 a6 a7) else (if a5 = (32 : Int32) then (f_X10_addRecord_69  S2 a0 a1 a2 a3 a4 a5 a6 a7) else (f_X10_addRecord_74  S2 a0 a1 a2 a3 a4 a5 a6 a7 (0 : Int32))))
set_option maxHeartbeats 2000000 in
set_option maxRecDepth 100000 in
theorem t_X10_addRecord_45 {l : Launch} (hls : l.stackTraces = false) {C : cT} (hC : CX C cX10_addRecord 8 yX10_addRecord rm_X10_addRecord) (hl : C.2.1 = l) {S0 : mS} (hE : CE C S0 (Option.some Jvm.ClassFile.FieldType.int) []) {o : Rs Int32} {S : mS} {a0 : Nat} {a1 : Int32} {a2 : Int32} {a3 : Int32} {a4 : Int32} {a5 : Int32} {a6 : Int32} {a7 : Int32} {s0 : Int32} (h : f_X10_addRecord_45  S a0 a1 a2 a3 a4 a5 a6 a7 s0 = some o) : XX C 8 (QQ C (fun r : Int32 => some (.int r)) S0 o) (0) (0) S 45 [(0, .ref a0), (1, .int a1), (2, .int a2), (3, .int a3), (4, .int a4), (5, .int a5), (6, .int a6), (7, .int a7)] [.int s0] := by
  unfold f_X10_addRecord_45 at h
  obtain ⟨o3, ho3, h⟩ := bd_some h
  refine x_callS (pc := 45) (As := [.int s0]) (rest := []) hC hl (c_X10_demand l hls ho3) lk_RX10_50 dX10_addRecord_45 rfl rfl (Nat.le_of_ble_eq_true rfl) ⟨Nat.le_of_ble_eq_true rfl, Nat.le_of_ble_eq_true rfl⟩ ⟨(Nat.le_of_ble_eq_true rfl), (Nat.le_of_ble_eq_true rfl)⟩ ?_
  rcases o3 with ⟨_ | E4, S2⟩
  · refine xk_v ?_
    replace h := bk_l h
    refine x_iload (pc := 48) hC 5 dX10_addRecord_48 rfl ?_
    refine x_bipush (pc := 50) (v := (8 : Int32)) hC dX10_addRecord_50 (by decide) ?_
    refine x_icmp_eq (pc := 52) hC 69 dX10_addRecord_52 (by decide) (fun c7 => ?_) (fun c7 => ?_)
    · rw [if_pos c7] at h
      refine x_pick [0, 1, 2, 3, 4, 5, 6, 7] rfl ?_
      exact t_X10_addRecord_69 hls hC hl hE h
    · rw [if_neg c7] at h
      refine x_iload (pc := 55) hC 5 dX10_addRecord_55 rfl ?_
      refine x_bipush (pc := 57) (v := (16 : Int32)) hC dX10_addRecord_57 (by decide) ?_
      refine x_icmp_eq (pc := 59) hC 69 dX10_addRecord_59 (by decide) (fun c6 => ?_) (fun c6 => ?_)
      · rw [if_pos c6] at h
        refine x_pick [0, 1, 2, 3, 4, 5, 6, 7] rfl ?_
        exact t_X10_addRecord_69 hls hC hl hE h
      · rw [if_neg c6] at h
        refine x_iload (pc := 62) hC 5 dX10_addRecord_62 rfl ?_
        refine x_bipush (pc := 64) (v := (32 : Int32)) hC dX10_addRecord_64 (by decide) ?_
        refine x_icmp_ne (pc := 66) hC 73 dX10_addRecord_66 (by decide) (fun c5 => ?_) (fun c5 => ?_)
        · rw [if_neg c5] at h
          refine x_iconst (pc := 73) (v := (0 : Int32)) hC dX10_addRecord_73 (by decide) ?_
          refine x_pick [0, 1, 2, 3, 4, 5, 6, 7] rfl ?_
          exact t_X10_addRecord_74 hls hC hl hE h
        · rw [if_pos c5] at h
          refine x_pick [0, 1, 2, 3, 4, 5, 6, 7] rfl ?_
          exact t_X10_addRecord_69 hls hC hl hE h
  · exact xk_r (xt_out hC hE (bk_r h) (Nat.le_of_ble_eq_true rfl) (Nat.le_of_ble_eq_true rfl))
def f_X10_addRecord_44  (S : mS) (a0 : Nat) (a1 : Int32) (a2 : Int32) (a3 : Int32) (a4 : Int32) (a5 : Int32) (a6 : Int32) (a7 : Int32) : Option (Rs Int32) :=
  f_X10_addRecord_45  S a0 a1 a2 a3 a4 a5 a6 a7 (0 : Int32)
set_option maxHeartbeats 2000000 in
set_option maxRecDepth 100000 in
theorem t_X10_addRecord_44 {l : Launch} (hls : l.stackTraces = false) {C : cT} (hC : CX C cX10_addRecord 8 yX10_addRecord rm_X10_addRecord) (hl : C.2.1 = l) {S0 : mS} (hE : CE C S0 (Option.some Jvm.ClassFile.FieldType.int) []) {o : Rs Int32} {S : mS} {a0 : Nat} {a1 : Int32} {a2 : Int32} {a3 : Int32} {a4 : Int32} {a5 : Int32} {a6 : Int32} {a7 : Int32} (h : f_X10_addRecord_44  S a0 a1 a2 a3 a4 a5 a6 a7 = some o) : XX C 8 (QQ C (fun r : Int32 => some (.int r)) S0 o) (0) (0) S 44 [(0, .ref a0), (1, .int a1), (2, .int a2), (3, .int a3), (4, .int a4), (5, .int a5), (6, .int a6), (7, .int a7)] [] := by
  unfold f_X10_addRecord_44 at h
  refine x_iconst (pc := 44) (v := (0 : Int32)) hC dX10_addRecord_44 (by decide) ?_
  refine x_pick [0, 1, 2, 3, 4, 5, 6, 7] rfl ?_
  exact t_X10_addRecord_45 hls hC hl hE h
def f_X10_addRecord (S : mS) (a0 : Nat) (a1 : Int32) (a2 : Int32) (a3 : Int32) (a4 : Int32) (a5 : Int32) (a6 : Int32) (a7 : Int32) : Option (Rs Int32) :=
  bd (f_X10_isTempo S a1) fun x1 S2 => if x1 = 0 then (f_X10_addRecord_44  S2 a0 a1 a2 a3 a4 a5 a6 a7) else (bd (f_X10_isIn S2 a2 (16 : Int32) (999 : Int32)) fun x5 S6 => if x5 = 0 then (f_X10_addRecord_44  S6 a0 a1 a2 a3 a4 a5 a6 a7) else (bd (f_X10_isIn S6 a3 (0 : Int32) (23 : Int32)) fun x9 S10 => if x9 = 0 then (f_X10_addRecord_44  S10 a0 a1 a2 a3 a4 a5 a6 a7) else (bd (f_X10_isIn S10 a4 (0 : Int32) (9 : Int32)) fun x13 S14 => if x13 = 0 then (f_X10_addRecord_44  S14 a0 a1 a2 a3 a4 a5 a6 a7) else (f_X10_addRecord_45  S14 a0 a1 a2 a3 a4 a5 a6 a7 (1 : Int32)))))
set_option maxHeartbeats 2000000 in
set_option maxRecDepth 100000 in
theorem t_X10_addRecord {l : Launch} (hls : l.stackTraces = false) {C : cT} (hC : CX C cX10_addRecord 8 yX10_addRecord rm_X10_addRecord) (hl : C.2.1 = l) {S0 : mS} (hE : CE C S0 (Option.some Jvm.ClassFile.FieldType.int) []) {o : Rs Int32} {S : mS} {a0 : Nat} {a1 : Int32} {a2 : Int32} {a3 : Int32} {a4 : Int32} {a5 : Int32} {a6 : Int32} {a7 : Int32} (h : f_X10_addRecord S a0 a1 a2 a3 a4 a5 a6 a7 = some o) : XX C 8 (QQ C (fun r : Int32 => some (.int r)) S0 o) 0 0 S 0 [(0, .ref a0), (1, .int a1), (2, .int a2), (3, .int a3), (4, .int a4), (5, .int a5), (6, .int a6), (7, .int a7)] [] := by
  unfold f_X10_addRecord at h
  refine x_iload_n (pc := 0) hC 1 dX10_addRecord_0 rfl rfl ?_
  obtain ⟨o3, ho3, h⟩ := bd_some h
  refine x_callS (pc := 1) (As := [.int a1]) (rest := []) hC hl (c_X10_isTempo l hls ho3) lk_RX10_42 dX10_addRecord_1 rfl rfl (Nat.le_of_ble_eq_true rfl) ⟨Nat.le_of_ble_eq_true rfl, Nat.le_of_ble_eq_true rfl⟩ ⟨(Nat.le_of_ble_eq_true rfl), (Nat.le_of_ble_eq_true rfl)⟩ ?_
  rcases o3 with ⟨x1 | E4, S2⟩
  · refine xk_i ?_
    replace h := bk_l h
    refine x_if_eq (pc := 4) hC 44 dX10_addRecord_4 (by decide) (fun c20 => ?_) (fun c20 => ?_)
    · rw [if_pos c20] at h
      refine x_pick [0, 1, 2, 3, 4, 5, 6, 7] rfl ?_
      exact t_X10_addRecord_44 hls hC hl hE h
    · rw [if_neg c20] at h
      refine x_iload_n (pc := 7) hC 2 dX10_addRecord_7 rfl rfl ?_
      refine x_bipush (pc := 8) (v := (16 : Int32)) hC dX10_addRecord_8 (by decide) ?_
      refine x_sipush (pc := 10) (v := (999 : Int32)) hC dX10_addRecord_10 (by decide) ?_
      obtain ⟨o7, ho7, h⟩ := bd_some h
      refine x_callS (pc := 13) (As := [.int a2, .int (16 : Int32), .int (999 : Int32)]) (rest := []) hC hl (c_X10_isIn l hls ho7) lk_RX10_46 dX10_addRecord_13 rfl rfl (Nat.le_of_ble_eq_true rfl) ⟨Nat.le_of_ble_eq_true rfl, Nat.le_of_ble_eq_true rfl⟩ ⟨(Nat.le_of_ble_eq_true rfl), (Nat.le_of_ble_eq_true rfl)⟩ ?_
      rcases o7 with ⟨x5 | E8, S6⟩
      · refine xk_i ?_
        replace h := bk_l h
        refine x_if_eq (pc := 16) hC 44 dX10_addRecord_16 (by decide) (fun c19 => ?_) (fun c19 => ?_)
        · rw [if_pos c19] at h
          refine x_pick [0, 1, 2, 3, 4, 5, 6, 7] rfl ?_
          exact t_X10_addRecord_44 hls hC hl hE h
        · rw [if_neg c19] at h
          refine x_iload_n (pc := 19) hC 3 dX10_addRecord_19 rfl rfl ?_
          refine x_iconst (pc := 20) (v := (0 : Int32)) hC dX10_addRecord_20 (by decide) ?_
          refine x_bipush (pc := 21) (v := (23 : Int32)) hC dX10_addRecord_21 (by decide) ?_
          obtain ⟨o11, ho11, h⟩ := bd_some h
          refine x_callS (pc := 23) (As := [.int a3, .int (0 : Int32), .int (23 : Int32)]) (rest := []) hC hl (c_X10_isIn l hls ho11) lk_RX10_46 dX10_addRecord_23 rfl rfl (Nat.le_of_ble_eq_true rfl) ⟨Nat.le_of_ble_eq_true rfl, Nat.le_of_ble_eq_true rfl⟩ ⟨(Nat.le_of_ble_eq_true rfl), (Nat.le_of_ble_eq_true rfl)⟩ ?_
          rcases o11 with ⟨x9 | E12, S10⟩
          · refine xk_i ?_
            replace h := bk_l h
            refine x_if_eq (pc := 26) hC 44 dX10_addRecord_26 (by decide) (fun c18 => ?_) (fun c18 => ?_)
            · rw [if_pos c18] at h
              refine x_pick [0, 1, 2, 3, 4, 5, 6, 7] rfl ?_
              exact t_X10_addRecord_44 hls hC hl hE h
            · rw [if_neg c18] at h
              refine x_iload (pc := 29) hC 4 dX10_addRecord_29 rfl ?_
              refine x_iconst (pc := 31) (v := (0 : Int32)) hC dX10_addRecord_31 (by decide) ?_
              refine x_bipush (pc := 32) (v := (9 : Int32)) hC dX10_addRecord_32 (by decide) ?_
              obtain ⟨o15, ho15, h⟩ := bd_some h
              refine x_callS (pc := 34) (As := [.int a4, .int (0 : Int32), .int (9 : Int32)]) (rest := []) hC hl (c_X10_isIn l hls ho15) lk_RX10_46 dX10_addRecord_34 rfl rfl (Nat.le_of_ble_eq_true rfl) ⟨Nat.le_of_ble_eq_true rfl, Nat.le_of_ble_eq_true rfl⟩ ⟨(Nat.le_of_ble_eq_true rfl), (Nat.le_of_ble_eq_true rfl)⟩ ?_
              rcases o15 with ⟨x13 | E16, S14⟩
              · refine xk_i ?_
                replace h := bk_l h
                refine x_if_eq (pc := 37) hC 44 dX10_addRecord_37 (by decide) (fun c17 => ?_) (fun c17 => ?_)
                · rw [if_pos c17] at h
                  refine x_pick [0, 1, 2, 3, 4, 5, 6, 7] rfl ?_
                  exact t_X10_addRecord_44 hls hC hl hE h
                · rw [if_neg c17] at h
                  refine x_iconst (pc := 40) (v := (1 : Int32)) hC dX10_addRecord_40 (by decide) ?_
                  refine x_goto (pc := 41) hC 45 dX10_addRecord_41 (by decide) ?_
                  refine x_pick [0, 1, 2, 3, 4, 5, 6, 7] rfl ?_
                  exact t_X10_addRecord_45 hls hC hl hE h
              · exact xk_r (xt_out hC hE (bk_r h) (Nat.le_of_ble_eq_true rfl) (Nat.le_of_ble_eq_true rfl))
          · exact xk_r (xt_out hC hE (bk_r h) (Nat.le_of_ble_eq_true rfl) (Nat.le_of_ble_eq_true rfl))
      · exact xk_r (xt_out hC hE (bk_r h) (Nat.le_of_ble_eq_true rfl) (Nat.le_of_ble_eq_true rfl))
  · exact xk_r (xt_out hC hE (bk_r h) (Nat.le_of_ble_eq_true rfl) (Nat.le_of_ble_eq_true rfl))
theorem c_X10_addRecord (l : Launch) (hls : l.stackTraces = false) {S : mS} {a0 : Nat} {a1 : Int32} {a2 : Int32} {a3 : Int32} {a4 : Int32} {a5 : Int32} {a6 : Int32} {a7 : Int32} {o : Rs Int32} (h : f_X10_addRecord S a0 a1 a2 a3 a4 a5 a6 a7 = some o) : CT (fun r : Int32 => some (.int r)) l yX10_addRecord (.code yX10_addRecord cX10_addRecord 8 (Option.some Jvm.ClassFile.FieldType.int)) rm_X10_addRecord S [.ref a0, .int a1, .int a2, .int a3, .int a4, .int a5, .int a6, .int a7] o := ct_of (by decide +kernel) hls (Nat.le_of_ble_eq_true rfl) (fun C hl hC hE => t_X10_addRecord hls hC hl hE h)
abbrev rm_X10_discOf : Room := { frames := 9, cells := 1, slots := 6, locals := 171 }
def f_X10_discOf (S : mS) (a0 : Nat) (a1 : Int32) : Option (Rs Nat) :=
  gd (gK S a0 = 16) (lt9 (gR S a0 0) fun r2 => gd (gK S r2 = 14) (bd (f_X8_discAt S r2 a1) fun r4 S5 => if r4 = 0 then (some (.inr "java/lang/IndexOutOfBoundsException", S5)) else (some (.inl r4, S5))))
set_option maxHeartbeats 2000000 in
set_option maxRecDepth 100000 in
theorem t_X10_discOf {l : Launch} (hls : l.stackTraces = false) {C : cT} (hC : CX C cX10_discOf 3 yX10_discOf rm_X10_discOf) (hl : C.2.1 = l) {S0 : mS} (hE : CE C S0 (Option.some (Jvm.ClassFile.FieldType.object "MixBooth$Disc")) []) {o : Rs Nat} {S : mS} {a0 : Nat} {a1 : Int32} (h : f_X10_discOf S a0 a1 = some o) : XX C 3 (QQ C (fun r : Nat => some (.ref r)) S0 o) 0 0 S 0 [(0, .ref a0), (1, .int a1)] [] := by
  unfold f_X10_discOf at h
  refine x_aload_n (pc := 0) hC 0 dX10_discOf_0 rfl rfl ?_
  obtain ⟨g1, h⟩ := gd_some h
  refine x_getRv (pc := 1) (k := 0) hC fc_16 fl_RX10_10 dX10_discOf_1 rfl g1 (fun r2 hr2 => ?_)
  replace h := lt_x hr2 h
  refine x_iload_n (pc := 4) hC 1 dX10_discOf_4 rfl rfl ?_
  obtain ⟨g3, h⟩ := gd_some h
  obtain ⟨o6, ho6, h⟩ := bd_some h
  refine x_callV (pc := 5) (As := [.int a1]) (rest := []) hC hl (c_X8_discAt l hls ho6) lk_RX10_443 fc_14 g3 dX10_discOf_5 rfl rfl (Nat.le_of_ble_eq_true rfl) ⟨Nat.le_of_ble_eq_true rfl, Nat.le_of_ble_eq_true rfl⟩ ⟨(Nat.le_of_ble_eq_true rfl), (Nat.le_of_ble_eq_true rfl)⟩ ?_
  rcases o6 with ⟨r4 | E7, S5⟩
  · refine xk_a ?_
    replace h := bk_l h
    refine x_astore_n (pc := 8) hC dX10_discOf_8 rfl (by decide) (by decide) rfl ?_
    refine x_aload_n (pc := 9) hC 0 dX10_discOf_9 rfl rfl ?_
    refine x_ifnonnull (pc := 10) hC 24 dX10_discOf_10 (by decide) (fun c8 => ?_) (fun c8 => ?_)
    · rw [if_neg c8] at h
      refine x_aload_n (pc := 24) hC 0 dX10_discOf_24 rfl rfl ?_
      exact x_areturn (pc := 25) hC hE (Or.inl ⟨_, rfl⟩) dX10_discOf_25 (so h) (Nat.le_of_ble_eq_true rfl) (Nat.le_of_ble_eq_true rfl)
    · rw [if_pos c8] at h
      exact x_throwSW (pc := 13) hC hE th_RX10_438_442_446 dX10_discOf_13 dX10_discOf_16 dX10_discOf_17 dX10_discOf_20 dX10_discOf_23 (so h) (Nat.le_of_ble_eq_true rfl) (Nat.le_of_ble_eq_true rfl) (Nat.le_of_ble_eq_true rfl) (Nat.le_of_ble_eq_true rfl)
  · exact xk_r (xt_out hC hE (bk_r h) (Nat.le_of_ble_eq_true rfl) (Nat.le_of_ble_eq_true rfl))
theorem c_X10_discOf (l : Launch) (hls : l.stackTraces = false) {S : mS} {a0 : Nat} {a1 : Int32} {o : Rs Nat} (h : f_X10_discOf S a0 a1 = some o) : CT (fun r : Nat => some (.ref r)) l yX10_discOf (.code yX10_discOf cX10_discOf 3 (Option.some (Jvm.ClassFile.FieldType.object "MixBooth$Disc"))) rm_X10_discOf S [.ref a0, .int a1] o := ct_of (by decide +kernel) hls (Nat.le_of_ble_eq_true rfl) (fun C hl hC hE => t_X10_discOf hls hC hl hE h)
abbrev rm_X10_correct : Room := { frames := 11, cells := 3, slots := 18, locals := 216 }
def f_X10_correct (S : mS) (a0 : Nat) (a1 : Int32) (a2 : Int32) : Option (Rs Int32) :=
  gd (gK S a0 = 16) (bd (f_X10_discOf S a0 a1) fun r2 S3 => bd (f_X10_isTempo S3 a2) fun x6 S7 => bd (f_X10_demand S7 x6) fun _ S11 => gd (gK S11 a0 = 16) (lt9 (gR S11 a0 0) fun r15 => gd (gK S11 r15 = 14) (bd (f_X8_isOnDeck S11 r15 r2) fun x17 S18 => if x17 = 0 then (gd (gK S18 a0 = 16) (lt9 (gR S18 a0 2) fun r22 => gd (gK S18 r22 = 12) (bd (f_X6_note S18 r22 (2 : Int32) a1 a2 (0 : Int32)) fun _ S25 => gd (gK S25 r2 = 8) (bd (f_X2_retune S25 r2 a2) fun x29 S30 => some (.inl x29, S30))))) else (some (.inr "java/lang/UnsupportedOperationException", S18)))))
set_option maxHeartbeats 2000000 in
set_option maxRecDepth 100000 in
theorem t_X10_correct {l : Launch} (hls : l.stackTraces = false) {C : cT} (hC : CX C cX10_correct 4 yX10_correct rm_X10_correct) (hl : C.2.1 = l) {S0 : mS} (hE : CE C S0 (Option.some Jvm.ClassFile.FieldType.int) []) {o : Rs Int32} {S : mS} {a0 : Nat} {a1 : Int32} {a2 : Int32} (h : f_X10_correct S a0 a1 a2 = some o) : XX C 4 (QQ C (fun r : Int32 => some (.int r)) S0 o) 0 0 S 0 [(0, .ref a0), (1, .int a1), (2, .int a2)] [] := by
  unfold f_X10_correct at h
  refine x_aload_n (pc := 0) hC 0 dX10_correct_0 rfl rfl ?_
  refine x_iload_n (pc := 1) hC 1 dX10_correct_1 rfl rfl ?_
  obtain ⟨g1, h⟩ := gd_some h
  obtain ⟨o4, ho4, h⟩ := bd_some h
  refine x_callV (pc := 2) (As := [.int a1]) (rest := []) hC hl (c_X10_discOf l hls ho4) lk_RX10_81 fc_16 g1 dX10_correct_2 rfl rfl (Nat.le_of_ble_eq_true rfl) ⟨Nat.le_of_ble_eq_true rfl, Nat.le_of_ble_eq_true rfl⟩ ⟨(Nat.le_of_ble_eq_true rfl), (Nat.le_of_ble_eq_true rfl)⟩ ?_
  rcases o4 with ⟨r2 | E5, S3⟩
  · refine xk_a ?_
    replace h := bk_l h
    refine x_astore_n (pc := 5) hC dX10_correct_5 rfl (by decide) (by decide) rfl ?_
    refine x_iload_n (pc := 6) hC 3 dX10_correct_6 rfl rfl ?_
    obtain ⟨o8, ho8, h⟩ := bd_some h
    refine x_callS (pc := 7) (As := [.int a2]) (rest := []) hC hl (c_X10_isTempo l hls ho8) lk_RX10_42 dX10_correct_7 rfl rfl (Nat.le_of_ble_eq_true rfl) ⟨Nat.le_of_ble_eq_true rfl, Nat.le_of_ble_eq_true rfl⟩ ⟨(Nat.le_of_ble_eq_true rfl), (Nat.le_of_ble_eq_true rfl)⟩ ?_
    rcases o8 with ⟨x6 | E9, S7⟩
    · refine xk_i ?_
      replace h := bk_l h
      obtain ⟨o12, ho12, h⟩ := bd_some h
      refine x_callS (pc := 10) (As := [.int x6]) (rest := []) hC hl (c_X10_demand l hls ho12) lk_RX10_50 dX10_correct_10 rfl rfl (Nat.le_of_ble_eq_true rfl) ⟨Nat.le_of_ble_eq_true rfl, Nat.le_of_ble_eq_true rfl⟩ ⟨(Nat.le_of_ble_eq_true rfl), (Nat.le_of_ble_eq_true rfl)⟩ ?_
      rcases o12 with ⟨_ | E13, S11⟩
      · refine xk_v ?_
        replace h := bk_l h
        refine x_aload_n (pc := 13) hC 1 dX10_correct_13 rfl rfl ?_
        obtain ⟨g14, h⟩ := gd_some h
        refine x_getRv (pc := 14) (k := 0) hC fc_16 fl_RX10_10 dX10_correct_14 rfl g14 (fun r15 hr15 => ?_)
        replace h := lt_x hr15 h
        refine x_aload_n (pc := 17) hC 0 dX10_correct_17 rfl rfl ?_
        obtain ⟨g16, h⟩ := gd_some h
        obtain ⟨o19, ho19, h⟩ := bd_some h
        refine x_callV (pc := 18) (As := [.ref r2]) (rest := []) hC hl (c_X8_isOnDeck l hls ho19) lk_RX10_85 fc_14 g16 dX10_correct_18 rfl rfl (Nat.le_of_ble_eq_true rfl) ⟨Nat.le_of_ble_eq_true rfl, Nat.le_of_ble_eq_true rfl⟩ ⟨(Nat.le_of_ble_eq_true rfl), (Nat.le_of_ble_eq_true rfl)⟩ ?_
        rcases o19 with ⟨x17 | E20, S18⟩
        · refine xk_i ?_
          replace h := bk_l h
          refine x_if_eq (pc := 21) hC 34 dX10_correct_21 (by decide) (fun c33 => ?_) (fun c33 => ?_)
          · rw [if_pos c33] at h
            refine x_aload_n (pc := 34) hC 1 dX10_correct_34 rfl rfl ?_
            obtain ⟨g21, h⟩ := gd_some h
            refine x_getRv (pc := 35) (k := 2) hC fc_16 fl_RX10_22 dX10_correct_35 rfl g21 (fun r22 hr22 => ?_)
            replace h := lt_x hr22 h
            refine x_iconst (pc := 38) (v := (2 : Int32)) hC dX10_correct_38 (by decide) ?_
            refine x_iload_n (pc := 39) hC 2 dX10_correct_39 rfl rfl ?_
            refine x_iload_n (pc := 40) hC 3 dX10_correct_40 rfl rfl ?_
            refine x_iconst (pc := 41) (v := (0 : Int32)) hC dX10_correct_41 (by decide) ?_
            obtain ⟨g23, h⟩ := gd_some h
            obtain ⟨o26, ho26, h⟩ := bd_some h
            refine x_callV (pc := 42) (As := [.int (2 : Int32), .int a1, .int a2, .int (0 : Int32)]) (rest := []) hC hl (c_X6_note l hls ho26) lk_RX10_94 fc_12 g23 dX10_correct_42 rfl rfl (Nat.le_of_ble_eq_true rfl) ⟨Nat.le_of_ble_eq_true rfl, Nat.le_of_ble_eq_true rfl⟩ ⟨(Nat.le_of_ble_eq_true rfl), (Nat.le_of_ble_eq_true rfl)⟩ ?_
            rcases o26 with ⟨_ | E27, S25⟩
            · refine xk_v ?_
              replace h := bk_l h
              refine x_aload_n (pc := 45) hC 0 dX10_correct_45 rfl rfl ?_
              refine x_iload_n (pc := 46) hC 3 dX10_correct_46 rfl rfl ?_
              obtain ⟨g28, h⟩ := gd_some h
              obtain ⟨o31, ho31, h⟩ := bd_some h
              refine x_callV (pc := 47) (As := [.int a2]) (rest := []) hC hl (c_X2_retune l hls ho31) lk_RX10_98 fc_8 g28 dX10_correct_47 rfl rfl (Nat.le_of_ble_eq_true rfl) ⟨Nat.le_of_ble_eq_true rfl, Nat.le_of_ble_eq_true rfl⟩ ⟨(Nat.le_of_ble_eq_true rfl), (Nat.le_of_ble_eq_true rfl)⟩ ?_
              rcases o31 with ⟨x29 | E32, S30⟩
              · refine xk_i ?_
                replace h := bk_l h
                exact x_ireturn (pc := 50) hC hE dX10_correct_50 (so h) (Nat.le_of_ble_eq_true rfl) (Nat.le_of_ble_eq_true rfl)
              · exact xk_r (xt_out hC hE (bk_r h) (Nat.le_of_ble_eq_true rfl) (Nat.le_of_ble_eq_true rfl))
            · exact xk_r (xt_out hC hE (bk_r h) (Nat.le_of_ble_eq_true rfl) (Nat.le_of_ble_eq_true rfl))
          · rw [if_neg c33] at h
            exact x_throwS (pc := 24) hC hE th_RX10_89_93_91 dX10_correct_24 dX10_correct_27 dX10_correct_28 dX10_correct_30 dX10_correct_33 (so h) (Nat.le_of_ble_eq_true rfl) (Nat.le_of_ble_eq_true rfl) (Nat.le_of_ble_eq_true rfl) (Nat.le_of_ble_eq_true rfl)
        · exact xk_r (xt_out hC hE (bk_r h) (Nat.le_of_ble_eq_true rfl) (Nat.le_of_ble_eq_true rfl))
      · exact xk_r (xt_out hC hE (bk_r h) (Nat.le_of_ble_eq_true rfl) (Nat.le_of_ble_eq_true rfl))
    · exact xk_r (xt_out hC hE (bk_r h) (Nat.le_of_ble_eq_true rfl) (Nat.le_of_ble_eq_true rfl))
  · exact xk_r (xt_out hC hE (bk_r h) (Nat.le_of_ble_eq_true rfl) (Nat.le_of_ble_eq_true rfl))
theorem c_X10_correct (l : Launch) (hls : l.stackTraces = false) {S : mS} {a0 : Nat} {a1 : Int32} {a2 : Int32} {o : Rs Int32} (h : f_X10_correct S a0 a1 a2 = some o) : CT (fun r : Int32 => some (.int r)) l yX10_correct (.code yX10_correct cX10_correct 4 (Option.some Jvm.ClassFile.FieldType.int)) rm_X10_correct S [.ref a0, .int a1, .int a2] o := ct_of (by decide +kernel) hls (Nat.le_of_ble_eq_true rfl) (fun C hl hC hE => t_X10_correct hls hC hl hE h)
abbrev rm_X10_apart : Room := { frames := 10, cells := 2, slots := 12, locals := 194 }
def f_X10_apart (S : mS) (a0 : Nat) (a1 : Int32) (a2 : Int32) : Option (Rs Int32) :=
  gd (gK S a0 = 16) (bd (f_X10_discOf S a0 a1) fun r2 S3 => gd (gK S3 r2 = 8) (lt9 (gI S3 r2 3) fun x7 => gd (gK S3 a0 = 16) (bd (f_X10_discOf S3 a0 a2) fun r9 S10 => gd (gK S10 r9 = 8) (lt9 (gI S10 r9 3) fun x14 => bd (f_X2_keysApart S10 x7 x14) fun x15 S16 => some (.inl x15, S16)))))
set_option maxHeartbeats 2000000 in
set_option maxRecDepth 100000 in
theorem t_X10_apart {l : Launch} (hls : l.stackTraces = false) {C : cT} (hC : CX C cX10_apart 4 yX10_apart rm_X10_apart) (hl : C.2.1 = l) {S0 : mS} (hE : CE C S0 (Option.some Jvm.ClassFile.FieldType.int) []) {o : Rs Int32} {S : mS} {a0 : Nat} {a1 : Int32} {a2 : Int32} (h : f_X10_apart S a0 a1 a2 = some o) : XX C 4 (QQ C (fun r : Int32 => some (.int r)) S0 o) 0 0 S 0 [(0, .ref a0), (1, .int a1), (2, .int a2)] [] := by
  unfold f_X10_apart at h
  refine x_aload_n (pc := 0) hC 0 dX10_apart_0 rfl rfl ?_
  refine x_iload_n (pc := 1) hC 1 dX10_apart_1 rfl rfl ?_
  obtain ⟨g1, h⟩ := gd_some h
  obtain ⟨o4, ho4, h⟩ := bd_some h
  refine x_callV (pc := 2) (As := [.int a1]) (rest := []) hC hl (c_X10_discOf l hls ho4) lk_RX10_81 fc_16 g1 dX10_apart_2 rfl rfl (Nat.le_of_ble_eq_true rfl) ⟨Nat.le_of_ble_eq_true rfl, Nat.le_of_ble_eq_true rfl⟩ ⟨(Nat.le_of_ble_eq_true rfl), (Nat.le_of_ble_eq_true rfl)⟩ ?_
  rcases o4 with ⟨r2 | E5, S3⟩
  · refine xk_a ?_
    replace h := bk_l h
    refine x_astore_n (pc := 5) hC dX10_apart_5 rfl (by decide) (by decide) rfl ?_
    refine x_aload_n (pc := 6) hC 0 dX10_apart_6 rfl rfl ?_
    obtain ⟨g6, h⟩ := gd_some h
    refine x_getIv (pc := 7) (k := 3) hC fc_8 fl_RX10_104 dX10_apart_7 rfl g6 (fun x7 hx7 => ?_)
    replace h := lt_x hx7 h
    refine x_aload_n (pc := 10) hC 1 dX10_apart_10 rfl rfl ?_
    refine x_iload_n (pc := 11) hC 3 dX10_apart_11 rfl rfl ?_
    obtain ⟨g8, h⟩ := gd_some h
    obtain ⟨o11, ho11, h⟩ := bd_some h
    refine x_callV (pc := 12) (As := [.int a2]) (rest := [.int x7]) hC hl (c_X10_discOf l hls ho11) lk_RX10_81 fc_16 g8 dX10_apart_12 rfl rfl (Nat.le_of_ble_eq_true rfl) ⟨Nat.le_of_ble_eq_true rfl, Nat.le_of_ble_eq_true rfl⟩ ⟨(Nat.le_of_ble_eq_true rfl), (Nat.le_of_ble_eq_true rfl)⟩ ?_
    rcases o11 with ⟨r9 | E12, S10⟩
    · refine xk_a ?_
      replace h := bk_l h
      obtain ⟨g13, h⟩ := gd_some h
      refine x_getIv (pc := 15) (k := 3) hC fc_8 fl_RX10_104 dX10_apart_15 rfl g13 (fun x14 hx14 => ?_)
      replace h := lt_x hx14 h
      obtain ⟨o17, ho17, h⟩ := bd_some h
      refine x_callS (pc := 18) (As := [.int x7, .int x14]) (rest := []) hC hl (c_X2_keysApart l hls ho17) lk_RX10_107 dX10_apart_18 rfl rfl (Nat.le_of_ble_eq_true rfl) ⟨Nat.le_of_ble_eq_true rfl, Nat.le_of_ble_eq_true rfl⟩ ⟨(Nat.le_of_ble_eq_true rfl), (Nat.le_of_ble_eq_true rfl)⟩ ?_
      rcases o17 with ⟨x15 | E18, S16⟩
      · refine xk_i ?_
        replace h := bk_l h
        exact x_ireturn (pc := 21) hC hE dX10_apart_21 (so h) (Nat.le_of_ble_eq_true rfl) (Nat.le_of_ble_eq_true rfl)
      · exact xk_r (xt_out hC hE (bk_r h) (Nat.le_of_ble_eq_true rfl) (Nat.le_of_ble_eq_true rfl))
    · exact xk_r (xt_out hC hE (bk_r h) (Nat.le_of_ble_eq_true rfl) (Nat.le_of_ble_eq_true rfl))
  · exact xk_r (xt_out hC hE (bk_r h) (Nat.le_of_ble_eq_true rfl) (Nat.le_of_ble_eq_true rfl))
theorem c_X10_apart (l : Launch) (hls : l.stackTraces = false) {S : mS} {a0 : Nat} {a1 : Int32} {a2 : Int32} {o : Rs Int32} (h : f_X10_apart S a0 a1 a2 = some o) : CT (fun r : Int32 => some (.int r)) l yX10_apart (.code yX10_apart cX10_apart 4 (Option.some Jvm.ClassFile.FieldType.int)) rm_X10_apart S [.ref a0, .int a1, .int a2] o := ct_of (by decide +kernel) hls (Nat.le_of_ble_eq_true rfl) (fun C hl hC hE => t_X10_apart hls hC hl hE h)
abbrev rm_X10_ban : Room := { frames := 11, cells := 1, slots := 6, locals := 216 }
def f_X10_ban_21  (S : mS) (a2 : Int32) (a3 : Nat) (s0 : Nat) (s1 : Int32) (s2 : Int32) (s3 : Int32) : Option (Rs Int32) :=
  gd (gK S s0 = 12) (bd (f_X6_note S s0 s1 s2 s3 (0 : Int32)) fun _ S3 => gd (gK S3 a3 = 8) (bd (f_X2_forbid S3 a3 a2) fun x7 S8 => gd (x7 = 0 ∨ x7 = 1) (some (.inl x7, S8))))
set_option maxHeartbeats 2000000 in
set_option maxRecDepth 100000 in
theorem t_X10_ban_21 {l : Launch} (hls : l.stackTraces = false) {C : cT} (hC : CX C cX10_ban 4 yX10_ban rm_X10_ban) (hl : C.2.1 = l) {S0 : mS} (hE : CE C S0 (Option.some Jvm.ClassFile.FieldType.boolean) []) {o : Rs Int32} {S : mS} {a2 : Int32} {a3 : Nat} {s0 : Nat} {s1 : Int32} {s2 : Int32} {s3 : Int32} (h : f_X10_ban_21  S a2 a3 s0 s1 s2 s3 = some o) : XX C 4 (QQ C (fun r : Int32 => some (.int r)) S0 o) (1) (6) S 21 [(2, .int a2), (3, .ref a3)] [.int s3, .int s2, .int s1, .ref s0] := by
  unfold f_X10_ban_21 at h
  refine x_iconst (pc := 21) (v := (0 : Int32)) hC dX10_ban_21 (by decide) ?_
  obtain ⟨g1, h⟩ := gd_some h
  obtain ⟨o4, ho4, h⟩ := bd_some h
  refine x_callV (pc := 22) (As := [.int s1, .int s2, .int s3, .int (0 : Int32)]) (rest := []) hC hl (c_X6_note l hls ho4) lk_RX10_94 fc_12 g1 dX10_ban_22 rfl rfl (Nat.le_of_ble_eq_true rfl) ⟨Nat.le_of_ble_eq_true rfl, Nat.le_of_ble_eq_true rfl⟩ ⟨(Nat.le_of_ble_eq_true rfl), (Nat.le_of_ble_eq_true rfl)⟩ ?_
  rcases o4 with ⟨_ | E5, S3⟩
  · refine xk_v ?_
    replace h := bk_l h
    refine x_aload_n (pc := 25) hC 1 dX10_ban_25 rfl rfl ?_
    refine x_iload_n (pc := 26) hC 0 dX10_ban_26 rfl rfl ?_
    obtain ⟨g6, h⟩ := gd_some h
    obtain ⟨o9, ho9, h⟩ := bd_some h
    refine x_callV (pc := 27) (As := [.int a2]) (rest := []) hC hl (c_X2_forbid l hls ho9) lk_RX10_111 fc_8 g6 dX10_ban_27 rfl rfl (Nat.le_of_ble_eq_true rfl) ⟨Nat.le_of_ble_eq_true rfl, Nat.le_of_ble_eq_true rfl⟩ ⟨(Nat.le_of_ble_eq_true rfl), (Nat.le_of_ble_eq_true rfl)⟩ ?_
    rcases o9 with ⟨x7 | E10, S8⟩
    · refine xk_i ?_
      replace h := bk_l h
      obtain ⟨g11, h⟩ := gd_some h
      exact x_zreturn (pc := 30) hC hE dX10_ban_30 (nf_B g11).1 (so h) (Nat.le_of_ble_eq_true rfl) (Nat.le_of_ble_eq_true rfl)
    · exact xk_r (xt_out hC hE (bk_r h) (Nat.le_of_ble_eq_true rfl) (Nat.le_of_ble_eq_true rfl))
  · exact xk_r (xt_out hC hE (bk_r h) (Nat.le_of_ble_eq_true rfl) (Nat.le_of_ble_eq_true rfl))
def f_X10_ban (S : mS) (a0 : Nat) (a1 : Int32) (a2 : Int32) : Option (Rs Int32) :=
  gd (gK S a0 = 16) (bd (f_X10_discOf S a0 a1) fun r2 S3 => gd (gK S3 a0 = 16) (lt9 (gR S3 a0 2) fun r7 => if a2 = 0 then (f_X10_ban_21  S3 a2 r2 r7 (3 : Int32) a1 (0 : Int32)) else (f_X10_ban_21  S3 a2 r2 r7 (3 : Int32) a1 (1 : Int32))))
set_option maxHeartbeats 2000000 in
set_option maxRecDepth 100000 in
theorem t_X10_ban {l : Launch} (hls : l.stackTraces = false) {C : cT} (hC : CX C cX10_ban 4 yX10_ban rm_X10_ban) (hl : C.2.1 = l) {S0 : mS} (hE : CE C S0 (Option.some Jvm.ClassFile.FieldType.boolean) []) {o : Rs Int32} {S : mS} {a0 : Nat} {a1 : Int32} {a2 : Int32} (h : f_X10_ban S a0 a1 a2 = some o) : XX C 4 (QQ C (fun r : Int32 => some (.int r)) S0 o) 0 0 S 0 [(0, .ref a0), (1, .int a1), (2, .int a2)] [] := by
  unfold f_X10_ban at h
  refine x_aload_n (pc := 0) hC 0 dX10_ban_0 rfl rfl ?_
  refine x_iload_n (pc := 1) hC 1 dX10_ban_1 rfl rfl ?_
  obtain ⟨g1, h⟩ := gd_some h
  obtain ⟨o4, ho4, h⟩ := bd_some h
  refine x_callV (pc := 2) (As := [.int a1]) (rest := []) hC hl (c_X10_discOf l hls ho4) lk_RX10_81 fc_16 g1 dX10_ban_2 rfl rfl (Nat.le_of_ble_eq_true rfl) ⟨Nat.le_of_ble_eq_true rfl, Nat.le_of_ble_eq_true rfl⟩ ⟨(Nat.le_of_ble_eq_true rfl), (Nat.le_of_ble_eq_true rfl)⟩ ?_
  rcases o4 with ⟨r2 | E5, S3⟩
  · refine xk_a ?_
    replace h := bk_l h
    refine x_astore_n (pc := 5) hC dX10_ban_5 rfl (by decide) (by decide) rfl ?_
    refine x_aload_n (pc := 6) hC 1 dX10_ban_6 rfl rfl ?_
    obtain ⟨g6, h⟩ := gd_some h
    refine x_getRv (pc := 7) (k := 2) hC fc_16 fl_RX10_22 dX10_ban_7 rfl g6 (fun r7 hr7 => ?_)
    replace h := lt_x hr7 h
    refine x_iconst (pc := 10) (v := (3 : Int32)) hC dX10_ban_10 (by decide) ?_
    refine x_iload_n (pc := 11) hC 2 dX10_ban_11 rfl rfl ?_
    refine x_iload_n (pc := 12) hC 3 dX10_ban_12 rfl rfl ?_
    refine x_if_eq (pc := 13) hC 20 dX10_ban_13 (by decide) (fun c8 => ?_) (fun c8 => ?_)
    · rw [if_pos c8] at h
      refine x_iconst (pc := 20) (v := (0 : Int32)) hC dX10_ban_20 (by decide) ?_
      refine x_pick [3, 0] rfl ?_
      exact t_X10_ban_21 hls hC hl hE h
    · rw [if_neg c8] at h
      refine x_iconst (pc := 16) (v := (1 : Int32)) hC dX10_ban_16 (by decide) ?_
      refine x_goto (pc := 17) hC 21 dX10_ban_17 (by decide) ?_
      refine x_pick [3, 0] rfl ?_
      exact t_X10_ban_21 hls hC hl hE h
  · exact xk_r (xt_out hC hE (bk_r h) (Nat.le_of_ble_eq_true rfl) (Nat.le_of_ble_eq_true rfl))
theorem c_X10_ban (l : Launch) (hls : l.stackTraces = false) {S : mS} {a0 : Nat} {a1 : Int32} {a2 : Int32} {o : Rs Int32} (h : f_X10_ban S a0 a1 a2 = some o) : CT (fun r : Int32 => some (.int r)) l yX10_ban (.code yX10_ban cX10_ban 4 (Option.some Jvm.ClassFile.FieldType.boolean)) rm_X10_ban S [.ref a0, .int a1, .int a2] o := ct_of (by decide +kernel) hls (Nat.le_of_ble_eq_true rfl) (fun C hl hC hE => t_X10_ban hls hC hl hE h)
abbrev rm_X10_request : Room := { frames := 11, cells := 1, slots := 6, locals := 216 }
def f_X10_request (S : mS) (a0 : Nat) (a1 : Int32) : Option (Rs Int32) :=
  gd (gK S a0 = 16) (bd (f_X10_discOf S a0 a1) fun r2 S3 => gd (gK S3 a0 = 16) (lt9 (gR S3 a0 2) fun r7 => gd (gK S3 r7 = 12) (bd (f_X6_note S3 r7 (4 : Int32) a1 (0 : Int32) (0 : Int32)) fun _ S10 => gd (gK S10 r2 = 8) (bd (f_X2_wish S10 r2) fun x14 S15 => gd (x14 = 0 ∨ x14 = 1) (some (.inl x14, S15))))))
set_option maxHeartbeats 2000000 in
set_option maxRecDepth 100000 in
theorem t_X10_request {l : Launch} (hls : l.stackTraces = false) {C : cT} (hC : CX C cX10_request 3 yX10_request rm_X10_request) (hl : C.2.1 = l) {S0 : mS} (hE : CE C S0 (Option.some Jvm.ClassFile.FieldType.boolean) []) {o : Rs Int32} {S : mS} {a0 : Nat} {a1 : Int32} (h : f_X10_request S a0 a1 = some o) : XX C 3 (QQ C (fun r : Int32 => some (.int r)) S0 o) 0 0 S 0 [(0, .ref a0), (1, .int a1)] [] := by
  unfold f_X10_request at h
  refine x_aload_n (pc := 0) hC 0 dX10_request_0 rfl rfl ?_
  refine x_iload_n (pc := 1) hC 1 dX10_request_1 rfl rfl ?_
  obtain ⟨g1, h⟩ := gd_some h
  obtain ⟨o4, ho4, h⟩ := bd_some h
  refine x_callV (pc := 2) (As := [.int a1]) (rest := []) hC hl (c_X10_discOf l hls ho4) lk_RX10_81 fc_16 g1 dX10_request_2 rfl rfl (Nat.le_of_ble_eq_true rfl) ⟨Nat.le_of_ble_eq_true rfl, Nat.le_of_ble_eq_true rfl⟩ ⟨(Nat.le_of_ble_eq_true rfl), (Nat.le_of_ble_eq_true rfl)⟩ ?_
  rcases o4 with ⟨r2 | E5, S3⟩
  · refine xk_a ?_
    replace h := bk_l h
    refine x_astore_n (pc := 5) hC dX10_request_5 rfl (by decide) (by decide) rfl ?_
    refine x_aload_n (pc := 6) hC 1 dX10_request_6 rfl rfl ?_
    obtain ⟨g6, h⟩ := gd_some h
    refine x_getRv (pc := 7) (k := 2) hC fc_16 fl_RX10_22 dX10_request_7 rfl g6 (fun r7 hr7 => ?_)
    replace h := lt_x hr7 h
    refine x_iconst (pc := 10) (v := (4 : Int32)) hC dX10_request_10 (by decide) ?_
    refine x_iload_n (pc := 11) hC 2 dX10_request_11 rfl rfl ?_
    refine x_iconst (pc := 12) (v := (0 : Int32)) hC dX10_request_12 (by decide) ?_
    refine x_iconst (pc := 13) (v := (0 : Int32)) hC dX10_request_13 (by decide) ?_
    obtain ⟨g8, h⟩ := gd_some h
    obtain ⟨o11, ho11, h⟩ := bd_some h
    refine x_callV (pc := 14) (As := [.int (4 : Int32), .int a1, .int (0 : Int32), .int (0 : Int32)]) (rest := []) hC hl (c_X6_note l hls ho11) lk_RX10_94 fc_12 g8 dX10_request_14 rfl rfl (Nat.le_of_ble_eq_true rfl) ⟨Nat.le_of_ble_eq_true rfl, Nat.le_of_ble_eq_true rfl⟩ ⟨(Nat.le_of_ble_eq_true rfl), (Nat.le_of_ble_eq_true rfl)⟩ ?_
    rcases o11 with ⟨_ | E12, S10⟩
    · refine xk_v ?_
      replace h := bk_l h
      refine x_aload_n (pc := 17) hC 0 dX10_request_17 rfl rfl ?_
      obtain ⟨g13, h⟩ := gd_some h
      obtain ⟨o16, ho16, h⟩ := bd_some h
      refine x_callV (pc := 18) (As := []) (rest := []) hC hl (c_X2_wish l hls ho16) lk_RX10_115 fc_8 g13 dX10_request_18 rfl rfl (Nat.le_of_ble_eq_true rfl) ⟨Nat.le_of_ble_eq_true rfl, Nat.le_of_ble_eq_true rfl⟩ ⟨(Nat.le_of_ble_eq_true rfl), (Nat.le_of_ble_eq_true rfl)⟩ ?_
      rcases o16 with ⟨x14 | E17, S15⟩
      · refine xk_i ?_
        replace h := bk_l h
        obtain ⟨g18, h⟩ := gd_some h
        exact x_zreturn (pc := 21) hC hE dX10_request_21 (nf_B g18).1 (so h) (Nat.le_of_ble_eq_true rfl) (Nat.le_of_ble_eq_true rfl)
      · exact xk_r (xt_out hC hE (bk_r h) (Nat.le_of_ble_eq_true rfl) (Nat.le_of_ble_eq_true rfl))
    · exact xk_r (xt_out hC hE (bk_r h) (Nat.le_of_ble_eq_true rfl) (Nat.le_of_ble_eq_true rfl))
  · exact xk_r (xt_out hC hE (bk_r h) (Nat.le_of_ble_eq_true rfl) (Nat.le_of_ble_eq_true rfl))
theorem c_X10_request (l : Launch) (hls : l.stackTraces = false) {S : mS} {a0 : Nat} {a1 : Int32} {o : Rs Int32} (h : f_X10_request S a0 a1 = some o) : CT (fun r : Int32 => some (.int r)) l yX10_request (.code yX10_request cX10_request 3 (Option.some Jvm.ClassFile.FieldType.boolean)) rm_X10_request S [.ref a0, .int a1] o := ct_of (by decide +kernel) hls (Nat.le_of_ble_eq_true rfl) (fun C hl hC hE => t_X10_request hls hC hl hE h)
abbrev rm_X10_deckOf : Room := { frames := 9, cells := 1, slots := 6, locals := 171 }
def f_X10_deckOf (S : mS) (a0 : Nat) (a1 : Int32) : Option (Rs Nat) :=
  gd (gK S a0 = 16) (lt9 (gR S a0 0) fun r2 => gd (gK S r2 = 14) (bd (f_X8_deckAt S r2 a1) fun r4 S5 => if r4 = 0 then (some (.inr "java/lang/IndexOutOfBoundsException", S5)) else (some (.inl r4, S5))))
set_option maxHeartbeats 2000000 in
set_option maxRecDepth 100000 in
theorem t_X10_deckOf {l : Launch} (hls : l.stackTraces = false) {C : cT} (hC : CX C cX10_deckOf 3 yX10_deckOf rm_X10_deckOf) (hl : C.2.1 = l) {S0 : mS} (hE : CE C S0 (Option.some (Jvm.ClassFile.FieldType.object "MixBooth$Deck")) []) {o : Rs Nat} {S : mS} {a0 : Nat} {a1 : Int32} (h : f_X10_deckOf S a0 a1 = some o) : XX C 3 (QQ C (fun r : Nat => some (.ref r)) S0 o) 0 0 S 0 [(0, .ref a0), (1, .int a1)] [] := by
  unfold f_X10_deckOf at h
  refine x_aload_n (pc := 0) hC 0 dX10_deckOf_0 rfl rfl ?_
  obtain ⟨g1, h⟩ := gd_some h
  refine x_getRv (pc := 1) (k := 0) hC fc_16 fl_RX10_10 dX10_deckOf_1 rfl g1 (fun r2 hr2 => ?_)
  replace h := lt_x hr2 h
  refine x_iload_n (pc := 4) hC 1 dX10_deckOf_4 rfl rfl ?_
  obtain ⟨g3, h⟩ := gd_some h
  obtain ⟨o6, ho6, h⟩ := bd_some h
  refine x_callV (pc := 5) (As := [.int a1]) (rest := []) hC hl (c_X8_deckAt l hls ho6) lk_RX10_435 fc_14 g3 dX10_deckOf_5 rfl rfl (Nat.le_of_ble_eq_true rfl) ⟨Nat.le_of_ble_eq_true rfl, Nat.le_of_ble_eq_true rfl⟩ ⟨(Nat.le_of_ble_eq_true rfl), (Nat.le_of_ble_eq_true rfl)⟩ ?_
  rcases o6 with ⟨r4 | E7, S5⟩
  · refine xk_a ?_
    replace h := bk_l h
    refine x_astore_n (pc := 8) hC dX10_deckOf_8 rfl (by decide) (by decide) rfl ?_
    refine x_aload_n (pc := 9) hC 0 dX10_deckOf_9 rfl rfl ?_
    refine x_ifnonnull (pc := 10) hC 24 dX10_deckOf_10 (by decide) (fun c8 => ?_) (fun c8 => ?_)
    · rw [if_neg c8] at h
      refine x_aload_n (pc := 24) hC 0 dX10_deckOf_24 rfl rfl ?_
      exact x_areturn (pc := 25) hC hE (Or.inl ⟨_, rfl⟩) dX10_deckOf_25 (so h) (Nat.le_of_ble_eq_true rfl) (Nat.le_of_ble_eq_true rfl)
    · rw [if_pos c8] at h
      exact x_throwSW (pc := 13) hC hE th_RX10_438_442_440 dX10_deckOf_13 dX10_deckOf_16 dX10_deckOf_17 dX10_deckOf_20 dX10_deckOf_23 (so h) (Nat.le_of_ble_eq_true rfl) (Nat.le_of_ble_eq_true rfl) (Nat.le_of_ble_eq_true rfl) (Nat.le_of_ble_eq_true rfl)
  · exact xk_r (xt_out hC hE (bk_r h) (Nat.le_of_ble_eq_true rfl) (Nat.le_of_ble_eq_true rfl))
theorem c_X10_deckOf (l : Launch) (hls : l.stackTraces = false) {S : mS} {a0 : Nat} {a1 : Int32} {o : Rs Nat} (h : f_X10_deckOf S a0 a1 = some o) : CT (fun r : Nat => some (.ref r)) l yX10_deckOf (.code yX10_deckOf cX10_deckOf 3 (Option.some (Jvm.ClassFile.FieldType.object "MixBooth$Deck"))) rm_X10_deckOf S [.ref a0, .int a1] o := ct_of (by decide +kernel) hls (Nat.le_of_ble_eq_true rfl) (fun C hl hC hE => t_X10_deckOf hls hC hl hE h)
abbrev rm_X10_load : Room := { frames := 11, cells := 3, slots := 18, locals := 216 }
def f_X10_load (S : mS) (a0 : Nat) (a1 : Int32) (a2 : Int32) : Option (Rs Int32) :=
  gd (gK S a0 = 16) (bd (f_X10_deckOf S a0 a1) fun r2 S3 => gd (gK S3 a0 = 16) (bd (f_X10_discOf S3 a0 a2) fun r7 S8 => gd (gK S8 r2 = 7) (lt9 (gI S8 r2 5) fun x12 => if x12 = 0 then (gd (gK S8 a0 = 16) (lt9 (gR S8 a0 2) fun r14 => gd (gK S8 r14 = 12) (bd (f_X6_note S8 r14 (5 : Int32) a1 a2 (0 : Int32)) fun _ S17 => gd (gK S17 r2 = 7) (bd (f_X1_putOn S17 r2 r7) fun x21 S22 => some (.inl x21, S22))))) else (some (.inr "java/lang/UnsupportedOperationException", S8)))))
set_option maxHeartbeats 2000000 in
set_option maxRecDepth 100000 in
theorem t_X10_load {l : Launch} (hls : l.stackTraces = false) {C : cT} (hC : CX C cX10_load 5 yX10_load rm_X10_load) (hl : C.2.1 = l) {S0 : mS} (hE : CE C S0 (Option.some Jvm.ClassFile.FieldType.int) []) {o : Rs Int32} {S : mS} {a0 : Nat} {a1 : Int32} {a2 : Int32} (h : f_X10_load S a0 a1 a2 = some o) : XX C 5 (QQ C (fun r : Int32 => some (.int r)) S0 o) 0 0 S 0 [(0, .ref a0), (1, .int a1), (2, .int a2)] [] := by
  unfold f_X10_load at h
  refine x_aload_n (pc := 0) hC 0 dX10_load_0 rfl rfl ?_
  refine x_iload_n (pc := 1) hC 1 dX10_load_1 rfl rfl ?_
  obtain ⟨g1, h⟩ := gd_some h
  obtain ⟨o4, ho4, h⟩ := bd_some h
  refine x_callV (pc := 2) (As := [.int a1]) (rest := []) hC hl (c_X10_deckOf l hls ho4) lk_RX10_119 fc_16 g1 dX10_load_2 rfl rfl (Nat.le_of_ble_eq_true rfl) ⟨Nat.le_of_ble_eq_true rfl, Nat.le_of_ble_eq_true rfl⟩ ⟨(Nat.le_of_ble_eq_true rfl), (Nat.le_of_ble_eq_true rfl)⟩ ?_
  rcases o4 with ⟨r2 | E5, S3⟩
  · refine xk_a ?_
    replace h := bk_l h
    refine x_astore_n (pc := 5) hC dX10_load_5 rfl (by decide) (by decide) rfl ?_
    refine x_aload_n (pc := 6) hC 1 dX10_load_6 rfl rfl ?_
    refine x_iload_n (pc := 7) hC 3 dX10_load_7 rfl rfl ?_
    obtain ⟨g6, h⟩ := gd_some h
    obtain ⟨o9, ho9, h⟩ := bd_some h
    refine x_callV (pc := 8) (As := [.int a2]) (rest := []) hC hl (c_X10_discOf l hls ho9) lk_RX10_81 fc_16 g6 dX10_load_8 rfl rfl (Nat.le_of_ble_eq_true rfl) ⟨Nat.le_of_ble_eq_true rfl, Nat.le_of_ble_eq_true rfl⟩ ⟨(Nat.le_of_ble_eq_true rfl), (Nat.le_of_ble_eq_true rfl)⟩ ?_
    rcases o9 with ⟨r7 | E10, S8⟩
    · refine xk_a ?_
      replace h := bk_l h
      refine x_astore (pc := 11) hC dX10_load_11 (by decide) (by decide) rfl ?_
      refine x_aload_n (pc := 13) hC 1 dX10_load_13 rfl rfl ?_
      obtain ⟨g11, h⟩ := gd_some h
      refine x_getIv (pc := 14) (k := 5) hC fc_7 fl_RX10_123 dX10_load_14 rfl g11 (fun x12 hx12 => ?_)
      replace h := lt_x hx12 h
      refine x_if_eq (pc := 17) hC 30 dX10_load_17 (by decide) (fun c25 => ?_) (fun c25 => ?_)
      · rw [if_pos c25] at h
        refine x_aload_n (pc := 30) hC 2 dX10_load_30 rfl rfl ?_
        obtain ⟨g13, h⟩ := gd_some h
        refine x_getRv (pc := 31) (k := 2) hC fc_16 fl_RX10_22 dX10_load_31 rfl g13 (fun r14 hr14 => ?_)
        replace h := lt_x hr14 h
        refine x_iconst (pc := 34) (v := (5 : Int32)) hC dX10_load_34 (by decide) ?_
        refine x_iload_n (pc := 35) hC 3 dX10_load_35 rfl rfl ?_
        refine x_iload_n (pc := 36) hC 4 dX10_load_36 rfl rfl ?_
        refine x_iconst (pc := 37) (v := (0 : Int32)) hC dX10_load_37 (by decide) ?_
        obtain ⟨g15, h⟩ := gd_some h
        obtain ⟨o18, ho18, h⟩ := bd_some h
        refine x_callV (pc := 38) (As := [.int (5 : Int32), .int a1, .int a2, .int (0 : Int32)]) (rest := []) hC hl (c_X6_note l hls ho18) lk_RX10_94 fc_12 g15 dX10_load_38 rfl rfl (Nat.le_of_ble_eq_true rfl) ⟨Nat.le_of_ble_eq_true rfl, Nat.le_of_ble_eq_true rfl⟩ ⟨(Nat.le_of_ble_eq_true rfl), (Nat.le_of_ble_eq_true rfl)⟩ ?_
        rcases o18 with ⟨_ | E19, S17⟩
        · refine xk_v ?_
          replace h := bk_l h
          refine x_aload_n (pc := 41) hC 1 dX10_load_41 rfl rfl ?_
          refine x_aload (pc := 42) hC 0 dX10_load_42 rfl ?_
          obtain ⟨g20, h⟩ := gd_some h
          obtain ⟨o23, ho23, h⟩ := bd_some h
          refine x_callV (pc := 44) (As := [.ref r7]) (rest := []) hC hl (c_X1_putOn l hls ho23) lk_RX10_131 fc_7 g20 dX10_load_44 rfl rfl (Nat.le_of_ble_eq_true rfl) ⟨Nat.le_of_ble_eq_true rfl, Nat.le_of_ble_eq_true rfl⟩ ⟨(Nat.le_of_ble_eq_true rfl), (Nat.le_of_ble_eq_true rfl)⟩ ?_
          rcases o23 with ⟨x21 | E24, S22⟩
          · refine xk_i ?_
            replace h := bk_l h
            exact x_ireturn (pc := 47) hC hE dX10_load_47 (so h) (Nat.le_of_ble_eq_true rfl) (Nat.le_of_ble_eq_true rfl)
          · exact xk_r (xt_out hC hE (bk_r h) (Nat.le_of_ble_eq_true rfl) (Nat.le_of_ble_eq_true rfl))
        · exact xk_r (xt_out hC hE (bk_r h) (Nat.le_of_ble_eq_true rfl) (Nat.le_of_ble_eq_true rfl))
      · rw [if_neg c25] at h
        exact x_throwS (pc := 20) hC hE th_RX10_89_93_129 dX10_load_20 dX10_load_23 dX10_load_24 dX10_load_26 dX10_load_29 (so h) (Nat.le_of_ble_eq_true rfl) (Nat.le_of_ble_eq_true rfl) (Nat.le_of_ble_eq_true rfl) (Nat.le_of_ble_eq_true rfl)
    · exact xk_r (xt_out hC hE (bk_r h) (Nat.le_of_ble_eq_true rfl) (Nat.le_of_ble_eq_true rfl))
  · exact xk_r (xt_out hC hE (bk_r h) (Nat.le_of_ble_eq_true rfl) (Nat.le_of_ble_eq_true rfl))
theorem c_X10_load (l : Launch) (hls : l.stackTraces = false) {S : mS} {a0 : Nat} {a1 : Int32} {a2 : Int32} {o : Rs Int32} (h : f_X10_load S a0 a1 a2 = some o) : CT (fun r : Int32 => some (.int r)) l yX10_load (.code yX10_load cX10_load 5 (Option.some Jvm.ClassFile.FieldType.int)) rm_X10_load S [.ref a0, .int a1, .int a2] o := ct_of (by decide +kernel) hls (Nat.le_of_ble_eq_true rfl) (fun C hl hC hE => t_X10_load hls hC hl hE h)
abbrev rm_X10_demandRecord : Room := { frames := 8, cells := 1, slots := 6, locals := 150 }
def f_X10_demandRecord (S : mS) (a0 : Nat) : Option (Rs Unit) :=
  gd (gK S a0 = 7) (lt9 (gR S a0 2) fun r2 => if r2 = 0 then (some (.inr "java/lang/UnsupportedOperationException", S)) else (some (.inl (), S)))
set_option maxHeartbeats 2000000 in
set_option maxRecDepth 100000 in
theorem t_X10_demandRecord {l : Launch} (hls : l.stackTraces = false) {C : cT} (hC : CX C cX10_demandRecord 1 yX10_demandRecord rm_X10_demandRecord) (hl : C.2.1 = l) {S0 : mS} (hE : CE C S0 (Option.none : Option Jvm.ClassFile.FieldType) []) {o : Rs Unit} {S : mS} {a0 : Nat} (h : f_X10_demandRecord S a0 = some o) : XX C 1 (QQ C (fun _ : Unit => none) S0 o) 0 0 S 0 [(0, .ref a0)] [] := by
  unfold f_X10_demandRecord at h
  refine x_aload_n (pc := 0) hC 0 dX10_demandRecord_0 rfl rfl ?_
  obtain ⟨g1, h⟩ := gd_some h
  refine x_getRv (pc := 1) (k := 2) hC fc_7 fl_RX10_185 dX10_demandRecord_1 rfl g1 (fun r2 hr2 => ?_)
  replace h := lt_x hr2 h
  refine x_ifnonnull (pc := 4) hC 17 dX10_demandRecord_4 (by decide) (fun c3 => ?_) (fun c3 => ?_)
  · rw [if_neg c3] at h
    exact x_vreturn (pc := 17) hC hE dX10_demandRecord_17 (so h) (Nat.le_of_ble_eq_true rfl) (Nat.le_of_ble_eq_true rfl)
  · rw [if_pos c3] at h
    exact x_throwS (pc := 7) hC hE th_RX10_89_93_191 dX10_demandRecord_7 dX10_demandRecord_10 dX10_demandRecord_11 dX10_demandRecord_13 dX10_demandRecord_16 (so h) (Nat.le_of_ble_eq_true rfl) (Nat.le_of_ble_eq_true rfl) (Nat.le_of_ble_eq_true rfl) (Nat.le_of_ble_eq_true rfl)
theorem c_X10_demandRecord (l : Launch) (hls : l.stackTraces = false) {S : mS} {a0 : Nat} {o : Rs Unit} (h : f_X10_demandRecord S a0 = some o) : CT (fun _ : Unit => none) l yX10_demandRecord (.code yX10_demandRecord cX10_demandRecord 1 (Option.none : Option Jvm.ClassFile.FieldType)) rm_X10_demandRecord S [.ref a0] o := ct_of (by decide +kernel) hls (Nat.le_of_ble_eq_true rfl) (fun C hl hC hE => t_X10_demandRecord hls hC hl hE h)
abbrev rm_X10_play : Room := { frames := 11, cells := 2, slots := 12, locals := 216 }
def f_X10_play (S : mS) (a0 : Nat) (a1 : Int32) : Option (Rs Int32) :=
  gd (gK S a0 = 16) (bd (f_X10_deckOf S a0 a1) fun r2 S3 => bd (f_X10_demandRecord S3 r2) fun _ S7 => gd (gK S7 a0 = 16) (lt9 (gR S7 a0 2) fun r11 => gd (gK S7 r11 = 12) (bd (f_X6_note S7 r11 (6 : Int32) a1 (0 : Int32) (0 : Int32)) fun _ S14 => gd (gK S14 r2 = 7) (bd (f_X1_start S14 r2) fun x18 S19 => gd (x18 = 0 ∨ x18 = 1) (some (.inl x18, S19))))))
set_option maxHeartbeats 2000000 in
set_option maxRecDepth 100000 in
theorem t_X10_play {l : Launch} (hls : l.stackTraces = false) {C : cT} (hC : CX C cX10_play 3 yX10_play rm_X10_play) (hl : C.2.1 = l) {S0 : mS} (hE : CE C S0 (Option.some Jvm.ClassFile.FieldType.boolean) []) {o : Rs Int32} {S : mS} {a0 : Nat} {a1 : Int32} (h : f_X10_play S a0 a1 = some o) : XX C 3 (QQ C (fun r : Int32 => some (.int r)) S0 o) 0 0 S 0 [(0, .ref a0), (1, .int a1)] [] := by
  unfold f_X10_play at h
  refine x_aload_n (pc := 0) hC 0 dX10_play_0 rfl rfl ?_
  refine x_iload_n (pc := 1) hC 1 dX10_play_1 rfl rfl ?_
  obtain ⟨g1, h⟩ := gd_some h
  obtain ⟨o4, ho4, h⟩ := bd_some h
  refine x_callV (pc := 2) (As := [.int a1]) (rest := []) hC hl (c_X10_deckOf l hls ho4) lk_RX10_119 fc_16 g1 dX10_play_2 rfl rfl (Nat.le_of_ble_eq_true rfl) ⟨Nat.le_of_ble_eq_true rfl, Nat.le_of_ble_eq_true rfl⟩ ⟨(Nat.le_of_ble_eq_true rfl), (Nat.le_of_ble_eq_true rfl)⟩ ?_
  rcases o4 with ⟨r2 | E5, S3⟩
  · refine xk_a ?_
    replace h := bk_l h
    refine x_astore_n (pc := 5) hC dX10_play_5 rfl (by decide) (by decide) rfl ?_
    refine x_aload_n (pc := 6) hC 0 dX10_play_6 rfl rfl ?_
    obtain ⟨o8, ho8, h⟩ := bd_some h
    refine x_callS (pc := 7) (As := [.ref r2]) (rest := []) hC hl (c_X10_demandRecord l hls ho8) lk_RX10_135 dX10_play_7 rfl rfl (Nat.le_of_ble_eq_true rfl) ⟨Nat.le_of_ble_eq_true rfl, Nat.le_of_ble_eq_true rfl⟩ ⟨(Nat.le_of_ble_eq_true rfl), (Nat.le_of_ble_eq_true rfl)⟩ ?_
    rcases o8 with ⟨_ | E9, S7⟩
    · refine xk_v ?_
      replace h := bk_l h
      refine x_aload_n (pc := 10) hC 1 dX10_play_10 rfl rfl ?_
      obtain ⟨g10, h⟩ := gd_some h
      refine x_getRv (pc := 11) (k := 2) hC fc_16 fl_RX10_22 dX10_play_11 rfl g10 (fun r11 hr11 => ?_)
      replace h := lt_x hr11 h
      refine x_bipush (pc := 14) (v := (6 : Int32)) hC dX10_play_14 (by decide) ?_
      refine x_iload_n (pc := 16) hC 2 dX10_play_16 rfl rfl ?_
      refine x_iconst (pc := 17) (v := (0 : Int32)) hC dX10_play_17 (by decide) ?_
      refine x_iconst (pc := 18) (v := (0 : Int32)) hC dX10_play_18 (by decide) ?_
      obtain ⟨g12, h⟩ := gd_some h
      obtain ⟨o15, ho15, h⟩ := bd_some h
      refine x_callV (pc := 19) (As := [.int (6 : Int32), .int a1, .int (0 : Int32), .int (0 : Int32)]) (rest := []) hC hl (c_X6_note l hls ho15) lk_RX10_94 fc_12 g12 dX10_play_19 rfl rfl (Nat.le_of_ble_eq_true rfl) ⟨Nat.le_of_ble_eq_true rfl, Nat.le_of_ble_eq_true rfl⟩ ⟨(Nat.le_of_ble_eq_true rfl), (Nat.le_of_ble_eq_true rfl)⟩ ?_
      rcases o15 with ⟨_ | E16, S14⟩
      · refine xk_v ?_
        replace h := bk_l h
        refine x_aload_n (pc := 22) hC 0 dX10_play_22 rfl rfl ?_
        obtain ⟨g17, h⟩ := gd_some h
        obtain ⟨o20, ho20, h⟩ := bd_some h
        refine x_callV (pc := 23) (As := []) (rest := []) hC hl (c_X1_start l hls ho20) lk_RX10_139 fc_7 g17 dX10_play_23 rfl rfl (Nat.le_of_ble_eq_true rfl) ⟨Nat.le_of_ble_eq_true rfl, Nat.le_of_ble_eq_true rfl⟩ ⟨(Nat.le_of_ble_eq_true rfl), (Nat.le_of_ble_eq_true rfl)⟩ ?_
        rcases o20 with ⟨x18 | E21, S19⟩
        · refine xk_i ?_
          replace h := bk_l h
          obtain ⟨g22, h⟩ := gd_some h
          exact x_zreturn (pc := 26) hC hE dX10_play_26 (nf_B g22).1 (so h) (Nat.le_of_ble_eq_true rfl) (Nat.le_of_ble_eq_true rfl)
        · exact xk_r (xt_out hC hE (bk_r h) (Nat.le_of_ble_eq_true rfl) (Nat.le_of_ble_eq_true rfl))
      · exact xk_r (xt_out hC hE (bk_r h) (Nat.le_of_ble_eq_true rfl) (Nat.le_of_ble_eq_true rfl))
    · exact xk_r (xt_out hC hE (bk_r h) (Nat.le_of_ble_eq_true rfl) (Nat.le_of_ble_eq_true rfl))
  · exact xk_r (xt_out hC hE (bk_r h) (Nat.le_of_ble_eq_true rfl) (Nat.le_of_ble_eq_true rfl))
theorem c_X10_play (l : Launch) (hls : l.stackTraces = false) {S : mS} {a0 : Nat} {a1 : Int32} {o : Rs Int32} (h : f_X10_play S a0 a1 = some o) : CT (fun r : Int32 => some (.int r)) l yX10_play (.code yX10_play cX10_play 3 (Option.some Jvm.ClassFile.FieldType.boolean)) rm_X10_play S [.ref a0, .int a1] o := ct_of (by decide +kernel) hls (Nat.le_of_ble_eq_true rfl) (fun C hl hC hE => t_X10_play hls hC hl hE h)
abbrev rm_X10_stop : Room := { frames := 11, cells := 1, slots := 6, locals := 216 }
def f_X10_stop (S : mS) (a0 : Nat) (a1 : Int32) : Option (Rs Int32) :=
  gd (gK S a0 = 16) (bd (f_X10_deckOf S a0 a1) fun r2 S3 => gd (gK S3 a0 = 16) (lt9 (gR S3 a0 2) fun r7 => gd (gK S3 r7 = 12) (bd (f_X6_note S3 r7 (7 : Int32) a1 (0 : Int32) (0 : Int32)) fun _ S10 => gd (gK S10 r2 = 7) (bd (f_X1_halt S10 r2) fun x14 S15 => gd (x14 = 0 ∨ x14 = 1) (some (.inl x14, S15))))))
set_option maxHeartbeats 2000000 in
set_option maxRecDepth 100000 in
theorem t_X10_stop {l : Launch} (hls : l.stackTraces = false) {C : cT} (hC : CX C cX10_stop 3 yX10_stop rm_X10_stop) (hl : C.2.1 = l) {S0 : mS} (hE : CE C S0 (Option.some Jvm.ClassFile.FieldType.boolean) []) {o : Rs Int32} {S : mS} {a0 : Nat} {a1 : Int32} (h : f_X10_stop S a0 a1 = some o) : XX C 3 (QQ C (fun r : Int32 => some (.int r)) S0 o) 0 0 S 0 [(0, .ref a0), (1, .int a1)] [] := by
  unfold f_X10_stop at h
  refine x_aload_n (pc := 0) hC 0 dX10_stop_0 rfl rfl ?_
  refine x_iload_n (pc := 1) hC 1 dX10_stop_1 rfl rfl ?_
  obtain ⟨g1, h⟩ := gd_some h
  obtain ⟨o4, ho4, h⟩ := bd_some h
  refine x_callV (pc := 2) (As := [.int a1]) (rest := []) hC hl (c_X10_deckOf l hls ho4) lk_RX10_119 fc_16 g1 dX10_stop_2 rfl rfl (Nat.le_of_ble_eq_true rfl) ⟨Nat.le_of_ble_eq_true rfl, Nat.le_of_ble_eq_true rfl⟩ ⟨(Nat.le_of_ble_eq_true rfl), (Nat.le_of_ble_eq_true rfl)⟩ ?_
  rcases o4 with ⟨r2 | E5, S3⟩
  · refine xk_a ?_
    replace h := bk_l h
    refine x_astore_n (pc := 5) hC dX10_stop_5 rfl (by decide) (by decide) rfl ?_
    refine x_aload_n (pc := 6) hC 1 dX10_stop_6 rfl rfl ?_
    obtain ⟨g6, h⟩ := gd_some h
    refine x_getRv (pc := 7) (k := 2) hC fc_16 fl_RX10_22 dX10_stop_7 rfl g6 (fun r7 hr7 => ?_)
    replace h := lt_x hr7 h
    refine x_bipush (pc := 10) (v := (7 : Int32)) hC dX10_stop_10 (by decide) ?_
    refine x_iload_n (pc := 12) hC 2 dX10_stop_12 rfl rfl ?_
    refine x_iconst (pc := 13) (v := (0 : Int32)) hC dX10_stop_13 (by decide) ?_
    refine x_iconst (pc := 14) (v := (0 : Int32)) hC dX10_stop_14 (by decide) ?_
    obtain ⟨g8, h⟩ := gd_some h
    obtain ⟨o11, ho11, h⟩ := bd_some h
    refine x_callV (pc := 15) (As := [.int (7 : Int32), .int a1, .int (0 : Int32), .int (0 : Int32)]) (rest := []) hC hl (c_X6_note l hls ho11) lk_RX10_94 fc_12 g8 dX10_stop_15 rfl rfl (Nat.le_of_ble_eq_true rfl) ⟨Nat.le_of_ble_eq_true rfl, Nat.le_of_ble_eq_true rfl⟩ ⟨(Nat.le_of_ble_eq_true rfl), (Nat.le_of_ble_eq_true rfl)⟩ ?_
    rcases o11 with ⟨_ | E12, S10⟩
    · refine xk_v ?_
      replace h := bk_l h
      refine x_aload_n (pc := 18) hC 0 dX10_stop_18 rfl rfl ?_
      obtain ⟨g13, h⟩ := gd_some h
      obtain ⟨o16, ho16, h⟩ := bd_some h
      refine x_callV (pc := 19) (As := []) (rest := []) hC hl (c_X1_halt l hls ho16) lk_RX10_142 fc_7 g13 dX10_stop_19 rfl rfl (Nat.le_of_ble_eq_true rfl) ⟨Nat.le_of_ble_eq_true rfl, Nat.le_of_ble_eq_true rfl⟩ ⟨(Nat.le_of_ble_eq_true rfl), (Nat.le_of_ble_eq_true rfl)⟩ ?_
      rcases o16 with ⟨x14 | E17, S15⟩
      · refine xk_i ?_
        replace h := bk_l h
        obtain ⟨g18, h⟩ := gd_some h
        exact x_zreturn (pc := 22) hC hE dX10_stop_22 (nf_B g18).1 (so h) (Nat.le_of_ble_eq_true rfl) (Nat.le_of_ble_eq_true rfl)
      · exact xk_r (xt_out hC hE (bk_r h) (Nat.le_of_ble_eq_true rfl) (Nat.le_of_ble_eq_true rfl))
    · exact xk_r (xt_out hC hE (bk_r h) (Nat.le_of_ble_eq_true rfl) (Nat.le_of_ble_eq_true rfl))
  · exact xk_r (xt_out hC hE (bk_r h) (Nat.le_of_ble_eq_true rfl) (Nat.le_of_ble_eq_true rfl))
theorem c_X10_stop (l : Launch) (hls : l.stackTraces = false) {S : mS} {a0 : Nat} {a1 : Int32} {o : Rs Int32} (h : f_X10_stop S a0 a1 = some o) : CT (fun r : Int32 => some (.int r)) l yX10_stop (.code yX10_stop cX10_stop 3 (Option.some Jvm.ClassFile.FieldType.boolean)) rm_X10_stop S [.ref a0, .int a1] o := ct_of (by decide +kernel) hls (Nat.le_of_ble_eq_true rfl) (fun C hl hC hE => t_X10_stop hls hC hl hE h)
abbrev rm_X10_setPitch : Room := { frames := 11, cells := 2, slots := 12, locals := 216 }
def f_X10_setPitch (S : mS) (a0 : Nat) (a1 : Int32) (a2 : Int32) : Option (Rs Int32) :=
  gd (gK S a0 = 16) (bd (f_X10_deckOf S a0 a1) fun r2 S3 => bd (f_X10_isIn S3 a2 (-160 : Int32) (160 : Int32)) fun x6 S7 => bd (f_X10_demand S7 x6) fun _ S11 => gd (gK S11 a0 = 16) (lt9 (gR S11 a0 2) fun r15 => gd (gK S11 r15 = 12) (bd (f_X6_note S11 r15 (8 : Int32) a1 a2 (0 : Int32)) fun _ S18 => gd (gK S18 r2 = 7) (bd (f_X1_takePitch S18 r2 a2) fun x22 S23 => some (.inl x22, S23)))))
set_option maxHeartbeats 2000000 in
set_option maxRecDepth 100000 in
theorem t_X10_setPitch {l : Launch} (hls : l.stackTraces = false) {C : cT} (hC : CX C cX10_setPitch 4 yX10_setPitch rm_X10_setPitch) (hl : C.2.1 = l) {S0 : mS} (hE : CE C S0 (Option.some Jvm.ClassFile.FieldType.int) []) {o : Rs Int32} {S : mS} {a0 : Nat} {a1 : Int32} {a2 : Int32} (h : f_X10_setPitch S a0 a1 a2 = some o) : XX C 4 (QQ C (fun r : Int32 => some (.int r)) S0 o) 0 0 S 0 [(0, .ref a0), (1, .int a1), (2, .int a2)] [] := by
  unfold f_X10_setPitch at h
  refine x_aload_n (pc := 0) hC 0 dX10_setPitch_0 rfl rfl ?_
  refine x_iload_n (pc := 1) hC 1 dX10_setPitch_1 rfl rfl ?_
  obtain ⟨g1, h⟩ := gd_some h
  obtain ⟨o4, ho4, h⟩ := bd_some h
  refine x_callV (pc := 2) (As := [.int a1]) (rest := []) hC hl (c_X10_deckOf l hls ho4) lk_RX10_119 fc_16 g1 dX10_setPitch_2 rfl rfl (Nat.le_of_ble_eq_true rfl) ⟨Nat.le_of_ble_eq_true rfl, Nat.le_of_ble_eq_true rfl⟩ ⟨(Nat.le_of_ble_eq_true rfl), (Nat.le_of_ble_eq_true rfl)⟩ ?_
  rcases o4 with ⟨r2 | E5, S3⟩
  · refine xk_a ?_
    replace h := bk_l h
    refine x_astore_n (pc := 5) hC dX10_setPitch_5 rfl (by decide) (by decide) rfl ?_
    refine x_iload_n (pc := 6) hC 3 dX10_setPitch_6 rfl rfl ?_
    refine x_sipush (pc := 7) (v := (-160 : Int32)) hC dX10_setPitch_7 (by decide) ?_
    refine x_sipush (pc := 10) (v := (160 : Int32)) hC dX10_setPitch_10 (by decide) ?_
    obtain ⟨o8, ho8, h⟩ := bd_some h
    refine x_callS (pc := 13) (As := [.int a2, .int (-160 : Int32), .int (160 : Int32)]) (rest := []) hC hl (c_X10_isIn l hls ho8) lk_RX10_46 dX10_setPitch_13 rfl rfl (Nat.le_of_ble_eq_true rfl) ⟨Nat.le_of_ble_eq_true rfl, Nat.le_of_ble_eq_true rfl⟩ ⟨(Nat.le_of_ble_eq_true rfl), (Nat.le_of_ble_eq_true rfl)⟩ ?_
    rcases o8 with ⟨x6 | E9, S7⟩
    · refine xk_i ?_
      replace h := bk_l h
      obtain ⟨o12, ho12, h⟩ := bd_some h
      refine x_callS (pc := 16) (As := [.int x6]) (rest := []) hC hl (c_X10_demand l hls ho12) lk_RX10_50 dX10_setPitch_16 rfl rfl (Nat.le_of_ble_eq_true rfl) ⟨Nat.le_of_ble_eq_true rfl, Nat.le_of_ble_eq_true rfl⟩ ⟨(Nat.le_of_ble_eq_true rfl), (Nat.le_of_ble_eq_true rfl)⟩ ?_
      rcases o12 with ⟨_ | E13, S11⟩
      · refine xk_v ?_
        replace h := bk_l h
        refine x_aload_n (pc := 19) hC 1 dX10_setPitch_19 rfl rfl ?_
        obtain ⟨g14, h⟩ := gd_some h
        refine x_getRv (pc := 20) (k := 2) hC fc_16 fl_RX10_22 dX10_setPitch_20 rfl g14 (fun r15 hr15 => ?_)
        replace h := lt_x hr15 h
        refine x_bipush (pc := 23) (v := (8 : Int32)) hC dX10_setPitch_23 (by decide) ?_
        refine x_iload_n (pc := 25) hC 2 dX10_setPitch_25 rfl rfl ?_
        refine x_iload_n (pc := 26) hC 3 dX10_setPitch_26 rfl rfl ?_
        refine x_iconst (pc := 27) (v := (0 : Int32)) hC dX10_setPitch_27 (by decide) ?_
        obtain ⟨g16, h⟩ := gd_some h
        obtain ⟨o19, ho19, h⟩ := bd_some h
        refine x_callV (pc := 28) (As := [.int (8 : Int32), .int a1, .int a2, .int (0 : Int32)]) (rest := []) hC hl (c_X6_note l hls ho19) lk_RX10_94 fc_12 g16 dX10_setPitch_28 rfl rfl (Nat.le_of_ble_eq_true rfl) ⟨Nat.le_of_ble_eq_true rfl, Nat.le_of_ble_eq_true rfl⟩ ⟨(Nat.le_of_ble_eq_true rfl), (Nat.le_of_ble_eq_true rfl)⟩ ?_
        rcases o19 with ⟨_ | E20, S18⟩
        · refine xk_v ?_
          replace h := bk_l h
          refine x_aload_n (pc := 31) hC 0 dX10_setPitch_31 rfl rfl ?_
          refine x_iload_n (pc := 32) hC 3 dX10_setPitch_32 rfl rfl ?_
          obtain ⟨g21, h⟩ := gd_some h
          obtain ⟨o24, ho24, h⟩ := bd_some h
          refine x_callV (pc := 33) (As := [.int a2]) (rest := []) hC hl (c_X1_takePitch l hls ho24) lk_RX10_145 fc_7 g21 dX10_setPitch_33 rfl rfl (Nat.le_of_ble_eq_true rfl) ⟨Nat.le_of_ble_eq_true rfl, Nat.le_of_ble_eq_true rfl⟩ ⟨(Nat.le_of_ble_eq_true rfl), (Nat.le_of_ble_eq_true rfl)⟩ ?_
          rcases o24 with ⟨x22 | E25, S23⟩
          · refine xk_i ?_
            replace h := bk_l h
            exact x_ireturn (pc := 36) hC hE dX10_setPitch_36 (so h) (Nat.le_of_ble_eq_true rfl) (Nat.le_of_ble_eq_true rfl)
          · exact xk_r (xt_out hC hE (bk_r h) (Nat.le_of_ble_eq_true rfl) (Nat.le_of_ble_eq_true rfl))
        · exact xk_r (xt_out hC hE (bk_r h) (Nat.le_of_ble_eq_true rfl) (Nat.le_of_ble_eq_true rfl))
      · exact xk_r (xt_out hC hE (bk_r h) (Nat.le_of_ble_eq_true rfl) (Nat.le_of_ble_eq_true rfl))
    · exact xk_r (xt_out hC hE (bk_r h) (Nat.le_of_ble_eq_true rfl) (Nat.le_of_ble_eq_true rfl))
  · exact xk_r (xt_out hC hE (bk_r h) (Nat.le_of_ble_eq_true rfl) (Nat.le_of_ble_eq_true rfl))
theorem c_X10_setPitch (l : Launch) (hls : l.stackTraces = false) {S : mS} {a0 : Nat} {a1 : Int32} {a2 : Int32} {o : Rs Int32} (h : f_X10_setPitch S a0 a1 a2 = some o) : CT (fun r : Int32 => some (.int r)) l yX10_setPitch (.code yX10_setPitch cX10_setPitch 4 (Option.some Jvm.ClassFile.FieldType.int)) rm_X10_setPitch S [.ref a0, .int a1, .int a2] o := ct_of (by decide +kernel) hls (Nat.le_of_ble_eq_true rfl) (fun C hl hC hE => t_X10_setPitch hls hC hl hE h)
abbrev rm_X10_nudge : Room := { frames := 11, cells := 3, slots := 18, locals := 216 }
def f_X10_nudge (S : mS) (a0 : Nat) (a1 : Int32) (a2 : Int32) : Option (Rs Int32) :=
  gd (gK S a0 = 16) (bd (f_X10_deckOf S a0 a1) fun r2 S3 => bd (f_X10_isIn S3 a2 (-200 : Int32) (200 : Int32)) fun x6 S7 => bd (f_X10_demand S7 x6) fun _ S11 => bd (f_X10_demandRecord S11 r2) fun _ S15 => gd (gK S15 a0 = 16) (lt9 (gR S15 a0 2) fun r19 => gd (gK S15 r19 = 12) (bd (f_X6_note S15 r19 (9 : Int32) a1 a2 (0 : Int32)) fun _ S22 => gd (gK S22 r2 = 7) (bd (f_X1_push S22 r2 a2) fun x26 S27 => some (.inl x26, S27)))))
set_option maxHeartbeats 2000000 in
set_option maxRecDepth 100000 in
theorem t_X10_nudge {l : Launch} (hls : l.stackTraces = false) {C : cT} (hC : CX C cX10_nudge 4 yX10_nudge rm_X10_nudge) (hl : C.2.1 = l) {S0 : mS} (hE : CE C S0 (Option.some Jvm.ClassFile.FieldType.int) []) {o : Rs Int32} {S : mS} {a0 : Nat} {a1 : Int32} {a2 : Int32} (h : f_X10_nudge S a0 a1 a2 = some o) : XX C 4 (QQ C (fun r : Int32 => some (.int r)) S0 o) 0 0 S 0 [(0, .ref a0), (1, .int a1), (2, .int a2)] [] := by
  unfold f_X10_nudge at h
  refine x_aload_n (pc := 0) hC 0 dX10_nudge_0 rfl rfl ?_
  refine x_iload_n (pc := 1) hC 1 dX10_nudge_1 rfl rfl ?_
  obtain ⟨g1, h⟩ := gd_some h
  obtain ⟨o4, ho4, h⟩ := bd_some h
  refine x_callV (pc := 2) (As := [.int a1]) (rest := []) hC hl (c_X10_deckOf l hls ho4) lk_RX10_119 fc_16 g1 dX10_nudge_2 rfl rfl (Nat.le_of_ble_eq_true rfl) ⟨Nat.le_of_ble_eq_true rfl, Nat.le_of_ble_eq_true rfl⟩ ⟨(Nat.le_of_ble_eq_true rfl), (Nat.le_of_ble_eq_true rfl)⟩ ?_
  rcases o4 with ⟨r2 | E5, S3⟩
  · refine xk_a ?_
    replace h := bk_l h
    refine x_astore_n (pc := 5) hC dX10_nudge_5 rfl (by decide) (by decide) rfl ?_
    refine x_iload_n (pc := 6) hC 3 dX10_nudge_6 rfl rfl ?_
    refine x_sipush (pc := 7) (v := (-200 : Int32)) hC dX10_nudge_7 (by decide) ?_
    refine x_sipush (pc := 10) (v := (200 : Int32)) hC dX10_nudge_10 (by decide) ?_
    obtain ⟨o8, ho8, h⟩ := bd_some h
    refine x_callS (pc := 13) (As := [.int a2, .int (-200 : Int32), .int (200 : Int32)]) (rest := []) hC hl (c_X10_isIn l hls ho8) lk_RX10_46 dX10_nudge_13 rfl rfl (Nat.le_of_ble_eq_true rfl) ⟨Nat.le_of_ble_eq_true rfl, Nat.le_of_ble_eq_true rfl⟩ ⟨(Nat.le_of_ble_eq_true rfl), (Nat.le_of_ble_eq_true rfl)⟩ ?_
    rcases o8 with ⟨x6 | E9, S7⟩
    · refine xk_i ?_
      replace h := bk_l h
      obtain ⟨o12, ho12, h⟩ := bd_some h
      refine x_callS (pc := 16) (As := [.int x6]) (rest := []) hC hl (c_X10_demand l hls ho12) lk_RX10_50 dX10_nudge_16 rfl rfl (Nat.le_of_ble_eq_true rfl) ⟨Nat.le_of_ble_eq_true rfl, Nat.le_of_ble_eq_true rfl⟩ ⟨(Nat.le_of_ble_eq_true rfl), (Nat.le_of_ble_eq_true rfl)⟩ ?_
      rcases o12 with ⟨_ | E13, S11⟩
      · refine xk_v ?_
        replace h := bk_l h
        refine x_aload_n (pc := 19) hC 0 dX10_nudge_19 rfl rfl ?_
        obtain ⟨o16, ho16, h⟩ := bd_some h
        refine x_callS (pc := 20) (As := [.ref r2]) (rest := []) hC hl (c_X10_demandRecord l hls ho16) lk_RX10_135 dX10_nudge_20 rfl rfl (Nat.le_of_ble_eq_true rfl) ⟨Nat.le_of_ble_eq_true rfl, Nat.le_of_ble_eq_true rfl⟩ ⟨(Nat.le_of_ble_eq_true rfl), (Nat.le_of_ble_eq_true rfl)⟩ ?_
        rcases o16 with ⟨_ | E17, S15⟩
        · refine xk_v ?_
          replace h := bk_l h
          refine x_aload_n (pc := 23) hC 1 dX10_nudge_23 rfl rfl ?_
          obtain ⟨g18, h⟩ := gd_some h
          refine x_getRv (pc := 24) (k := 2) hC fc_16 fl_RX10_22 dX10_nudge_24 rfl g18 (fun r19 hr19 => ?_)
          replace h := lt_x hr19 h
          refine x_bipush (pc := 27) (v := (9 : Int32)) hC dX10_nudge_27 (by decide) ?_
          refine x_iload_n (pc := 29) hC 2 dX10_nudge_29 rfl rfl ?_
          refine x_iload_n (pc := 30) hC 3 dX10_nudge_30 rfl rfl ?_
          refine x_iconst (pc := 31) (v := (0 : Int32)) hC dX10_nudge_31 (by decide) ?_
          obtain ⟨g20, h⟩ := gd_some h
          obtain ⟨o23, ho23, h⟩ := bd_some h
          refine x_callV (pc := 32) (As := [.int (9 : Int32), .int a1, .int a2, .int (0 : Int32)]) (rest := []) hC hl (c_X6_note l hls ho23) lk_RX10_94 fc_12 g20 dX10_nudge_32 rfl rfl (Nat.le_of_ble_eq_true rfl) ⟨Nat.le_of_ble_eq_true rfl, Nat.le_of_ble_eq_true rfl⟩ ⟨(Nat.le_of_ble_eq_true rfl), (Nat.le_of_ble_eq_true rfl)⟩ ?_
          rcases o23 with ⟨_ | E24, S22⟩
          · refine xk_v ?_
            replace h := bk_l h
            refine x_aload_n (pc := 35) hC 0 dX10_nudge_35 rfl rfl ?_
            refine x_iload_n (pc := 36) hC 3 dX10_nudge_36 rfl rfl ?_
            obtain ⟨g25, h⟩ := gd_some h
            obtain ⟨o28, ho28, h⟩ := bd_some h
            refine x_callV (pc := 37) (As := [.int a2]) (rest := []) hC hl (c_X1_push l hls ho28) lk_RX10_148 fc_7 g25 dX10_nudge_37 rfl rfl (Nat.le_of_ble_eq_true rfl) ⟨Nat.le_of_ble_eq_true rfl, Nat.le_of_ble_eq_true rfl⟩ ⟨(Nat.le_of_ble_eq_true rfl), (Nat.le_of_ble_eq_true rfl)⟩ ?_
            rcases o28 with ⟨x26 | E29, S27⟩
            · refine xk_i ?_
              replace h := bk_l h
              exact x_ireturn (pc := 40) hC hE dX10_nudge_40 (so h) (Nat.le_of_ble_eq_true rfl) (Nat.le_of_ble_eq_true rfl)
            · exact xk_r (xt_out hC hE (bk_r h) (Nat.le_of_ble_eq_true rfl) (Nat.le_of_ble_eq_true rfl))
          · exact xk_r (xt_out hC hE (bk_r h) (Nat.le_of_ble_eq_true rfl) (Nat.le_of_ble_eq_true rfl))
        · exact xk_r (xt_out hC hE (bk_r h) (Nat.le_of_ble_eq_true rfl) (Nat.le_of_ble_eq_true rfl))
      · exact xk_r (xt_out hC hE (bk_r h) (Nat.le_of_ble_eq_true rfl) (Nat.le_of_ble_eq_true rfl))
    · exact xk_r (xt_out hC hE (bk_r h) (Nat.le_of_ble_eq_true rfl) (Nat.le_of_ble_eq_true rfl))
  · exact xk_r (xt_out hC hE (bk_r h) (Nat.le_of_ble_eq_true rfl) (Nat.le_of_ble_eq_true rfl))
theorem c_X10_nudge (l : Launch) (hls : l.stackTraces = false) {S : mS} {a0 : Nat} {a1 : Int32} {a2 : Int32} {o : Rs Int32} (h : f_X10_nudge S a0 a1 a2 = some o) : CT (fun r : Int32 => some (.int r)) l yX10_nudge (.code yX10_nudge cX10_nudge 4 (Option.some Jvm.ClassFile.FieldType.int)) rm_X10_nudge S [.ref a0, .int a1, .int a2] o := ct_of (by decide +kernel) hls (Nat.le_of_ble_eq_true rfl) (fun C hl hC hE => t_X10_nudge hls hC hl hE h)
abbrev rm_X10_brake : Room := { frames := 11, cells := 2, slots := 12, locals := 216 }
def f_X10_brake (S : mS) (a0 : Nat) (a1 : Int32) : Option (Rs Int32) :=
  gd (gK S a0 = 16) (bd (f_X10_deckOf S a0 a1) fun r2 S3 => bd (f_X10_demandRecord S3 r2) fun _ S7 => gd (gK S7 a0 = 16) (lt9 (gR S7 a0 2) fun r11 => gd (gK S7 r11 = 12) (bd (f_X6_note S7 r11 (10 : Int32) a1 (0 : Int32) (0 : Int32)) fun _ S14 => gd (gK S14 r2 = 7) (bd (f_X1_slowDown S14 r2) fun x18 S19 => gd (x18 = 0 ∨ x18 = 1) (some (.inl x18, S19))))))
set_option maxHeartbeats 2000000 in
set_option maxRecDepth 100000 in
theorem t_X10_brake {l : Launch} (hls : l.stackTraces = false) {C : cT} (hC : CX C cX10_brake 3 yX10_brake rm_X10_brake) (hl : C.2.1 = l) {S0 : mS} (hE : CE C S0 (Option.some Jvm.ClassFile.FieldType.boolean) []) {o : Rs Int32} {S : mS} {a0 : Nat} {a1 : Int32} (h : f_X10_brake S a0 a1 = some o) : XX C 3 (QQ C (fun r : Int32 => some (.int r)) S0 o) 0 0 S 0 [(0, .ref a0), (1, .int a1)] [] := by
  unfold f_X10_brake at h
  refine x_aload_n (pc := 0) hC 0 dX10_brake_0 rfl rfl ?_
  refine x_iload_n (pc := 1) hC 1 dX10_brake_1 rfl rfl ?_
  obtain ⟨g1, h⟩ := gd_some h
  obtain ⟨o4, ho4, h⟩ := bd_some h
  refine x_callV (pc := 2) (As := [.int a1]) (rest := []) hC hl (c_X10_deckOf l hls ho4) lk_RX10_119 fc_16 g1 dX10_brake_2 rfl rfl (Nat.le_of_ble_eq_true rfl) ⟨Nat.le_of_ble_eq_true rfl, Nat.le_of_ble_eq_true rfl⟩ ⟨(Nat.le_of_ble_eq_true rfl), (Nat.le_of_ble_eq_true rfl)⟩ ?_
  rcases o4 with ⟨r2 | E5, S3⟩
  · refine xk_a ?_
    replace h := bk_l h
    refine x_astore_n (pc := 5) hC dX10_brake_5 rfl (by decide) (by decide) rfl ?_
    refine x_aload_n (pc := 6) hC 0 dX10_brake_6 rfl rfl ?_
    obtain ⟨o8, ho8, h⟩ := bd_some h
    refine x_callS (pc := 7) (As := [.ref r2]) (rest := []) hC hl (c_X10_demandRecord l hls ho8) lk_RX10_135 dX10_brake_7 rfl rfl (Nat.le_of_ble_eq_true rfl) ⟨Nat.le_of_ble_eq_true rfl, Nat.le_of_ble_eq_true rfl⟩ ⟨(Nat.le_of_ble_eq_true rfl), (Nat.le_of_ble_eq_true rfl)⟩ ?_
    rcases o8 with ⟨_ | E9, S7⟩
    · refine xk_v ?_
      replace h := bk_l h
      refine x_aload_n (pc := 10) hC 1 dX10_brake_10 rfl rfl ?_
      obtain ⟨g10, h⟩ := gd_some h
      refine x_getRv (pc := 11) (k := 2) hC fc_16 fl_RX10_22 dX10_brake_11 rfl g10 (fun r11 hr11 => ?_)
      replace h := lt_x hr11 h
      refine x_bipush (pc := 14) (v := (10 : Int32)) hC dX10_brake_14 (by decide) ?_
      refine x_iload_n (pc := 16) hC 2 dX10_brake_16 rfl rfl ?_
      refine x_iconst (pc := 17) (v := (0 : Int32)) hC dX10_brake_17 (by decide) ?_
      refine x_iconst (pc := 18) (v := (0 : Int32)) hC dX10_brake_18 (by decide) ?_
      obtain ⟨g12, h⟩ := gd_some h
      obtain ⟨o15, ho15, h⟩ := bd_some h
      refine x_callV (pc := 19) (As := [.int (10 : Int32), .int a1, .int (0 : Int32), .int (0 : Int32)]) (rest := []) hC hl (c_X6_note l hls ho15) lk_RX10_94 fc_12 g12 dX10_brake_19 rfl rfl (Nat.le_of_ble_eq_true rfl) ⟨Nat.le_of_ble_eq_true rfl, Nat.le_of_ble_eq_true rfl⟩ ⟨(Nat.le_of_ble_eq_true rfl), (Nat.le_of_ble_eq_true rfl)⟩ ?_
      rcases o15 with ⟨_ | E16, S14⟩
      · refine xk_v ?_
        replace h := bk_l h
        refine x_aload_n (pc := 22) hC 0 dX10_brake_22 rfl rfl ?_
        obtain ⟨g17, h⟩ := gd_some h
        obtain ⟨o20, ho20, h⟩ := bd_some h
        refine x_callV (pc := 23) (As := []) (rest := []) hC hl (c_X1_slowDown l hls ho20) lk_RX10_151 fc_7 g17 dX10_brake_23 rfl rfl (Nat.le_of_ble_eq_true rfl) ⟨Nat.le_of_ble_eq_true rfl, Nat.le_of_ble_eq_true rfl⟩ ⟨(Nat.le_of_ble_eq_true rfl), (Nat.le_of_ble_eq_true rfl)⟩ ?_
        rcases o20 with ⟨x18 | E21, S19⟩
        · refine xk_i ?_
          replace h := bk_l h
          obtain ⟨g22, h⟩ := gd_some h
          exact x_zreturn (pc := 26) hC hE dX10_brake_26 (nf_B g22).1 (so h) (Nat.le_of_ble_eq_true rfl) (Nat.le_of_ble_eq_true rfl)
        · exact xk_r (xt_out hC hE (bk_r h) (Nat.le_of_ble_eq_true rfl) (Nat.le_of_ble_eq_true rfl))
      · exact xk_r (xt_out hC hE (bk_r h) (Nat.le_of_ble_eq_true rfl) (Nat.le_of_ble_eq_true rfl))
    · exact xk_r (xt_out hC hE (bk_r h) (Nat.le_of_ble_eq_true rfl) (Nat.le_of_ble_eq_true rfl))
  · exact xk_r (xt_out hC hE (bk_r h) (Nat.le_of_ble_eq_true rfl) (Nat.le_of_ble_eq_true rfl))
theorem c_X10_brake (l : Launch) (hls : l.stackTraces = false) {S : mS} {a0 : Nat} {a1 : Int32} {o : Rs Int32} (h : f_X10_brake S a0 a1 = some o) : CT (fun r : Int32 => some (.int r)) l yX10_brake (.code yX10_brake cX10_brake 3 (Option.some Jvm.ClassFile.FieldType.boolean)) rm_X10_brake S [.ref a0, .int a1] o := ct_of (by decide +kernel) hls (Nat.le_of_ble_eq_true rfl) (fun C hl hC hE => t_X10_brake hls hC hl hE h)
abbrev rm_X10_jump : Room := { frames := 11, cells := 3, slots := 18, locals := 216 }
def f_X10_jump (S : mS) (a0 : Nat) (a1 : Int32) (a2 : Int32) : Option (Rs Int32) :=
  gd (gK S a0 = 16) (bd (f_X10_deckOf S a0 a1) fun r2 S3 => bd (f_X10_demandRecord S3 r2) fun _ S7 => gd (gK S7 r2 = 7) (bd (f_X1_hasBeat S7 r2 a2) fun x11 S12 => bd (f_X10_demand S12 x11) fun _ S16 => gd (gK S16 a0 = 16) (lt9 (gR S16 a0 2) fun r20 => gd (gK S16 r20 = 12) (bd (f_X6_note S16 r20 (11 : Int32) a1 a2 (0 : Int32)) fun _ S23 => gd (gK S23 r2 = 7) (bd (f_X1_jumpTo S23 r2 a2) fun x27 S28 => some (.inl x27, S28))))))
set_option maxHeartbeats 2000000 in
set_option maxRecDepth 100000 in
theorem t_X10_jump {l : Launch} (hls : l.stackTraces = false) {C : cT} (hC : CX C cX10_jump 4 yX10_jump rm_X10_jump) (hl : C.2.1 = l) {S0 : mS} (hE : CE C S0 (Option.some Jvm.ClassFile.FieldType.int) []) {o : Rs Int32} {S : mS} {a0 : Nat} {a1 : Int32} {a2 : Int32} (h : f_X10_jump S a0 a1 a2 = some o) : XX C 4 (QQ C (fun r : Int32 => some (.int r)) S0 o) 0 0 S 0 [(0, .ref a0), (1, .int a1), (2, .int a2)] [] := by
  unfold f_X10_jump at h
  refine x_aload_n (pc := 0) hC 0 dX10_jump_0 rfl rfl ?_
  refine x_iload_n (pc := 1) hC 1 dX10_jump_1 rfl rfl ?_
  obtain ⟨g1, h⟩ := gd_some h
  obtain ⟨o4, ho4, h⟩ := bd_some h
  refine x_callV (pc := 2) (As := [.int a1]) (rest := []) hC hl (c_X10_deckOf l hls ho4) lk_RX10_119 fc_16 g1 dX10_jump_2 rfl rfl (Nat.le_of_ble_eq_true rfl) ⟨Nat.le_of_ble_eq_true rfl, Nat.le_of_ble_eq_true rfl⟩ ⟨(Nat.le_of_ble_eq_true rfl), (Nat.le_of_ble_eq_true rfl)⟩ ?_
  rcases o4 with ⟨r2 | E5, S3⟩
  · refine xk_a ?_
    replace h := bk_l h
    refine x_astore_n (pc := 5) hC dX10_jump_5 rfl (by decide) (by decide) rfl ?_
    refine x_aload_n (pc := 6) hC 0 dX10_jump_6 rfl rfl ?_
    obtain ⟨o8, ho8, h⟩ := bd_some h
    refine x_callS (pc := 7) (As := [.ref r2]) (rest := []) hC hl (c_X10_demandRecord l hls ho8) lk_RX10_135 dX10_jump_7 rfl rfl (Nat.le_of_ble_eq_true rfl) ⟨Nat.le_of_ble_eq_true rfl, Nat.le_of_ble_eq_true rfl⟩ ⟨(Nat.le_of_ble_eq_true rfl), (Nat.le_of_ble_eq_true rfl)⟩ ?_
    rcases o8 with ⟨_ | E9, S7⟩
    · refine xk_v ?_
      replace h := bk_l h
      refine x_aload_n (pc := 10) hC 0 dX10_jump_10 rfl rfl ?_
      refine x_iload_n (pc := 11) hC 3 dX10_jump_11 rfl rfl ?_
      obtain ⟨g10, h⟩ := gd_some h
      obtain ⟨o13, ho13, h⟩ := bd_some h
      refine x_callV (pc := 12) (As := [.int a2]) (rest := []) hC hl (c_X1_hasBeat l hls ho13) lk_RX10_154 fc_7 g10 dX10_jump_12 rfl rfl (Nat.le_of_ble_eq_true rfl) ⟨Nat.le_of_ble_eq_true rfl, Nat.le_of_ble_eq_true rfl⟩ ⟨(Nat.le_of_ble_eq_true rfl), (Nat.le_of_ble_eq_true rfl)⟩ ?_
      rcases o13 with ⟨x11 | E14, S12⟩
      · refine xk_i ?_
        replace h := bk_l h
        obtain ⟨o17, ho17, h⟩ := bd_some h
        refine x_callS (pc := 15) (As := [.int x11]) (rest := []) hC hl (c_X10_demand l hls ho17) lk_RX10_50 dX10_jump_15 rfl rfl (Nat.le_of_ble_eq_true rfl) ⟨Nat.le_of_ble_eq_true rfl, Nat.le_of_ble_eq_true rfl⟩ ⟨(Nat.le_of_ble_eq_true rfl), (Nat.le_of_ble_eq_true rfl)⟩ ?_
        rcases o17 with ⟨_ | E18, S16⟩
        · refine xk_v ?_
          replace h := bk_l h
          refine x_aload_n (pc := 18) hC 1 dX10_jump_18 rfl rfl ?_
          obtain ⟨g19, h⟩ := gd_some h
          refine x_getRv (pc := 19) (k := 2) hC fc_16 fl_RX10_22 dX10_jump_19 rfl g19 (fun r20 hr20 => ?_)
          replace h := lt_x hr20 h
          refine x_bipush (pc := 22) (v := (11 : Int32)) hC dX10_jump_22 (by decide) ?_
          refine x_iload_n (pc := 24) hC 2 dX10_jump_24 rfl rfl ?_
          refine x_iload_n (pc := 25) hC 3 dX10_jump_25 rfl rfl ?_
          refine x_iconst (pc := 26) (v := (0 : Int32)) hC dX10_jump_26 (by decide) ?_
          obtain ⟨g21, h⟩ := gd_some h
          obtain ⟨o24, ho24, h⟩ := bd_some h
          refine x_callV (pc := 27) (As := [.int (11 : Int32), .int a1, .int a2, .int (0 : Int32)]) (rest := []) hC hl (c_X6_note l hls ho24) lk_RX10_94 fc_12 g21 dX10_jump_27 rfl rfl (Nat.le_of_ble_eq_true rfl) ⟨Nat.le_of_ble_eq_true rfl, Nat.le_of_ble_eq_true rfl⟩ ⟨(Nat.le_of_ble_eq_true rfl), (Nat.le_of_ble_eq_true rfl)⟩ ?_
          rcases o24 with ⟨_ | E25, S23⟩
          · refine xk_v ?_
            replace h := bk_l h
            refine x_aload_n (pc := 30) hC 0 dX10_jump_30 rfl rfl ?_
            refine x_iload_n (pc := 31) hC 3 dX10_jump_31 rfl rfl ?_
            obtain ⟨g26, h⟩ := gd_some h
            obtain ⟨o29, ho29, h⟩ := bd_some h
            refine x_callV (pc := 32) (As := [.int a2]) (rest := []) hC hl (c_X1_jumpTo l hls ho29) lk_RX10_157 fc_7 g26 dX10_jump_32 rfl rfl (Nat.le_of_ble_eq_true rfl) ⟨Nat.le_of_ble_eq_true rfl, Nat.le_of_ble_eq_true rfl⟩ ⟨(Nat.le_of_ble_eq_true rfl), (Nat.le_of_ble_eq_true rfl)⟩ ?_
            rcases o29 with ⟨x27 | E30, S28⟩
            · refine xk_i ?_
              replace h := bk_l h
              exact x_ireturn (pc := 35) hC hE dX10_jump_35 (so h) (Nat.le_of_ble_eq_true rfl) (Nat.le_of_ble_eq_true rfl)
            · exact xk_r (xt_out hC hE (bk_r h) (Nat.le_of_ble_eq_true rfl) (Nat.le_of_ble_eq_true rfl))
          · exact xk_r (xt_out hC hE (bk_r h) (Nat.le_of_ble_eq_true rfl) (Nat.le_of_ble_eq_true rfl))
        · exact xk_r (xt_out hC hE (bk_r h) (Nat.le_of_ble_eq_true rfl) (Nat.le_of_ble_eq_true rfl))
      · exact xk_r (xt_out hC hE (bk_r h) (Nat.le_of_ble_eq_true rfl) (Nat.le_of_ble_eq_true rfl))
    · exact xk_r (xt_out hC hE (bk_r h) (Nat.le_of_ble_eq_true rfl) (Nat.le_of_ble_eq_true rfl))
  · exact xk_r (xt_out hC hE (bk_r h) (Nat.le_of_ble_eq_true rfl) (Nat.le_of_ble_eq_true rfl))
theorem c_X10_jump (l : Launch) (hls : l.stackTraces = false) {S : mS} {a0 : Nat} {a1 : Int32} {a2 : Int32} {o : Rs Int32} (h : f_X10_jump S a0 a1 a2 = some o) : CT (fun r : Int32 => some (.int r)) l yX10_jump (.code yX10_jump cX10_jump 4 (Option.some Jvm.ClassFile.FieldType.int)) rm_X10_jump S [.ref a0, .int a1, .int a2] o := ct_of (by decide +kernel) hls (Nat.le_of_ble_eq_true rfl) (fun C hl hC hE => t_X10_jump hls hC hl hE h)
abbrev rm_X10_setCue : Room := { frames := 11, cells := 3, slots := 18, locals := 216 }
def f_X10_setCue (S : mS) (a0 : Nat) (a1 : Int32) (a2 : Int32) : Option (Rs Int32) :=
  gd (gK S a0 = 16) (bd (f_X10_deckOf S a0 a1) fun r2 S3 => bd (f_X10_isIn S3 a2 (0 : Int32) (3 : Int32)) fun x6 S7 => bd (f_X10_demand S7 x6) fun _ S11 => bd (f_X10_demandRecord S11 r2) fun _ S15 => gd (gK S15 a0 = 16) (lt9 (gR S15 a0 2) fun r19 => gd (gK S15 r19 = 12) (bd (f_X6_note S15 r19 (12 : Int32) a1 a2 (0 : Int32)) fun _ S22 => gd (gK S22 r2 = 7) (bd (f_X1_mark S22 r2 a2) fun x26 S27 => some (.inl x26, S27)))))
set_option maxHeartbeats 2000000 in
set_option maxRecDepth 100000 in
theorem t_X10_setCue {l : Launch} (hls : l.stackTraces = false) {C : cT} (hC : CX C cX10_setCue 4 yX10_setCue rm_X10_setCue) (hl : C.2.1 = l) {S0 : mS} (hE : CE C S0 (Option.some Jvm.ClassFile.FieldType.int) []) {o : Rs Int32} {S : mS} {a0 : Nat} {a1 : Int32} {a2 : Int32} (h : f_X10_setCue S a0 a1 a2 = some o) : XX C 4 (QQ C (fun r : Int32 => some (.int r)) S0 o) 0 0 S 0 [(0, .ref a0), (1, .int a1), (2, .int a2)] [] := by
  unfold f_X10_setCue at h
  refine x_aload_n (pc := 0) hC 0 dX10_setCue_0 rfl rfl ?_
  refine x_iload_n (pc := 1) hC 1 dX10_setCue_1 rfl rfl ?_
  obtain ⟨g1, h⟩ := gd_some h
  obtain ⟨o4, ho4, h⟩ := bd_some h
  refine x_callV (pc := 2) (As := [.int a1]) (rest := []) hC hl (c_X10_deckOf l hls ho4) lk_RX10_119 fc_16 g1 dX10_setCue_2 rfl rfl (Nat.le_of_ble_eq_true rfl) ⟨Nat.le_of_ble_eq_true rfl, Nat.le_of_ble_eq_true rfl⟩ ⟨(Nat.le_of_ble_eq_true rfl), (Nat.le_of_ble_eq_true rfl)⟩ ?_
  rcases o4 with ⟨r2 | E5, S3⟩
  · refine xk_a ?_
    replace h := bk_l h
    refine x_astore_n (pc := 5) hC dX10_setCue_5 rfl (by decide) (by decide) rfl ?_
    refine x_iload_n (pc := 6) hC 3 dX10_setCue_6 rfl rfl ?_
    refine x_iconst (pc := 7) (v := (0 : Int32)) hC dX10_setCue_7 (by decide) ?_
    refine x_iconst (pc := 8) (v := (3 : Int32)) hC dX10_setCue_8 (by decide) ?_
    obtain ⟨o8, ho8, h⟩ := bd_some h
    refine x_callS (pc := 9) (As := [.int a2, .int (0 : Int32), .int (3 : Int32)]) (rest := []) hC hl (c_X10_isIn l hls ho8) lk_RX10_46 dX10_setCue_9 rfl rfl (Nat.le_of_ble_eq_true rfl) ⟨Nat.le_of_ble_eq_true rfl, Nat.le_of_ble_eq_true rfl⟩ ⟨(Nat.le_of_ble_eq_true rfl), (Nat.le_of_ble_eq_true rfl)⟩ ?_
    rcases o8 with ⟨x6 | E9, S7⟩
    · refine xk_i ?_
      replace h := bk_l h
      obtain ⟨o12, ho12, h⟩ := bd_some h
      refine x_callS (pc := 12) (As := [.int x6]) (rest := []) hC hl (c_X10_demand l hls ho12) lk_RX10_50 dX10_setCue_12 rfl rfl (Nat.le_of_ble_eq_true rfl) ⟨Nat.le_of_ble_eq_true rfl, Nat.le_of_ble_eq_true rfl⟩ ⟨(Nat.le_of_ble_eq_true rfl), (Nat.le_of_ble_eq_true rfl)⟩ ?_
      rcases o12 with ⟨_ | E13, S11⟩
      · refine xk_v ?_
        replace h := bk_l h
        refine x_aload_n (pc := 15) hC 0 dX10_setCue_15 rfl rfl ?_
        obtain ⟨o16, ho16, h⟩ := bd_some h
        refine x_callS (pc := 16) (As := [.ref r2]) (rest := []) hC hl (c_X10_demandRecord l hls ho16) lk_RX10_135 dX10_setCue_16 rfl rfl (Nat.le_of_ble_eq_true rfl) ⟨Nat.le_of_ble_eq_true rfl, Nat.le_of_ble_eq_true rfl⟩ ⟨(Nat.le_of_ble_eq_true rfl), (Nat.le_of_ble_eq_true rfl)⟩ ?_
        rcases o16 with ⟨_ | E17, S15⟩
        · refine xk_v ?_
          replace h := bk_l h
          refine x_aload_n (pc := 19) hC 1 dX10_setCue_19 rfl rfl ?_
          obtain ⟨g18, h⟩ := gd_some h
          refine x_getRv (pc := 20) (k := 2) hC fc_16 fl_RX10_22 dX10_setCue_20 rfl g18 (fun r19 hr19 => ?_)
          replace h := lt_x hr19 h
          refine x_bipush (pc := 23) (v := (12 : Int32)) hC dX10_setCue_23 (by decide) ?_
          refine x_iload_n (pc := 25) hC 2 dX10_setCue_25 rfl rfl ?_
          refine x_iload_n (pc := 26) hC 3 dX10_setCue_26 rfl rfl ?_
          refine x_iconst (pc := 27) (v := (0 : Int32)) hC dX10_setCue_27 (by decide) ?_
          obtain ⟨g20, h⟩ := gd_some h
          obtain ⟨o23, ho23, h⟩ := bd_some h
          refine x_callV (pc := 28) (As := [.int (12 : Int32), .int a1, .int a2, .int (0 : Int32)]) (rest := []) hC hl (c_X6_note l hls ho23) lk_RX10_94 fc_12 g20 dX10_setCue_28 rfl rfl (Nat.le_of_ble_eq_true rfl) ⟨Nat.le_of_ble_eq_true rfl, Nat.le_of_ble_eq_true rfl⟩ ⟨(Nat.le_of_ble_eq_true rfl), (Nat.le_of_ble_eq_true rfl)⟩ ?_
          rcases o23 with ⟨_ | E24, S22⟩
          · refine xk_v ?_
            replace h := bk_l h
            refine x_aload_n (pc := 31) hC 0 dX10_setCue_31 rfl rfl ?_
            refine x_iload_n (pc := 32) hC 3 dX10_setCue_32 rfl rfl ?_
            obtain ⟨g25, h⟩ := gd_some h
            obtain ⟨o28, ho28, h⟩ := bd_some h
            refine x_callV (pc := 33) (As := [.int a2]) (rest := []) hC hl (c_X1_mark l hls ho28) lk_RX10_160 fc_7 g25 dX10_setCue_33 rfl rfl (Nat.le_of_ble_eq_true rfl) ⟨Nat.le_of_ble_eq_true rfl, Nat.le_of_ble_eq_true rfl⟩ ⟨(Nat.le_of_ble_eq_true rfl), (Nat.le_of_ble_eq_true rfl)⟩ ?_
            rcases o28 with ⟨x26 | E29, S27⟩
            · refine xk_i ?_
              replace h := bk_l h
              exact x_ireturn (pc := 36) hC hE dX10_setCue_36 (so h) (Nat.le_of_ble_eq_true rfl) (Nat.le_of_ble_eq_true rfl)
            · exact xk_r (xt_out hC hE (bk_r h) (Nat.le_of_ble_eq_true rfl) (Nat.le_of_ble_eq_true rfl))
          · exact xk_r (xt_out hC hE (bk_r h) (Nat.le_of_ble_eq_true rfl) (Nat.le_of_ble_eq_true rfl))
        · exact xk_r (xt_out hC hE (bk_r h) (Nat.le_of_ble_eq_true rfl) (Nat.le_of_ble_eq_true rfl))
      · exact xk_r (xt_out hC hE (bk_r h) (Nat.le_of_ble_eq_true rfl) (Nat.le_of_ble_eq_true rfl))
    · exact xk_r (xt_out hC hE (bk_r h) (Nat.le_of_ble_eq_true rfl) (Nat.le_of_ble_eq_true rfl))
  · exact xk_r (xt_out hC hE (bk_r h) (Nat.le_of_ble_eq_true rfl) (Nat.le_of_ble_eq_true rfl))
theorem c_X10_setCue (l : Launch) (hls : l.stackTraces = false) {S : mS} {a0 : Nat} {a1 : Int32} {a2 : Int32} {o : Rs Int32} (h : f_X10_setCue S a0 a1 a2 = some o) : CT (fun r : Int32 => some (.int r)) l yX10_setCue (.code yX10_setCue cX10_setCue 4 (Option.some Jvm.ClassFile.FieldType.int)) rm_X10_setCue S [.ref a0, .int a1, .int a2] o := ct_of (by decide +kernel) hls (Nat.le_of_ble_eq_true rfl) (fun C hl hC hE => t_X10_setCue hls hC hl hE h)
abbrev rm_X10_loop : Room := { frames := 11, cells := 4, slots := 24, locals := 216 }
def f_X10_loop (S : mS) (a0 : Nat) (a1 : Int32) (a2 : Int32) : Option (Rs Int32) :=
  gd (gK S a0 = 16) (bd (f_X10_deckOf S a0 a1) fun r2 S3 => bd (f_X10_isIn S3 a2 (0 : Int32) (6 : Int32)) fun x6 S7 => bd (f_X10_demand S7 x6) fun _ S11 => bd (f_X10_demandRecord S11 r2) fun _ S15 => gd (gK S15 r2 = 7) (bd (f_X1_hasRoomFor S15 r2 a2) fun x19 S20 => if x19 = 0 then (some (.inr "java/lang/IllegalStateException", S20)) else (gd (gK S20 a0 = 16) (lt9 (gR S20 a0 2) fun r24 => gd (gK S20 r24 = 12) (bd (f_X6_note S20 r24 (13 : Int32) a1 a2 (0 : Int32)) fun _ S27 => gd (gK S27 r2 = 7) (bd (f_X1_turnRound S27 r2 a2) fun x31 S32 => some (.inl x31, S32)))))))
set_option maxHeartbeats 2000000 in
set_option maxRecDepth 100000 in
theorem t_X10_loop {l : Launch} (hls : l.stackTraces = false) {C : cT} (hC : CX C cX10_loop 4 yX10_loop rm_X10_loop) (hl : C.2.1 = l) {S0 : mS} (hE : CE C S0 (Option.some Jvm.ClassFile.FieldType.int) []) {o : Rs Int32} {S : mS} {a0 : Nat} {a1 : Int32} {a2 : Int32} (h : f_X10_loop S a0 a1 a2 = some o) : XX C 4 (QQ C (fun r : Int32 => some (.int r)) S0 o) 0 0 S 0 [(0, .ref a0), (1, .int a1), (2, .int a2)] [] := by
  unfold f_X10_loop at h
  refine x_aload_n (pc := 0) hC 0 dX10_loop_0 rfl rfl ?_
  refine x_iload_n (pc := 1) hC 1 dX10_loop_1 rfl rfl ?_
  obtain ⟨g1, h⟩ := gd_some h
  obtain ⟨o4, ho4, h⟩ := bd_some h
  refine x_callV (pc := 2) (As := [.int a1]) (rest := []) hC hl (c_X10_deckOf l hls ho4) lk_RX10_119 fc_16 g1 dX10_loop_2 rfl rfl (Nat.le_of_ble_eq_true rfl) ⟨Nat.le_of_ble_eq_true rfl, Nat.le_of_ble_eq_true rfl⟩ ⟨(Nat.le_of_ble_eq_true rfl), (Nat.le_of_ble_eq_true rfl)⟩ ?_
  rcases o4 with ⟨r2 | E5, S3⟩
  · refine xk_a ?_
    replace h := bk_l h
    refine x_astore_n (pc := 5) hC dX10_loop_5 rfl (by decide) (by decide) rfl ?_
    refine x_iload_n (pc := 6) hC 3 dX10_loop_6 rfl rfl ?_
    refine x_iconst (pc := 7) (v := (0 : Int32)) hC dX10_loop_7 (by decide) ?_
    refine x_bipush (pc := 8) (v := (6 : Int32)) hC dX10_loop_8 (by decide) ?_
    obtain ⟨o8, ho8, h⟩ := bd_some h
    refine x_callS (pc := 10) (As := [.int a2, .int (0 : Int32), .int (6 : Int32)]) (rest := []) hC hl (c_X10_isIn l hls ho8) lk_RX10_46 dX10_loop_10 rfl rfl (Nat.le_of_ble_eq_true rfl) ⟨Nat.le_of_ble_eq_true rfl, Nat.le_of_ble_eq_true rfl⟩ ⟨(Nat.le_of_ble_eq_true rfl), (Nat.le_of_ble_eq_true rfl)⟩ ?_
    rcases o8 with ⟨x6 | E9, S7⟩
    · refine xk_i ?_
      replace h := bk_l h
      obtain ⟨o12, ho12, h⟩ := bd_some h
      refine x_callS (pc := 13) (As := [.int x6]) (rest := []) hC hl (c_X10_demand l hls ho12) lk_RX10_50 dX10_loop_13 rfl rfl (Nat.le_of_ble_eq_true rfl) ⟨Nat.le_of_ble_eq_true rfl, Nat.le_of_ble_eq_true rfl⟩ ⟨(Nat.le_of_ble_eq_true rfl), (Nat.le_of_ble_eq_true rfl)⟩ ?_
      rcases o12 with ⟨_ | E13, S11⟩
      · refine xk_v ?_
        replace h := bk_l h
        refine x_aload_n (pc := 16) hC 0 dX10_loop_16 rfl rfl ?_
        obtain ⟨o16, ho16, h⟩ := bd_some h
        refine x_callS (pc := 17) (As := [.ref r2]) (rest := []) hC hl (c_X10_demandRecord l hls ho16) lk_RX10_135 dX10_loop_17 rfl rfl (Nat.le_of_ble_eq_true rfl) ⟨Nat.le_of_ble_eq_true rfl, Nat.le_of_ble_eq_true rfl⟩ ⟨(Nat.le_of_ble_eq_true rfl), (Nat.le_of_ble_eq_true rfl)⟩ ?_
        rcases o16 with ⟨_ | E17, S15⟩
        · refine xk_v ?_
          replace h := bk_l h
          refine x_aload_n (pc := 20) hC 0 dX10_loop_20 rfl rfl ?_
          refine x_iload_n (pc := 21) hC 3 dX10_loop_21 rfl rfl ?_
          obtain ⟨g18, h⟩ := gd_some h
          obtain ⟨o21, ho21, h⟩ := bd_some h
          refine x_callV (pc := 22) (As := [.int a2]) (rest := []) hC hl (c_X1_hasRoomFor l hls ho21) lk_RX10_163 fc_7 g18 dX10_loop_22 rfl rfl (Nat.le_of_ble_eq_true rfl) ⟨Nat.le_of_ble_eq_true rfl, Nat.le_of_ble_eq_true rfl⟩ ⟨(Nat.le_of_ble_eq_true rfl), (Nat.le_of_ble_eq_true rfl)⟩ ?_
          rcases o21 with ⟨x19 | E22, S20⟩
          · refine xk_i ?_
            replace h := bk_l h
            refine x_if_ne (pc := 25) hC 38 dX10_loop_25 (by decide) (fun c35 => ?_) (fun c35 => ?_)
            · rw [if_neg c35] at h
              refine x_aload_n (pc := 38) hC 1 dX10_loop_38 rfl rfl ?_
              obtain ⟨g23, h⟩ := gd_some h
              refine x_getRv (pc := 39) (k := 2) hC fc_16 fl_RX10_22 dX10_loop_39 rfl g23 (fun r24 hr24 => ?_)
              replace h := lt_x hr24 h
              refine x_bipush (pc := 42) (v := (13 : Int32)) hC dX10_loop_42 (by decide) ?_
              refine x_iload_n (pc := 44) hC 2 dX10_loop_44 rfl rfl ?_
              refine x_iload_n (pc := 45) hC 3 dX10_loop_45 rfl rfl ?_
              refine x_iconst (pc := 46) (v := (0 : Int32)) hC dX10_loop_46 (by decide) ?_
              obtain ⟨g25, h⟩ := gd_some h
              obtain ⟨o28, ho28, h⟩ := bd_some h
              refine x_callV (pc := 47) (As := [.int (13 : Int32), .int a1, .int a2, .int (0 : Int32)]) (rest := []) hC hl (c_X6_note l hls ho28) lk_RX10_94 fc_12 g25 dX10_loop_47 rfl rfl (Nat.le_of_ble_eq_true rfl) ⟨Nat.le_of_ble_eq_true rfl, Nat.le_of_ble_eq_true rfl⟩ ⟨(Nat.le_of_ble_eq_true rfl), (Nat.le_of_ble_eq_true rfl)⟩ ?_
              rcases o28 with ⟨_ | E29, S27⟩
              · refine xk_v ?_
                replace h := bk_l h
                refine x_aload_n (pc := 50) hC 0 dX10_loop_50 rfl rfl ?_
                refine x_iload_n (pc := 51) hC 3 dX10_loop_51 rfl rfl ?_
                obtain ⟨g30, h⟩ := gd_some h
                obtain ⟨o33, ho33, h⟩ := bd_some h
                refine x_callV (pc := 52) (As := [.int a2]) (rest := []) hC hl (c_X1_turnRound l hls ho33) lk_RX10_168 fc_7 g30 dX10_loop_52 rfl rfl (Nat.le_of_ble_eq_true rfl) ⟨Nat.le_of_ble_eq_true rfl, Nat.le_of_ble_eq_true rfl⟩ ⟨(Nat.le_of_ble_eq_true rfl), (Nat.le_of_ble_eq_true rfl)⟩ ?_
                rcases o33 with ⟨x31 | E34, S32⟩
                · refine xk_i ?_
                  replace h := bk_l h
                  exact x_ireturn (pc := 55) hC hE dX10_loop_55 (so h) (Nat.le_of_ble_eq_true rfl) (Nat.le_of_ble_eq_true rfl)
                · exact xk_r (xt_out hC hE (bk_r h) (Nat.le_of_ble_eq_true rfl) (Nat.le_of_ble_eq_true rfl))
              · exact xk_r (xt_out hC hE (bk_r h) (Nat.le_of_ble_eq_true rfl) (Nat.le_of_ble_eq_true rfl))
            · rw [if_pos c35] at h
              exact x_throwS (pc := 28) hC hE th_RX10_63_67_166 dX10_loop_28 dX10_loop_31 dX10_loop_32 dX10_loop_34 dX10_loop_37 (so h) (Nat.le_of_ble_eq_true rfl) (Nat.le_of_ble_eq_true rfl) (Nat.le_of_ble_eq_true rfl) (Nat.le_of_ble_eq_true rfl)
          · exact xk_r (xt_out hC hE (bk_r h) (Nat.le_of_ble_eq_true rfl) (Nat.le_of_ble_eq_true rfl))
        · exact xk_r (xt_out hC hE (bk_r h) (Nat.le_of_ble_eq_true rfl) (Nat.le_of_ble_eq_true rfl))
      · exact xk_r (xt_out hC hE (bk_r h) (Nat.le_of_ble_eq_true rfl) (Nat.le_of_ble_eq_true rfl))
    · exact xk_r (xt_out hC hE (bk_r h) (Nat.le_of_ble_eq_true rfl) (Nat.le_of_ble_eq_true rfl))
  · exact xk_r (xt_out hC hE (bk_r h) (Nat.le_of_ble_eq_true rfl) (Nat.le_of_ble_eq_true rfl))
theorem c_X10_loop (l : Launch) (hls : l.stackTraces = false) {S : mS} {a0 : Nat} {a1 : Int32} {a2 : Int32} {o : Rs Int32} (h : f_X10_loop S a0 a1 a2 = some o) : CT (fun r : Int32 => some (.int r)) l yX10_loop (.code yX10_loop cX10_loop 4 (Option.some Jvm.ClassFile.FieldType.int)) rm_X10_loop S [.ref a0, .int a1, .int a2] o := ct_of (by decide +kernel) hls (Nat.le_of_ble_eq_true rfl) (fun C hl hC hE => t_X10_loop hls hC hl hE h)
abbrev rm_X10_out : Room := { frames := 11, cells := 1, slots := 6, locals := 216 }
def f_X10_out (S : mS) (a0 : Nat) (a1 : Int32) : Option (Rs Int32) :=
  gd (gK S a0 = 16) (bd (f_X10_deckOf S a0 a1) fun r2 S3 => gd (gK S3 a0 = 16) (lt9 (gR S3 a0 2) fun r7 => gd (gK S3 r7 = 12) (bd (f_X6_note S3 r7 (14 : Int32) a1 (0 : Int32) (0 : Int32)) fun _ S10 => gd (gK S10 r2 = 7) (bd (f_X1_leaveLoop S10 r2) fun x14 S15 => gd (x14 = 0 ∨ x14 = 1) (some (.inl x14, S15))))))
set_option maxHeartbeats 2000000 in
set_option maxRecDepth 100000 in
theorem t_X10_out {l : Launch} (hls : l.stackTraces = false) {C : cT} (hC : CX C cX10_out 3 yX10_out rm_X10_out) (hl : C.2.1 = l) {S0 : mS} (hE : CE C S0 (Option.some Jvm.ClassFile.FieldType.boolean) []) {o : Rs Int32} {S : mS} {a0 : Nat} {a1 : Int32} (h : f_X10_out S a0 a1 = some o) : XX C 3 (QQ C (fun r : Int32 => some (.int r)) S0 o) 0 0 S 0 [(0, .ref a0), (1, .int a1)] [] := by
  unfold f_X10_out at h
  refine x_aload_n (pc := 0) hC 0 dX10_out_0 rfl rfl ?_
  refine x_iload_n (pc := 1) hC 1 dX10_out_1 rfl rfl ?_
  obtain ⟨g1, h⟩ := gd_some h
  obtain ⟨o4, ho4, h⟩ := bd_some h
  refine x_callV (pc := 2) (As := [.int a1]) (rest := []) hC hl (c_X10_deckOf l hls ho4) lk_RX10_119 fc_16 g1 dX10_out_2 rfl rfl (Nat.le_of_ble_eq_true rfl) ⟨Nat.le_of_ble_eq_true rfl, Nat.le_of_ble_eq_true rfl⟩ ⟨(Nat.le_of_ble_eq_true rfl), (Nat.le_of_ble_eq_true rfl)⟩ ?_
  rcases o4 with ⟨r2 | E5, S3⟩
  · refine xk_a ?_
    replace h := bk_l h
    refine x_astore_n (pc := 5) hC dX10_out_5 rfl (by decide) (by decide) rfl ?_
    refine x_aload_n (pc := 6) hC 1 dX10_out_6 rfl rfl ?_
    obtain ⟨g6, h⟩ := gd_some h
    refine x_getRv (pc := 7) (k := 2) hC fc_16 fl_RX10_22 dX10_out_7 rfl g6 (fun r7 hr7 => ?_)
    replace h := lt_x hr7 h
    refine x_bipush (pc := 10) (v := (14 : Int32)) hC dX10_out_10 (by decide) ?_
    refine x_iload_n (pc := 12) hC 2 dX10_out_12 rfl rfl ?_
    refine x_iconst (pc := 13) (v := (0 : Int32)) hC dX10_out_13 (by decide) ?_
    refine x_iconst (pc := 14) (v := (0 : Int32)) hC dX10_out_14 (by decide) ?_
    obtain ⟨g8, h⟩ := gd_some h
    obtain ⟨o11, ho11, h⟩ := bd_some h
    refine x_callV (pc := 15) (As := [.int (14 : Int32), .int a1, .int (0 : Int32), .int (0 : Int32)]) (rest := []) hC hl (c_X6_note l hls ho11) lk_RX10_94 fc_12 g8 dX10_out_15 rfl rfl (Nat.le_of_ble_eq_true rfl) ⟨Nat.le_of_ble_eq_true rfl, Nat.le_of_ble_eq_true rfl⟩ ⟨(Nat.le_of_ble_eq_true rfl), (Nat.le_of_ble_eq_true rfl)⟩ ?_
    rcases o11 with ⟨_ | E12, S10⟩
    · refine xk_v ?_
      replace h := bk_l h
      refine x_aload_n (pc := 18) hC 0 dX10_out_18 rfl rfl ?_
      obtain ⟨g13, h⟩ := gd_some h
      obtain ⟨o16, ho16, h⟩ := bd_some h
      refine x_callV (pc := 19) (As := []) (rest := []) hC hl (c_X1_leaveLoop l hls ho16) lk_RX10_171 fc_7 g13 dX10_out_19 rfl rfl (Nat.le_of_ble_eq_true rfl) ⟨Nat.le_of_ble_eq_true rfl, Nat.le_of_ble_eq_true rfl⟩ ⟨(Nat.le_of_ble_eq_true rfl), (Nat.le_of_ble_eq_true rfl)⟩ ?_
      rcases o16 with ⟨x14 | E17, S15⟩
      · refine xk_i ?_
        replace h := bk_l h
        obtain ⟨g18, h⟩ := gd_some h
        exact x_zreturn (pc := 22) hC hE dX10_out_22 (nf_B g18).1 (so h) (Nat.le_of_ble_eq_true rfl) (Nat.le_of_ble_eq_true rfl)
      · exact xk_r (xt_out hC hE (bk_r h) (Nat.le_of_ble_eq_true rfl) (Nat.le_of_ble_eq_true rfl))
    · exact xk_r (xt_out hC hE (bk_r h) (Nat.le_of_ble_eq_true rfl) (Nat.le_of_ble_eq_true rfl))
  · exact xk_r (xt_out hC hE (bk_r h) (Nat.le_of_ble_eq_true rfl) (Nat.le_of_ble_eq_true rfl))
theorem c_X10_out (l : Launch) (hls : l.stackTraces = false) {S : mS} {a0 : Nat} {a1 : Int32} {o : Rs Int32} (h : f_X10_out S a0 a1 = some o) : CT (fun r : Int32 => some (.int r)) l yX10_out (.code yX10_out cX10_out 3 (Option.some Jvm.ClassFile.FieldType.boolean)) rm_X10_out S [.ref a0, .int a1] o := ct_of (by decide +kernel) hls (Nat.le_of_ble_eq_true rfl) (fun C hl hC hE => t_X10_out hls hC hl hE h)
abbrev rm_X10_slip : Room := { frames := 11, cells := 2, slots := 12, locals := 216 }
def f_X10_slip_26  (S : mS) (a2 : Int32) (a3 : Nat) (s0 : Nat) (s1 : Int32) (s2 : Int32) (s3 : Int32) : Option (Rs Int32) :=
  gd (gK S s0 = 12) (bd (f_X6_note S s0 s1 s2 s3 (0 : Int32)) fun _ S3 => gd (gK S3 a3 = 7) (bd (f_X1_turnSlip S3 a3 a2) fun x7 S8 => gd (x7 = 0 ∨ x7 = 1) (some (.inl x7, S8))))
set_option maxHeartbeats 2000000 in
set_option maxRecDepth 100000 in
theorem t_X10_slip_26 {l : Launch} (hls : l.stackTraces = false) {C : cT} (hC : CX C cX10_slip 4 yX10_slip rm_X10_slip) (hl : C.2.1 = l) {S0 : mS} (hE : CE C S0 (Option.some Jvm.ClassFile.FieldType.boolean) []) {o : Rs Int32} {S : mS} {a2 : Int32} {a3 : Nat} {s0 : Nat} {s1 : Int32} {s2 : Int32} {s3 : Int32} (h : f_X10_slip_26  S a2 a3 s0 s1 s2 s3 = some o) : XX C 4 (QQ C (fun r : Int32 => some (.int r)) S0 o) (2) (12) S 26 [(2, .int a2), (3, .ref a3)] [.int s3, .int s2, .int s1, .ref s0] := by
  unfold f_X10_slip_26 at h
  refine x_iconst (pc := 26) (v := (0 : Int32)) hC dX10_slip_26 (by decide) ?_
  obtain ⟨g1, h⟩ := gd_some h
  obtain ⟨o4, ho4, h⟩ := bd_some h
  refine x_callV (pc := 27) (As := [.int s1, .int s2, .int s3, .int (0 : Int32)]) (rest := []) hC hl (c_X6_note l hls ho4) lk_RX10_94 fc_12 g1 dX10_slip_27 rfl rfl (Nat.le_of_ble_eq_true rfl) ⟨Nat.le_of_ble_eq_true rfl, Nat.le_of_ble_eq_true rfl⟩ ⟨(Nat.le_of_ble_eq_true rfl), (Nat.le_of_ble_eq_true rfl)⟩ ?_
  rcases o4 with ⟨_ | E5, S3⟩
  · refine xk_v ?_
    replace h := bk_l h
    refine x_aload_n (pc := 30) hC 1 dX10_slip_30 rfl rfl ?_
    refine x_iload_n (pc := 31) hC 0 dX10_slip_31 rfl rfl ?_
    obtain ⟨g6, h⟩ := gd_some h
    obtain ⟨o9, ho9, h⟩ := bd_some h
    refine x_callV (pc := 32) (As := [.int a2]) (rest := []) hC hl (c_X1_turnSlip l hls ho9) lk_RX10_174 fc_7 g6 dX10_slip_32 rfl rfl (Nat.le_of_ble_eq_true rfl) ⟨Nat.le_of_ble_eq_true rfl, Nat.le_of_ble_eq_true rfl⟩ ⟨(Nat.le_of_ble_eq_true rfl), (Nat.le_of_ble_eq_true rfl)⟩ ?_
    rcases o9 with ⟨x7 | E10, S8⟩
    · refine xk_i ?_
      replace h := bk_l h
      obtain ⟨g11, h⟩ := gd_some h
      exact x_zreturn (pc := 35) hC hE dX10_slip_35 (nf_B g11).1 (so h) (Nat.le_of_ble_eq_true rfl) (Nat.le_of_ble_eq_true rfl)
    · exact xk_r (xt_out hC hE (bk_r h) (Nat.le_of_ble_eq_true rfl) (Nat.le_of_ble_eq_true rfl))
  · exact xk_r (xt_out hC hE (bk_r h) (Nat.le_of_ble_eq_true rfl) (Nat.le_of_ble_eq_true rfl))
def f_X10_slip (S : mS) (a0 : Nat) (a1 : Int32) (a2 : Int32) : Option (Rs Int32) :=
  gd (gK S a0 = 16) (bd (f_X10_deckOf S a0 a1) fun r2 S3 => bd (f_X10_demandRecord S3 r2) fun _ S7 => gd (gK S7 a0 = 16) (lt9 (gR S7 a0 2) fun r11 => if a2 = 0 then (f_X10_slip_26  S7 a2 r2 r11 (15 : Int32) a1 (0 : Int32)) else (f_X10_slip_26  S7 a2 r2 r11 (15 : Int32) a1 (1 : Int32))))
set_option maxHeartbeats 2000000 in
set_option maxRecDepth 100000 in
theorem t_X10_slip {l : Launch} (hls : l.stackTraces = false) {C : cT} (hC : CX C cX10_slip 4 yX10_slip rm_X10_slip) (hl : C.2.1 = l) {S0 : mS} (hE : CE C S0 (Option.some Jvm.ClassFile.FieldType.boolean) []) {o : Rs Int32} {S : mS} {a0 : Nat} {a1 : Int32} {a2 : Int32} (h : f_X10_slip S a0 a1 a2 = some o) : XX C 4 (QQ C (fun r : Int32 => some (.int r)) S0 o) 0 0 S 0 [(0, .ref a0), (1, .int a1), (2, .int a2)] [] := by
  unfold f_X10_slip at h
  refine x_aload_n (pc := 0) hC 0 dX10_slip_0 rfl rfl ?_
  refine x_iload_n (pc := 1) hC 1 dX10_slip_1 rfl rfl ?_
  obtain ⟨g1, h⟩ := gd_some h
  obtain ⟨o4, ho4, h⟩ := bd_some h
  refine x_callV (pc := 2) (As := [.int a1]) (rest := []) hC hl (c_X10_deckOf l hls ho4) lk_RX10_119 fc_16 g1 dX10_slip_2 rfl rfl (Nat.le_of_ble_eq_true rfl) ⟨Nat.le_of_ble_eq_true rfl, Nat.le_of_ble_eq_true rfl⟩ ⟨(Nat.le_of_ble_eq_true rfl), (Nat.le_of_ble_eq_true rfl)⟩ ?_
  rcases o4 with ⟨r2 | E5, S3⟩
  · refine xk_a ?_
    replace h := bk_l h
    refine x_astore_n (pc := 5) hC dX10_slip_5 rfl (by decide) (by decide) rfl ?_
    refine x_aload_n (pc := 6) hC 0 dX10_slip_6 rfl rfl ?_
    obtain ⟨o8, ho8, h⟩ := bd_some h
    refine x_callS (pc := 7) (As := [.ref r2]) (rest := []) hC hl (c_X10_demandRecord l hls ho8) lk_RX10_135 dX10_slip_7 rfl rfl (Nat.le_of_ble_eq_true rfl) ⟨Nat.le_of_ble_eq_true rfl, Nat.le_of_ble_eq_true rfl⟩ ⟨(Nat.le_of_ble_eq_true rfl), (Nat.le_of_ble_eq_true rfl)⟩ ?_
    rcases o8 with ⟨_ | E9, S7⟩
    · refine xk_v ?_
      replace h := bk_l h
      refine x_aload_n (pc := 10) hC 1 dX10_slip_10 rfl rfl ?_
      obtain ⟨g10, h⟩ := gd_some h
      refine x_getRv (pc := 11) (k := 2) hC fc_16 fl_RX10_22 dX10_slip_11 rfl g10 (fun r11 hr11 => ?_)
      replace h := lt_x hr11 h
      refine x_bipush (pc := 14) (v := (15 : Int32)) hC dX10_slip_14 (by decide) ?_
      refine x_iload_n (pc := 16) hC 2 dX10_slip_16 rfl rfl ?_
      refine x_iload_n (pc := 17) hC 3 dX10_slip_17 rfl rfl ?_
      refine x_if_eq (pc := 18) hC 25 dX10_slip_18 (by decide) (fun c12 => ?_) (fun c12 => ?_)
      · rw [if_pos c12] at h
        refine x_iconst (pc := 25) (v := (0 : Int32)) hC dX10_slip_25 (by decide) ?_
        refine x_pick [3, 0] rfl ?_
        exact t_X10_slip_26 hls hC hl hE h
      · rw [if_neg c12] at h
        refine x_iconst (pc := 21) (v := (1 : Int32)) hC dX10_slip_21 (by decide) ?_
        refine x_goto (pc := 22) hC 26 dX10_slip_22 (by decide) ?_
        refine x_pick [3, 0] rfl ?_
        exact t_X10_slip_26 hls hC hl hE h
    · exact xk_r (xt_out hC hE (bk_r h) (Nat.le_of_ble_eq_true rfl) (Nat.le_of_ble_eq_true rfl))
  · exact xk_r (xt_out hC hE (bk_r h) (Nat.le_of_ble_eq_true rfl) (Nat.le_of_ble_eq_true rfl))
theorem c_X10_slip (l : Launch) (hls : l.stackTraces = false) {S : mS} {a0 : Nat} {a1 : Int32} {a2 : Int32} {o : Rs Int32} (h : f_X10_slip S a0 a1 a2 = some o) : CT (fun r : Int32 => some (.int r)) l yX10_slip (.code yX10_slip cX10_slip 4 (Option.some Jvm.ClassFile.FieldType.boolean)) rm_X10_slip S [.ref a0, .int a1, .int a2] o := ct_of (by decide +kernel) hls (Nat.le_of_ble_eq_true rfl) (fun C hl hC hE => t_X10_slip hls hC hl hE h)
abbrev rm_X10_place : Room := { frames := 10, cells := 2, slots := 12, locals := 193 }
def f_X10_place (S : mS) (a0 : Nat) (a1 : Int32) : Option (Rs Int64) :=
  gd (gK S a0 = 16) (bd (f_X10_deckOf S a0 a1) fun r2 S3 => bd (f_X10_demandRecord S3 r2) fun _ S7 => gd (gK S7 r2 = 7) (lt9 (gL S7 r2 3) fun x11 => some (.inl x11, S7)))
set_option maxHeartbeats 2000000 in
set_option maxRecDepth 100000 in
theorem t_X10_place {l : Launch} (hls : l.stackTraces = false) {C : cT} (hC : CX C cX10_place 3 yX10_place rm_X10_place) (hl : C.2.1 = l) {S0 : mS} (hE : CE C S0 (Option.some Jvm.ClassFile.FieldType.long) []) {o : Rs Int64} {S : mS} {a0 : Nat} {a1 : Int32} (h : f_X10_place S a0 a1 = some o) : XX C 3 (QQ C (fun r : Int64 => some (.long r)) S0 o) 0 0 S 0 [(0, .ref a0), (1, .int a1)] [] := by
  unfold f_X10_place at h
  refine x_aload_n (pc := 0) hC 0 dX10_place_0 rfl rfl ?_
  refine x_iload_n (pc := 1) hC 1 dX10_place_1 rfl rfl ?_
  obtain ⟨g1, h⟩ := gd_some h
  obtain ⟨o4, ho4, h⟩ := bd_some h
  refine x_callV (pc := 2) (As := [.int a1]) (rest := []) hC hl (c_X10_deckOf l hls ho4) lk_RX10_119 fc_16 g1 dX10_place_2 rfl rfl (Nat.le_of_ble_eq_true rfl) ⟨Nat.le_of_ble_eq_true rfl, Nat.le_of_ble_eq_true rfl⟩ ⟨(Nat.le_of_ble_eq_true rfl), (Nat.le_of_ble_eq_true rfl)⟩ ?_
  rcases o4 with ⟨r2 | E5, S3⟩
  · refine xk_a ?_
    replace h := bk_l h
    refine x_astore_n (pc := 5) hC dX10_place_5 rfl (by decide) (by decide) rfl ?_
    refine x_aload_n (pc := 6) hC 0 dX10_place_6 rfl rfl ?_
    obtain ⟨o8, ho8, h⟩ := bd_some h
    refine x_callS (pc := 7) (As := [.ref r2]) (rest := []) hC hl (c_X10_demandRecord l hls ho8) lk_RX10_135 dX10_place_7 rfl rfl (Nat.le_of_ble_eq_true rfl) ⟨Nat.le_of_ble_eq_true rfl, Nat.le_of_ble_eq_true rfl⟩ ⟨(Nat.le_of_ble_eq_true rfl), (Nat.le_of_ble_eq_true rfl)⟩ ?_
    rcases o8 with ⟨_ | E9, S7⟩
    · refine xk_v ?_
      replace h := bk_l h
      refine x_aload_n (pc := 10) hC 0 dX10_place_10 rfl rfl ?_
      obtain ⟨g10, h⟩ := gd_some h
      refine x_getLv (pc := 11) (k := 3) hC fc_7 fl_RX10_177 dX10_place_11 rfl g10 (fun x11 hx11 => ?_)
      replace h := lt_x hx11 h
      exact x_lreturn (pc := 14) hC hE dX10_place_14 (so h) (Nat.le_of_ble_eq_true rfl) (Nat.le_of_ble_eq_true rfl)
    · exact xk_r (xt_out hC hE (bk_r h) (Nat.le_of_ble_eq_true rfl) (Nat.le_of_ble_eq_true rfl))
  · exact xk_r (xt_out hC hE (bk_r h) (Nat.le_of_ble_eq_true rfl) (Nat.le_of_ble_eq_true rfl))
theorem c_X10_place (l : Launch) (hls : l.stackTraces = false) {S : mS} {a0 : Nat} {a1 : Int32} {o : Rs Int64} (h : f_X10_place S a0 a1 = some o) : CT (fun r : Int64 => some (.long r)) l yX10_place (.code yX10_place cX10_place 3 (Option.some Jvm.ClassFile.FieldType.long)) rm_X10_place S [.ref a0, .int a1] o := ct_of (by decide +kernel) hls (Nat.le_of_ble_eq_true rfl) (fun C hl hC hE => t_X10_place hls hC hl hE h)
abbrev rm_X10_tempo : Room := { frames := 10, cells := 2, slots := 12, locals := 193 }
def f_X10_tempo (S : mS) (a0 : Nat) (a1 : Int32) : Option (Rs Int32) :=
  gd (gK S a0 = 16) (bd (f_X10_deckOf S a0 a1) fun r2 S3 => bd (f_X10_demandRecord S3 r2) fun _ S7 => gd (gK S7 r2 = 7) (bd (f_X1_pace S7 r2) fun x11 S12 => some (.inl x11, S12)))
set_option maxHeartbeats 2000000 in
set_option maxRecDepth 100000 in
theorem t_X10_tempo {l : Launch} (hls : l.stackTraces = false) {C : cT} (hC : CX C cX10_tempo 3 yX10_tempo rm_X10_tempo) (hl : C.2.1 = l) {S0 : mS} (hE : CE C S0 (Option.some Jvm.ClassFile.FieldType.int) []) {o : Rs Int32} {S : mS} {a0 : Nat} {a1 : Int32} (h : f_X10_tempo S a0 a1 = some o) : XX C 3 (QQ C (fun r : Int32 => some (.int r)) S0 o) 0 0 S 0 [(0, .ref a0), (1, .int a1)] [] := by
  unfold f_X10_tempo at h
  refine x_aload_n (pc := 0) hC 0 dX10_tempo_0 rfl rfl ?_
  refine x_iload_n (pc := 1) hC 1 dX10_tempo_1 rfl rfl ?_
  obtain ⟨g1, h⟩ := gd_some h
  obtain ⟨o4, ho4, h⟩ := bd_some h
  refine x_callV (pc := 2) (As := [.int a1]) (rest := []) hC hl (c_X10_deckOf l hls ho4) lk_RX10_119 fc_16 g1 dX10_tempo_2 rfl rfl (Nat.le_of_ble_eq_true rfl) ⟨Nat.le_of_ble_eq_true rfl, Nat.le_of_ble_eq_true rfl⟩ ⟨(Nat.le_of_ble_eq_true rfl), (Nat.le_of_ble_eq_true rfl)⟩ ?_
  rcases o4 with ⟨r2 | E5, S3⟩
  · refine xk_a ?_
    replace h := bk_l h
    refine x_astore_n (pc := 5) hC dX10_tempo_5 rfl (by decide) (by decide) rfl ?_
    refine x_aload_n (pc := 6) hC 0 dX10_tempo_6 rfl rfl ?_
    obtain ⟨o8, ho8, h⟩ := bd_some h
    refine x_callS (pc := 7) (As := [.ref r2]) (rest := []) hC hl (c_X10_demandRecord l hls ho8) lk_RX10_135 dX10_tempo_7 rfl rfl (Nat.le_of_ble_eq_true rfl) ⟨Nat.le_of_ble_eq_true rfl, Nat.le_of_ble_eq_true rfl⟩ ⟨(Nat.le_of_ble_eq_true rfl), (Nat.le_of_ble_eq_true rfl)⟩ ?_
    rcases o8 with ⟨_ | E9, S7⟩
    · refine xk_v ?_
      replace h := bk_l h
      refine x_aload_n (pc := 10) hC 0 dX10_tempo_10 rfl rfl ?_
      obtain ⟨g10, h⟩ := gd_some h
      obtain ⟨o13, ho13, h⟩ := bd_some h
      refine x_callV (pc := 11) (As := []) (rest := []) hC hl (c_X1_pace l hls ho13) lk_RX10_181 fc_7 g10 dX10_tempo_11 rfl rfl (Nat.le_of_ble_eq_true rfl) ⟨Nat.le_of_ble_eq_true rfl, Nat.le_of_ble_eq_true rfl⟩ ⟨(Nat.le_of_ble_eq_true rfl), (Nat.le_of_ble_eq_true rfl)⟩ ?_
      rcases o13 with ⟨x11 | E14, S12⟩
      · refine xk_i ?_
        replace h := bk_l h
        exact x_ireturn (pc := 14) hC hE dX10_tempo_14 (so h) (Nat.le_of_ble_eq_true rfl) (Nat.le_of_ble_eq_true rfl)
      · exact xk_r (xt_out hC hE (bk_r h) (Nat.le_of_ble_eq_true rfl) (Nat.le_of_ble_eq_true rfl))
    · exact xk_r (xt_out hC hE (bk_r h) (Nat.le_of_ble_eq_true rfl) (Nat.le_of_ble_eq_true rfl))
  · exact xk_r (xt_out hC hE (bk_r h) (Nat.le_of_ble_eq_true rfl) (Nat.le_of_ble_eq_true rfl))
theorem c_X10_tempo (l : Launch) (hls : l.stackTraces = false) {S : mS} {a0 : Nat} {a1 : Int32} {o : Rs Int32} (h : f_X10_tempo S a0 a1 = some o) : CT (fun r : Int32 => some (.int r)) l yX10_tempo (.code yX10_tempo cX10_tempo 3 (Option.some Jvm.ClassFile.FieldType.int)) rm_X10_tempo S [.ref a0, .int a1] o := ct_of (by decide +kernel) hls (Nat.le_of_ble_eq_true rfl) (fun C hl hC hE => t_X10_tempo hls hC hl hE h)
abbrev rm_X10_plays : Room := { frames := 10, cells := 1, slots := 6, locals := 193 }
def f_X10_plays (S : mS) (a0 : Nat) (a1 : Int32) : Option (Rs Int32) :=
  gd (gK S a0 = 16) (bd (f_X10_deckOf S a0 a1) fun r2 S3 => gd (gK S3 r2 = 7) (lt9 (gI S3 r2 5) fun x7 => gd (x7 = 0 ∨ x7 = 1) (some (.inl x7, S3))))
set_option maxHeartbeats 2000000 in
set_option maxRecDepth 100000 in
theorem t_X10_plays {l : Launch} (hls : l.stackTraces = false) {C : cT} (hC : CX C cX10_plays 2 yX10_plays rm_X10_plays) (hl : C.2.1 = l) {S0 : mS} (hE : CE C S0 (Option.some Jvm.ClassFile.FieldType.boolean) []) {o : Rs Int32} {S : mS} {a0 : Nat} {a1 : Int32} (h : f_X10_plays S a0 a1 = some o) : XX C 2 (QQ C (fun r : Int32 => some (.int r)) S0 o) 0 0 S 0 [(0, .ref a0), (1, .int a1)] [] := by
  unfold f_X10_plays at h
  refine x_aload_n (pc := 0) hC 0 dX10_plays_0 rfl rfl ?_
  refine x_iload_n (pc := 1) hC 1 dX10_plays_1 rfl rfl ?_
  obtain ⟨g1, h⟩ := gd_some h
  obtain ⟨o4, ho4, h⟩ := bd_some h
  refine x_callV (pc := 2) (As := [.int a1]) (rest := []) hC hl (c_X10_deckOf l hls ho4) lk_RX10_119 fc_16 g1 dX10_plays_2 rfl rfl (Nat.le_of_ble_eq_true rfl) ⟨Nat.le_of_ble_eq_true rfl, Nat.le_of_ble_eq_true rfl⟩ ⟨(Nat.le_of_ble_eq_true rfl), (Nat.le_of_ble_eq_true rfl)⟩ ?_
  rcases o4 with ⟨r2 | E5, S3⟩
  · refine xk_a ?_
    replace h := bk_l h
    obtain ⟨g6, h⟩ := gd_some h
    refine x_getIv (pc := 5) (k := 5) hC fc_7 fl_RX10_123 dX10_plays_5 rfl g6 (fun x7 hx7 => ?_)
    replace h := lt_x hx7 h
    obtain ⟨g8, h⟩ := gd_some h
    exact x_zreturn (pc := 8) hC hE dX10_plays_8 (nf_B g8).1 (so h) (Nat.le_of_ble_eq_true rfl) (Nat.le_of_ble_eq_true rfl)
  · exact xk_r (xt_out hC hE (bk_r h) (Nat.le_of_ble_eq_true rfl) (Nat.le_of_ble_eq_true rfl))
theorem c_X10_plays (l : Launch) (hls : l.stackTraces = false) {S : mS} {a0 : Nat} {a1 : Int32} {o : Rs Int32} (h : f_X10_plays S a0 a1 = some o) : CT (fun r : Int32 => some (.int r)) l yX10_plays (.code yX10_plays cX10_plays 2 (Option.some Jvm.ClassFile.FieldType.boolean)) rm_X10_plays S [.ref a0, .int a1] o := ct_of (by decide +kernel) hls (Nat.le_of_ble_eq_true rfl) (fun C hl hC hE => t_X10_plays hls hC hl hE h)
abbrev rm_X10_on : Room := { frames := 10, cells := 2, slots := 12, locals := 193 }
def f_X10_on (S : mS) (a0 : Nat) (a1 : Int32) : Option (Rs Int32) :=
  gd (gK S a0 = 16) (bd (f_X10_deckOf S a0 a1) fun r2 S3 => gd (gK S3 r2 = 7) (lt9 (gR S3 r2 2) fun r7 => if r7 = 0 then (some (.inr "java/util/NoSuchElementException", S3)) else (gd (gK S3 r7 = 8) (lt9 (gI S3 r7 0) fun x9 => some (.inl x9, S3)))))
set_option maxHeartbeats 2000000 in
set_option maxRecDepth 100000 in
theorem t_X10_on {l : Launch} (hls : l.stackTraces = false) {C : cT} (hC : CX C cX10_on 3 yX10_on rm_X10_on) (hl : C.2.1 = l) {S0 : mS} (hE : CE C S0 (Option.some Jvm.ClassFile.FieldType.int) []) {o : Rs Int32} {S : mS} {a0 : Nat} {a1 : Int32} (h : f_X10_on S a0 a1 = some o) : XX C 3 (QQ C (fun r : Int32 => some (.int r)) S0 o) 0 0 S 0 [(0, .ref a0), (1, .int a1)] [] := by
  unfold f_X10_on at h
  refine x_aload_n (pc := 0) hC 0 dX10_on_0 rfl rfl ?_
  refine x_iload_n (pc := 1) hC 1 dX10_on_1 rfl rfl ?_
  obtain ⟨g1, h⟩ := gd_some h
  obtain ⟨o4, ho4, h⟩ := bd_some h
  refine x_callV (pc := 2) (As := [.int a1]) (rest := []) hC hl (c_X10_deckOf l hls ho4) lk_RX10_119 fc_16 g1 dX10_on_2 rfl rfl (Nat.le_of_ble_eq_true rfl) ⟨Nat.le_of_ble_eq_true rfl, Nat.le_of_ble_eq_true rfl⟩ ⟨(Nat.le_of_ble_eq_true rfl), (Nat.le_of_ble_eq_true rfl)⟩ ?_
  rcases o4 with ⟨r2 | E5, S3⟩
  · refine xk_a ?_
    replace h := bk_l h
    obtain ⟨g6, h⟩ := gd_some h
    refine x_getRv (pc := 5) (k := 2) hC fc_7 fl_RX10_185 dX10_on_5 rfl g6 (fun r7 hr7 => ?_)
    replace h := lt_x hr7 h
    refine x_astore_n (pc := 8) hC dX10_on_8 rfl (by decide) (by decide) rfl ?_
    refine x_aload_n (pc := 9) hC 0 dX10_on_9 rfl rfl ?_
    refine x_ifnonnull (pc := 10) hC 23 dX10_on_10 (by decide) (fun c10 => ?_) (fun c10 => ?_)
    · rw [if_neg c10] at h
      refine x_aload_n (pc := 23) hC 0 dX10_on_23 rfl rfl ?_
      obtain ⟨g8, h⟩ := gd_some h
      refine x_getIv (pc := 24) (k := 0) hC fc_8 fl_RX10_194 dX10_on_24 rfl g8 (fun x9 hx9 => ?_)
      replace h := lt_x hx9 h
      exact x_ireturn (pc := 27) hC hE dX10_on_27 (so h) (Nat.le_of_ble_eq_true rfl) (Nat.le_of_ble_eq_true rfl)
    · rw [if_pos c10] at h
      exact x_throwNS (pc := 13) hC hE th_RX10_189_193_191 dX10_on_13 dX10_on_16 dX10_on_17 dX10_on_19 dX10_on_22 (so h) (Nat.le_of_ble_eq_true rfl) (Nat.le_of_ble_eq_true rfl) (Nat.le_of_ble_eq_true rfl) (Nat.le_of_ble_eq_true rfl)
  · exact xk_r (xt_out hC hE (bk_r h) (Nat.le_of_ble_eq_true rfl) (Nat.le_of_ble_eq_true rfl))
theorem c_X10_on (l : Launch) (hls : l.stackTraces = false) {S : mS} {a0 : Nat} {a1 : Int32} {o : Rs Int32} (h : f_X10_on S a0 a1 = some o) : CT (fun r : Int32 => some (.int r)) l yX10_on (.code yX10_on cX10_on 3 (Option.some Jvm.ClassFile.FieldType.int)) rm_X10_on S [.ref a0, .int a1] o := ct_of (by decide +kernel) hls (Nat.le_of_ble_eq_true rfl) (fun C hl hC hE => t_X10_on hls hC hl hE h)
abbrev rm_X10_setFader : Room := { frames := 11, cells := 2, slots := 12, locals := 216 }
def f_X10_setFader (S : mS) (a0 : Nat) (a1 : Int32) (a2 : Int32) : Option (Rs Int32) :=
  gd (gK S a0 = 16) (bd (f_X10_deckOf S a0 a1) fun r2 S3 => bd (f_X10_isIn S3 a2 (0 : Int32) (100 : Int32)) fun x6 S7 => bd (f_X10_demand S7 x6) fun _ S11 => gd (gK S11 a0 = 16) (lt9 (gR S11 a0 2) fun r15 => gd (gK S11 r15 = 12) (bd (f_X6_note S11 r15 (16 : Int32) a1 a2 (0 : Int32)) fun _ S18 => gd (gK S18 r2 = 7) (lt9 (gR S18 r2 0) fun r22 => gd (gK S18 r22 = 6) (bd (f_X0_slide S18 r22 a2) fun x24 S25 => some (.inl x24, S25))))))
set_option maxHeartbeats 2000000 in
set_option maxRecDepth 100000 in
theorem t_X10_setFader {l : Launch} (hls : l.stackTraces = false) {C : cT} (hC : CX C cX10_setFader 4 yX10_setFader rm_X10_setFader) (hl : C.2.1 = l) {S0 : mS} (hE : CE C S0 (Option.some Jvm.ClassFile.FieldType.int) []) {o : Rs Int32} {S : mS} {a0 : Nat} {a1 : Int32} {a2 : Int32} (h : f_X10_setFader S a0 a1 a2 = some o) : XX C 4 (QQ C (fun r : Int32 => some (.int r)) S0 o) 0 0 S 0 [(0, .ref a0), (1, .int a1), (2, .int a2)] [] := by
  unfold f_X10_setFader at h
  refine x_aload_n (pc := 0) hC 0 dX10_setFader_0 rfl rfl ?_
  refine x_iload_n (pc := 1) hC 1 dX10_setFader_1 rfl rfl ?_
  obtain ⟨g1, h⟩ := gd_some h
  obtain ⟨o4, ho4, h⟩ := bd_some h
  refine x_callV (pc := 2) (As := [.int a1]) (rest := []) hC hl (c_X10_deckOf l hls ho4) lk_RX10_119 fc_16 g1 dX10_setFader_2 rfl rfl (Nat.le_of_ble_eq_true rfl) ⟨Nat.le_of_ble_eq_true rfl, Nat.le_of_ble_eq_true rfl⟩ ⟨(Nat.le_of_ble_eq_true rfl), (Nat.le_of_ble_eq_true rfl)⟩ ?_
  rcases o4 with ⟨r2 | E5, S3⟩
  · refine xk_a ?_
    replace h := bk_l h
    refine x_astore_n (pc := 5) hC dX10_setFader_5 rfl (by decide) (by decide) rfl ?_
    refine x_iload_n (pc := 6) hC 3 dX10_setFader_6 rfl rfl ?_
    refine x_iconst (pc := 7) (v := (0 : Int32)) hC dX10_setFader_7 (by decide) ?_
    refine x_bipush (pc := 8) (v := (100 : Int32)) hC dX10_setFader_8 (by decide) ?_
    obtain ⟨o8, ho8, h⟩ := bd_some h
    refine x_callS (pc := 10) (As := [.int a2, .int (0 : Int32), .int (100 : Int32)]) (rest := []) hC hl (c_X10_isIn l hls ho8) lk_RX10_46 dX10_setFader_10 rfl rfl (Nat.le_of_ble_eq_true rfl) ⟨Nat.le_of_ble_eq_true rfl, Nat.le_of_ble_eq_true rfl⟩ ⟨(Nat.le_of_ble_eq_true rfl), (Nat.le_of_ble_eq_true rfl)⟩ ?_
    rcases o8 with ⟨x6 | E9, S7⟩
    · refine xk_i ?_
      replace h := bk_l h
      obtain ⟨o12, ho12, h⟩ := bd_some h
      refine x_callS (pc := 13) (As := [.int x6]) (rest := []) hC hl (c_X10_demand l hls ho12) lk_RX10_50 dX10_setFader_13 rfl rfl (Nat.le_of_ble_eq_true rfl) ⟨Nat.le_of_ble_eq_true rfl, Nat.le_of_ble_eq_true rfl⟩ ⟨(Nat.le_of_ble_eq_true rfl), (Nat.le_of_ble_eq_true rfl)⟩ ?_
      rcases o12 with ⟨_ | E13, S11⟩
      · refine xk_v ?_
        replace h := bk_l h
        refine x_aload_n (pc := 16) hC 1 dX10_setFader_16 rfl rfl ?_
        obtain ⟨g14, h⟩ := gd_some h
        refine x_getRv (pc := 17) (k := 2) hC fc_16 fl_RX10_22 dX10_setFader_17 rfl g14 (fun r15 hr15 => ?_)
        replace h := lt_x hr15 h
        refine x_bipush (pc := 20) (v := (16 : Int32)) hC dX10_setFader_20 (by decide) ?_
        refine x_iload_n (pc := 22) hC 2 dX10_setFader_22 rfl rfl ?_
        refine x_iload_n (pc := 23) hC 3 dX10_setFader_23 rfl rfl ?_
        refine x_iconst (pc := 24) (v := (0 : Int32)) hC dX10_setFader_24 (by decide) ?_
        obtain ⟨g16, h⟩ := gd_some h
        obtain ⟨o19, ho19, h⟩ := bd_some h
        refine x_callV (pc := 25) (As := [.int (16 : Int32), .int a1, .int a2, .int (0 : Int32)]) (rest := []) hC hl (c_X6_note l hls ho19) lk_RX10_94 fc_12 g16 dX10_setFader_25 rfl rfl (Nat.le_of_ble_eq_true rfl) ⟨Nat.le_of_ble_eq_true rfl, Nat.le_of_ble_eq_true rfl⟩ ⟨(Nat.le_of_ble_eq_true rfl), (Nat.le_of_ble_eq_true rfl)⟩ ?_
        rcases o19 with ⟨_ | E20, S18⟩
        · refine xk_v ?_
          replace h := bk_l h
          refine x_aload_n (pc := 28) hC 0 dX10_setFader_28 rfl rfl ?_
          obtain ⟨g21, h⟩ := gd_some h
          refine x_getRv (pc := 29) (k := 0) hC fc_7 fl_RX10_197 dX10_setFader_29 rfl g21 (fun r22 hr22 => ?_)
          replace h := lt_x hr22 h
          refine x_iload_n (pc := 32) hC 3 dX10_setFader_32 rfl rfl ?_
          obtain ⟨g23, h⟩ := gd_some h
          obtain ⟨o26, ho26, h⟩ := bd_some h
          refine x_callV (pc := 33) (As := [.int a2]) (rest := []) hC hl (c_X0_slide l hls ho26) lk_RX10_201 fc_6 g23 dX10_setFader_33 rfl rfl (Nat.le_of_ble_eq_true rfl) ⟨Nat.le_of_ble_eq_true rfl, Nat.le_of_ble_eq_true rfl⟩ ⟨(Nat.le_of_ble_eq_true rfl), (Nat.le_of_ble_eq_true rfl)⟩ ?_
          rcases o26 with ⟨x24 | E27, S25⟩
          · refine xk_i ?_
            replace h := bk_l h
            exact x_ireturn (pc := 36) hC hE dX10_setFader_36 (so h) (Nat.le_of_ble_eq_true rfl) (Nat.le_of_ble_eq_true rfl)
          · exact xk_r (xt_out hC hE (bk_r h) (Nat.le_of_ble_eq_true rfl) (Nat.le_of_ble_eq_true rfl))
        · exact xk_r (xt_out hC hE (bk_r h) (Nat.le_of_ble_eq_true rfl) (Nat.le_of_ble_eq_true rfl))
      · exact xk_r (xt_out hC hE (bk_r h) (Nat.le_of_ble_eq_true rfl) (Nat.le_of_ble_eq_true rfl))
    · exact xk_r (xt_out hC hE (bk_r h) (Nat.le_of_ble_eq_true rfl) (Nat.le_of_ble_eq_true rfl))
  · exact xk_r (xt_out hC hE (bk_r h) (Nat.le_of_ble_eq_true rfl) (Nat.le_of_ble_eq_true rfl))
theorem c_X10_setFader (l : Launch) (hls : l.stackTraces = false) {S : mS} {a0 : Nat} {a1 : Int32} {a2 : Int32} {o : Rs Int32} (h : f_X10_setFader S a0 a1 a2 = some o) : CT (fun r : Int32 => some (.int r)) l yX10_setFader (.code yX10_setFader cX10_setFader 4 (Option.some Jvm.ClassFile.FieldType.int)) rm_X10_setFader S [.ref a0, .int a1, .int a2] o := ct_of (by decide +kernel) hls (Nat.le_of_ble_eq_true rfl) (fun C hl hC hE => t_X10_setFader hls hC hl hE h)
abbrev rm_X10_setBand : Room := { frames := 11, cells := 2, slots := 12, locals := 216 }
def f_X10_setBand_31  (S : mS) (a0 : Nat) (a1 : Int32) (a2 : Int32) (a3 : Int32) (a4 : Nat) (s0 : Int32) : Option (Rs Int32) :=
  bd (f_X10_demand S s0) fun _ S2 => gd (gK S2 a0 = 16) (lt9 (gR S2 a0 2) fun r6 => gd (gK S2 r6 = 12) (bd (f_X6_note S2 r6 (17 : Int32) a1 a2 a3) fun _ S9 => gd (gK S9 a4 = 7) (lt9 (gR S9 a4 0) fun r13 => gd (gK S9 r13 = 6) (bd (f_X0_turnBand S9 r13 a2 a3) fun x15 S16 => some (.inl x15, S16)))))
set_option maxHeartbeats 2000000 in
set_option maxRecDepth 100000 in
theorem t_X10_setBand_31 {l : Launch} (hls : l.stackTraces = false) {C : cT} (hC : CX C cX10_setBand 5 yX10_setBand rm_X10_setBand) (hl : C.2.1 = l) {S0 : mS} (hE : CE C S0 (Option.some Jvm.ClassFile.FieldType.int) []) {o : Rs Int32} {S : mS} {a0 : Nat} {a1 : Int32} {a2 : Int32} {a3 : Int32} {a4 : Nat} {s0 : Int32} (h : f_X10_setBand_31  S a0 a1 a2 a3 a4 s0 = some o) : XX C 5 (QQ C (fun r : Int32 => some (.int r)) S0 o) (1) (6) S 31 [(0, .ref a0), (1, .int a1), (2, .int a2), (3, .int a3), (4, .ref a4)] [.int s0] := by
  unfold f_X10_setBand_31 at h
  obtain ⟨o3, ho3, h⟩ := bd_some h
  refine x_callS (pc := 31) (As := [.int s0]) (rest := []) hC hl (c_X10_demand l hls ho3) lk_RX10_50 dX10_setBand_31 rfl rfl (Nat.le_of_ble_eq_true rfl) ⟨Nat.le_of_ble_eq_true rfl, Nat.le_of_ble_eq_true rfl⟩ ⟨(Nat.le_of_ble_eq_true rfl), (Nat.le_of_ble_eq_true rfl)⟩ ?_
  rcases o3 with ⟨_ | E4, S2⟩
  · refine xk_v ?_
    replace h := bk_l h
    refine x_aload_n (pc := 34) hC 0 dX10_setBand_34 rfl rfl ?_
    obtain ⟨g5, h⟩ := gd_some h
    refine x_getRv (pc := 35) (k := 2) hC fc_16 fl_RX10_22 dX10_setBand_35 rfl g5 (fun r6 hr6 => ?_)
    replace h := lt_x hr6 h
    refine x_bipush (pc := 38) (v := (17 : Int32)) hC dX10_setBand_38 (by decide) ?_
    refine x_iload_n (pc := 40) hC 1 dX10_setBand_40 rfl rfl ?_
    refine x_iload_n (pc := 41) hC 2 dX10_setBand_41 rfl rfl ?_
    refine x_iload_n (pc := 42) hC 3 dX10_setBand_42 rfl rfl ?_
    obtain ⟨g7, h⟩ := gd_some h
    obtain ⟨o10, ho10, h⟩ := bd_some h
    refine x_callV (pc := 43) (As := [.int (17 : Int32), .int a1, .int a2, .int a3]) (rest := []) hC hl (c_X6_note l hls ho10) lk_RX10_94 fc_12 g7 dX10_setBand_43 rfl rfl (Nat.le_of_ble_eq_true rfl) ⟨Nat.le_of_ble_eq_true rfl, Nat.le_of_ble_eq_true rfl⟩ ⟨(Nat.le_of_ble_eq_true rfl), (Nat.le_of_ble_eq_true rfl)⟩ ?_
    rcases o10 with ⟨_ | E11, S9⟩
    · refine xk_v ?_
      replace h := bk_l h
      refine x_aload (pc := 46) hC 4 dX10_setBand_46 rfl ?_
      obtain ⟨g12, h⟩ := gd_some h
      refine x_getRv (pc := 48) (k := 0) hC fc_7 fl_RX10_197 dX10_setBand_48 rfl g12 (fun r13 hr13 => ?_)
      replace h := lt_x hr13 h
      refine x_iload_n (pc := 51) hC 2 dX10_setBand_51 rfl rfl ?_
      refine x_iload_n (pc := 52) hC 3 dX10_setBand_52 rfl rfl ?_
      obtain ⟨g14, h⟩ := gd_some h
      obtain ⟨o17, ho17, h⟩ := bd_some h
      refine x_callV (pc := 53) (As := [.int a2, .int a3]) (rest := []) hC hl (c_X0_turnBand l hls ho17) lk_RX10_206 fc_6 g14 dX10_setBand_53 rfl rfl (Nat.le_of_ble_eq_true rfl) ⟨Nat.le_of_ble_eq_true rfl, Nat.le_of_ble_eq_true rfl⟩ ⟨(Nat.le_of_ble_eq_true rfl), (Nat.le_of_ble_eq_true rfl)⟩ ?_
      rcases o17 with ⟨x15 | E18, S16⟩
      · refine xk_i ?_
        replace h := bk_l h
        exact x_ireturn (pc := 56) hC hE dX10_setBand_56 (so h) (Nat.le_of_ble_eq_true rfl) (Nat.le_of_ble_eq_true rfl)
      · exact xk_r (xt_out hC hE (bk_r h) (Nat.le_of_ble_eq_true rfl) (Nat.le_of_ble_eq_true rfl))
    · exact xk_r (xt_out hC hE (bk_r h) (Nat.le_of_ble_eq_true rfl) (Nat.le_of_ble_eq_true rfl))
  · exact xk_r (xt_out hC hE (bk_r h) (Nat.le_of_ble_eq_true rfl) (Nat.le_of_ble_eq_true rfl))
def f_X10_setBand_30  (S : mS) (a0 : Nat) (a1 : Int32) (a2 : Int32) (a3 : Int32) (a4 : Nat) : Option (Rs Int32) :=
  f_X10_setBand_31  S a0 a1 a2 a3 a4 (0 : Int32)
set_option maxHeartbeats 2000000 in
set_option maxRecDepth 100000 in
theorem t_X10_setBand_30 {l : Launch} (hls : l.stackTraces = false) {C : cT} (hC : CX C cX10_setBand 5 yX10_setBand rm_X10_setBand) (hl : C.2.1 = l) {S0 : mS} (hE : CE C S0 (Option.some Jvm.ClassFile.FieldType.int) []) {o : Rs Int32} {S : mS} {a0 : Nat} {a1 : Int32} {a2 : Int32} {a3 : Int32} {a4 : Nat} (h : f_X10_setBand_30  S a0 a1 a2 a3 a4 = some o) : XX C 5 (QQ C (fun r : Int32 => some (.int r)) S0 o) (1) (6) S 30 [(0, .ref a0), (1, .int a1), (2, .int a2), (3, .int a3), (4, .ref a4)] [] := by
  unfold f_X10_setBand_30 at h
  refine x_iconst (pc := 30) (v := (0 : Int32)) hC dX10_setBand_30 (by decide) ?_
  refine x_pick [0, 1, 2, 3, 4] rfl ?_
  exact t_X10_setBand_31 hls hC hl hE h
def f_X10_setBand (S : mS) (a0 : Nat) (a1 : Int32) (a2 : Int32) (a3 : Int32) : Option (Rs Int32) :=
  gd (gK S a0 = 16) (bd (f_X10_deckOf S a0 a1) fun r2 S3 => bd (f_X10_isIn S3 a2 (0 : Int32) (2 : Int32)) fun x6 S7 => if x6 = 0 then (f_X10_setBand_30  S7 a0 a1 a2 a3 r2) else (bd (f_X10_isIn S7 a3 (0 : Int32) (100 : Int32)) fun x10 S11 => if x10 = 0 then (f_X10_setBand_30  S11 a0 a1 a2 a3 r2) else (f_X10_setBand_31  S11 a0 a1 a2 a3 r2 (1 : Int32))))
set_option maxHeartbeats 2000000 in
set_option maxRecDepth 100000 in
theorem t_X10_setBand {l : Launch} (hls : l.stackTraces = false) {C : cT} (hC : CX C cX10_setBand 5 yX10_setBand rm_X10_setBand) (hl : C.2.1 = l) {S0 : mS} (hE : CE C S0 (Option.some Jvm.ClassFile.FieldType.int) []) {o : Rs Int32} {S : mS} {a0 : Nat} {a1 : Int32} {a2 : Int32} {a3 : Int32} (h : f_X10_setBand S a0 a1 a2 a3 = some o) : XX C 5 (QQ C (fun r : Int32 => some (.int r)) S0 o) 0 0 S 0 [(0, .ref a0), (1, .int a1), (2, .int a2), (3, .int a3)] [] := by
  unfold f_X10_setBand at h
  refine x_aload_n (pc := 0) hC 0 dX10_setBand_0 rfl rfl ?_
  refine x_iload_n (pc := 1) hC 1 dX10_setBand_1 rfl rfl ?_
  obtain ⟨g1, h⟩ := gd_some h
  obtain ⟨o4, ho4, h⟩ := bd_some h
  refine x_callV (pc := 2) (As := [.int a1]) (rest := []) hC hl (c_X10_deckOf l hls ho4) lk_RX10_119 fc_16 g1 dX10_setBand_2 rfl rfl (Nat.le_of_ble_eq_true rfl) ⟨Nat.le_of_ble_eq_true rfl, Nat.le_of_ble_eq_true rfl⟩ ⟨(Nat.le_of_ble_eq_true rfl), (Nat.le_of_ble_eq_true rfl)⟩ ?_
  rcases o4 with ⟨r2 | E5, S3⟩
  · refine xk_a ?_
    replace h := bk_l h
    refine x_astore (pc := 5) hC dX10_setBand_5 (by decide) (by decide) rfl ?_
    refine x_iload_n (pc := 7) hC 3 dX10_setBand_7 rfl rfl ?_
    refine x_iconst (pc := 8) (v := (0 : Int32)) hC dX10_setBand_8 (by decide) ?_
    refine x_iconst (pc := 9) (v := (2 : Int32)) hC dX10_setBand_9 (by decide) ?_
    obtain ⟨o8, ho8, h⟩ := bd_some h
    refine x_callS (pc := 10) (As := [.int a2, .int (0 : Int32), .int (2 : Int32)]) (rest := []) hC hl (c_X10_isIn l hls ho8) lk_RX10_46 dX10_setBand_10 rfl rfl (Nat.le_of_ble_eq_true rfl) ⟨Nat.le_of_ble_eq_true rfl, Nat.le_of_ble_eq_true rfl⟩ ⟨(Nat.le_of_ble_eq_true rfl), (Nat.le_of_ble_eq_true rfl)⟩ ?_
    rcases o8 with ⟨x6 | E9, S7⟩
    · refine xk_i ?_
      replace h := bk_l h
      refine x_if_eq (pc := 13) hC 30 dX10_setBand_13 (by decide) (fun c15 => ?_) (fun c15 => ?_)
      · rw [if_pos c15] at h
        refine x_pick [1, 2, 3, 4, 0] rfl ?_
        exact t_X10_setBand_30 hls hC hl hE h
      · rw [if_neg c15] at h
        refine x_iload_n (pc := 16) hC 4 dX10_setBand_16 rfl rfl ?_
        refine x_iconst (pc := 17) (v := (0 : Int32)) hC dX10_setBand_17 (by decide) ?_
        refine x_bipush (pc := 18) (v := (100 : Int32)) hC dX10_setBand_18 (by decide) ?_
        obtain ⟨o12, ho12, h⟩ := bd_some h
        refine x_callS (pc := 20) (As := [.int a3, .int (0 : Int32), .int (100 : Int32)]) (rest := []) hC hl (c_X10_isIn l hls ho12) lk_RX10_46 dX10_setBand_20 rfl rfl (Nat.le_of_ble_eq_true rfl) ⟨Nat.le_of_ble_eq_true rfl, Nat.le_of_ble_eq_true rfl⟩ ⟨(Nat.le_of_ble_eq_true rfl), (Nat.le_of_ble_eq_true rfl)⟩ ?_
        rcases o12 with ⟨x10 | E13, S11⟩
        · refine xk_i ?_
          replace h := bk_l h
          refine x_if_eq (pc := 23) hC 30 dX10_setBand_23 (by decide) (fun c14 => ?_) (fun c14 => ?_)
          · rw [if_pos c14] at h
            refine x_pick [1, 2, 3, 4, 0] rfl ?_
            exact t_X10_setBand_30 hls hC hl hE h
          · rw [if_neg c14] at h
            refine x_iconst (pc := 26) (v := (1 : Int32)) hC dX10_setBand_26 (by decide) ?_
            refine x_goto (pc := 27) hC 31 dX10_setBand_27 (by decide) ?_
            refine x_pick [1, 2, 3, 4, 0] rfl ?_
            exact t_X10_setBand_31 hls hC hl hE h
        · exact xk_r (xt_out hC hE (bk_r h) (Nat.le_of_ble_eq_true rfl) (Nat.le_of_ble_eq_true rfl))
    · exact xk_r (xt_out hC hE (bk_r h) (Nat.le_of_ble_eq_true rfl) (Nat.le_of_ble_eq_true rfl))
  · exact xk_r (xt_out hC hE (bk_r h) (Nat.le_of_ble_eq_true rfl) (Nat.le_of_ble_eq_true rfl))
theorem c_X10_setBand (l : Launch) (hls : l.stackTraces = false) {S : mS} {a0 : Nat} {a1 : Int32} {a2 : Int32} {a3 : Int32} {o : Rs Int32} (h : f_X10_setBand S a0 a1 a2 a3 = some o) : CT (fun r : Int32 => some (.int r)) l yX10_setBand (.code yX10_setBand cX10_setBand 5 (Option.some Jvm.ClassFile.FieldType.int)) rm_X10_setBand S [.ref a0, .int a1, .int a2, .int a3] o := ct_of (by decide +kernel) hls (Nat.le_of_ble_eq_true rfl) (fun C hl hC hE => t_X10_setBand hls hC hl hE h)
abbrev rm_X10_setSide : Room := { frames := 11, cells := 2, slots := 12, locals := 216 }
def f_X10_setSide_29  (S : mS) (a0 : Nat) (a1 : Int32) (a2 : Int32) (a3 : Nat) (s0 : Int32) : Option (Rs Int32) :=
  bd (f_X10_demand S s0) fun _ S2 => gd (gK S2 a0 = 16) (lt9 (gR S2 a0 2) fun r6 => gd (gK S2 r6 = 12) (bd (f_X6_note S2 r6 (18 : Int32) a1 a2 (0 : Int32)) fun _ S9 => gd (gK S9 a3 = 7) (lt9 (gR S9 a3 0) fun r13 => gd (gK S9 r13 = 6) (bd (f_X0_changeSide S9 r13 a2) fun x15 S16 => gd ((x15.toUInt32.toUInt16.toUInt32.toInt32 = x15 ∧ 0 ≤ x15) ∧ x15 ≤ 65535) (some (.inl x15, S16))))))
set_option maxHeartbeats 2000000 in
set_option maxRecDepth 100000 in
theorem t_X10_setSide_29 {l : Launch} (hls : l.stackTraces = false) {C : cT} (hC : CX C cX10_setSide 4 yX10_setSide rm_X10_setSide) (hl : C.2.1 = l) {S0 : mS} (hE : CE C S0 (Option.some Jvm.ClassFile.FieldType.char) []) {o : Rs Int32} {S : mS} {a0 : Nat} {a1 : Int32} {a2 : Int32} {a3 : Nat} {s0 : Int32} (h : f_X10_setSide_29  S a0 a1 a2 a3 s0 = some o) : XX C 4 (QQ C (fun r : Int32 => some (.int r)) S0 o) (1) (6) S 29 [(0, .ref a0), (1, .int a1), (2, .int a2), (3, .ref a3)] [.int s0] := by
  unfold f_X10_setSide_29 at h
  obtain ⟨o3, ho3, h⟩ := bd_some h
  refine x_callS (pc := 29) (As := [.int s0]) (rest := []) hC hl (c_X10_demand l hls ho3) lk_RX10_50 dX10_setSide_29 rfl rfl (Nat.le_of_ble_eq_true rfl) ⟨Nat.le_of_ble_eq_true rfl, Nat.le_of_ble_eq_true rfl⟩ ⟨(Nat.le_of_ble_eq_true rfl), (Nat.le_of_ble_eq_true rfl)⟩ ?_
  rcases o3 with ⟨_ | E4, S2⟩
  · refine xk_v ?_
    replace h := bk_l h
    refine x_aload_n (pc := 32) hC 0 dX10_setSide_32 rfl rfl ?_
    obtain ⟨g5, h⟩ := gd_some h
    refine x_getRv (pc := 33) (k := 2) hC fc_16 fl_RX10_22 dX10_setSide_33 rfl g5 (fun r6 hr6 => ?_)
    replace h := lt_x hr6 h
    refine x_bipush (pc := 36) (v := (18 : Int32)) hC dX10_setSide_36 (by decide) ?_
    refine x_iload_n (pc := 38) hC 1 dX10_setSide_38 rfl rfl ?_
    refine x_iload_n (pc := 39) hC 2 dX10_setSide_39 rfl rfl ?_
    refine x_iconst (pc := 40) (v := (0 : Int32)) hC dX10_setSide_40 (by decide) ?_
    obtain ⟨g7, h⟩ := gd_some h
    obtain ⟨o10, ho10, h⟩ := bd_some h
    refine x_callV (pc := 41) (As := [.int (18 : Int32), .int a1, .int a2, .int (0 : Int32)]) (rest := []) hC hl (c_X6_note l hls ho10) lk_RX10_94 fc_12 g7 dX10_setSide_41 rfl rfl (Nat.le_of_ble_eq_true rfl) ⟨Nat.le_of_ble_eq_true rfl, Nat.le_of_ble_eq_true rfl⟩ ⟨(Nat.le_of_ble_eq_true rfl), (Nat.le_of_ble_eq_true rfl)⟩ ?_
    rcases o10 with ⟨_ | E11, S9⟩
    · refine xk_v ?_
      replace h := bk_l h
      refine x_aload_n (pc := 44) hC 3 dX10_setSide_44 rfl rfl ?_
      obtain ⟨g12, h⟩ := gd_some h
      refine x_getRv (pc := 45) (k := 0) hC fc_7 fl_RX10_197 dX10_setSide_45 rfl g12 (fun r13 hr13 => ?_)
      replace h := lt_x hr13 h
      refine x_iload_n (pc := 48) hC 2 dX10_setSide_48 rfl rfl ?_
      obtain ⟨g14, h⟩ := gd_some h
      obtain ⟨o17, ho17, h⟩ := bd_some h
      refine x_callV (pc := 49) (As := [.int a2]) (rest := []) hC hl (c_X0_changeSide l hls ho17) lk_RX10_209 fc_6 g14 dX10_setSide_49 rfl rfl (Nat.le_of_ble_eq_true rfl) ⟨Nat.le_of_ble_eq_true rfl, Nat.le_of_ble_eq_true rfl⟩ ⟨(Nat.le_of_ble_eq_true rfl), (Nat.le_of_ble_eq_true rfl)⟩ ?_
      rcases o17 with ⟨x15 | E18, S16⟩
      · refine xk_i ?_
        replace h := bk_l h
        obtain ⟨g19, h⟩ := gd_some h
        exact x_zreturn (pc := 52) hC hE dX10_setSide_52 (nf_C g19).1 (so h) (Nat.le_of_ble_eq_true rfl) (Nat.le_of_ble_eq_true rfl)
      · exact xk_r (xt_out hC hE (bk_r h) (Nat.le_of_ble_eq_true rfl) (Nat.le_of_ble_eq_true rfl))
    · exact xk_r (xt_out hC hE (bk_r h) (Nat.le_of_ble_eq_true rfl) (Nat.le_of_ble_eq_true rfl))
  · exact xk_r (xt_out hC hE (bk_r h) (Nat.le_of_ble_eq_true rfl) (Nat.le_of_ble_eq_true rfl))
def f_X10_setSide_24  (S : mS) (a0 : Nat) (a1 : Int32) (a2 : Int32) (a3 : Nat) : Option (Rs Int32) :=
  f_X10_setSide_29  S a0 a1 a2 a3 (1 : Int32)
set_option maxHeartbeats 2000000 in
set_option maxRecDepth 100000 in
theorem t_X10_setSide_24 {l : Launch} (hls : l.stackTraces = false) {C : cT} (hC : CX C cX10_setSide 4 yX10_setSide rm_X10_setSide) (hl : C.2.1 = l) {S0 : mS} (hE : CE C S0 (Option.some Jvm.ClassFile.FieldType.char) []) {o : Rs Int32} {S : mS} {a0 : Nat} {a1 : Int32} {a2 : Int32} {a3 : Nat} (h : f_X10_setSide_24  S a0 a1 a2 a3 = some o) : XX C 4 (QQ C (fun r : Int32 => some (.int r)) S0 o) (1) (6) S 24 [(0, .ref a0), (1, .int a1), (2, .int a2), (3, .ref a3)] [] := by
  unfold f_X10_setSide_24 at h
  refine x_iconst (pc := 24) (v := (1 : Int32)) hC dX10_setSide_24 (by decide) ?_
  refine x_goto (pc := 25) hC 29 dX10_setSide_25 (by decide) ?_
  refine x_pick [0, 1, 2, 3] rfl ?_
  exact t_X10_setSide_29 hls hC hl hE h
def f_X10_setSide (S : mS) (a0 : Nat) (a1 : Int32) (a2 : Int32) : Option (Rs Int32) :=
  gd (gK S a0 = 16) (bd (f_X10_deckOf S a0 a1) fun r2 S3 => if a2 = (108 : Int32) then (f_X10_setSide_24  S3 a0 a1 a2 r2) else (if a2 = (109 : Int32) then (f_X10_setSide_24  S3 a0 a1 a2 r2) else (if a2 = (114 : Int32) then (f_X10_setSide_24  S3 a0 a1 a2 r2) else (f_X10_setSide_29  S3 a0 a1 a2 r2 (0 : Int32)))))
set_option maxHeartbeats 2000000 in
set_option maxRecDepth 100000 in
theorem t_X10_setSide {l : Launch} (hls : l.stackTraces = false) {C : cT} (hC : CX C cX10_setSide 4 yX10_setSide rm_X10_setSide) (hl : C.2.1 = l) {S0 : mS} (hE : CE C S0 (Option.some Jvm.ClassFile.FieldType.char) []) {o : Rs Int32} {S : mS} {a0 : Nat} {a1 : Int32} {a2 : Int32} (h : f_X10_setSide S a0 a1 a2 = some o) : XX C 4 (QQ C (fun r : Int32 => some (.int r)) S0 o) 0 0 S 0 [(0, .ref a0), (1, .int a1), (2, .int a2)] [] := by
  unfold f_X10_setSide at h
  refine x_aload_n (pc := 0) hC 0 dX10_setSide_0 rfl rfl ?_
  refine x_iload_n (pc := 1) hC 1 dX10_setSide_1 rfl rfl ?_
  obtain ⟨g1, h⟩ := gd_some h
  obtain ⟨o4, ho4, h⟩ := bd_some h
  refine x_callV (pc := 2) (As := [.int a1]) (rest := []) hC hl (c_X10_deckOf l hls ho4) lk_RX10_119 fc_16 g1 dX10_setSide_2 rfl rfl (Nat.le_of_ble_eq_true rfl) ⟨Nat.le_of_ble_eq_true rfl, Nat.le_of_ble_eq_true rfl⟩ ⟨(Nat.le_of_ble_eq_true rfl), (Nat.le_of_ble_eq_true rfl)⟩ ?_
  rcases o4 with ⟨r2 | E5, S3⟩
  · refine xk_a ?_
    replace h := bk_l h
    refine x_astore_n (pc := 5) hC dX10_setSide_5 rfl (by decide) (by decide) rfl ?_
    refine x_iload_n (pc := 6) hC 3 dX10_setSide_6 rfl rfl ?_
    refine x_bipush (pc := 7) (v := (108 : Int32)) hC dX10_setSide_7 (by decide) ?_
    refine x_icmp_eq (pc := 9) hC 24 dX10_setSide_9 (by decide) (fun c8 => ?_) (fun c8 => ?_)
    · rw [if_pos c8] at h
      refine x_pick [1, 2, 3, 0] rfl ?_
      exact t_X10_setSide_24 hls hC hl hE h
    · rw [if_neg c8] at h
      refine x_iload_n (pc := 12) hC 3 dX10_setSide_12 rfl rfl ?_
      refine x_bipush (pc := 13) (v := (109 : Int32)) hC dX10_setSide_13 (by decide) ?_
      refine x_icmp_eq (pc := 15) hC 24 dX10_setSide_15 (by decide) (fun c7 => ?_) (fun c7 => ?_)
      · rw [if_pos c7] at h
        refine x_pick [1, 2, 3, 0] rfl ?_
        exact t_X10_setSide_24 hls hC hl hE h
      · rw [if_neg c7] at h
        refine x_iload_n (pc := 18) hC 3 dX10_setSide_18 rfl rfl ?_
        refine x_bipush (pc := 19) (v := (114 : Int32)) hC dX10_setSide_19 (by decide) ?_
        refine x_icmp_ne (pc := 21) hC 28 dX10_setSide_21 (by decide) (fun c6 => ?_) (fun c6 => ?_)
        · rw [if_neg c6] at h
          refine x_iconst (pc := 28) (v := (0 : Int32)) hC dX10_setSide_28 (by decide) ?_
          refine x_pick [1, 2, 3, 0] rfl ?_
          exact t_X10_setSide_29 hls hC hl hE h
        · rw [if_pos c6] at h
          refine x_pick [1, 2, 3, 0] rfl ?_
          exact t_X10_setSide_24 hls hC hl hE h
  · exact xk_r (xt_out hC hE (bk_r h) (Nat.le_of_ble_eq_true rfl) (Nat.le_of_ble_eq_true rfl))
theorem c_X10_setSide (l : Launch) (hls : l.stackTraces = false) {S : mS} {a0 : Nat} {a1 : Int32} {a2 : Int32} {o : Rs Int32} (h : f_X10_setSide S a0 a1 a2 = some o) : CT (fun r : Int32 => some (.int r)) l yX10_setSide (.code yX10_setSide cX10_setSide 4 (Option.some Jvm.ClassFile.FieldType.char)) rm_X10_setSide S [.ref a0, .int a1, .int a2] o := ct_of (by decide +kernel) hls (Nat.le_of_ble_eq_true rfl) (fun C hl hC hE => t_X10_setSide hls hC hl hE h)
abbrev rm_X10_setCross : Room := { frames := 11, cells := 1, slots := 6, locals := 216 }
def f_X10_setCross (S : mS) (a0 : Nat) (a1 : Int32) : Option (Rs Int32) :=
  bd (f_X10_isIn S a1 (-100 : Int32) (100 : Int32)) fun x1 S2 => bd (f_X10_demand S2 x1) fun _ S6 => gd (gK S6 a0 = 16) (lt9 (gR S6 a0 2) fun r10 => gd (gK S6 r10 = 12) (bd (f_X6_note S6 r10 (19 : Int32) a1 (0 : Int32) (0 : Int32)) fun _ S13 => gd (gK S13 a0 = 16) (lt9 (gR S13 a0 0) fun r17 => gd (gK S13 r17 = 14) (bd (f_X8_slideCross S13 r17 a1) fun x19 S20 => some (.inl x19, S20)))))
set_option maxHeartbeats 2000000 in
set_option maxRecDepth 100000 in
theorem t_X10_setCross {l : Launch} (hls : l.stackTraces = false) {C : cT} (hC : CX C cX10_setCross 2 yX10_setCross rm_X10_setCross) (hl : C.2.1 = l) {S0 : mS} (hE : CE C S0 (Option.some Jvm.ClassFile.FieldType.int) []) {o : Rs Int32} {S : mS} {a0 : Nat} {a1 : Int32} (h : f_X10_setCross S a0 a1 = some o) : XX C 2 (QQ C (fun r : Int32 => some (.int r)) S0 o) 0 0 S 0 [(0, .ref a0), (1, .int a1)] [] := by
  unfold f_X10_setCross at h
  refine x_iload_n (pc := 0) hC 1 dX10_setCross_0 rfl rfl ?_
  refine x_bipush (pc := 1) (v := (-100 : Int32)) hC dX10_setCross_1 (by decide) ?_
  refine x_bipush (pc := 3) (v := (100 : Int32)) hC dX10_setCross_3 (by decide) ?_
  obtain ⟨o3, ho3, h⟩ := bd_some h
  refine x_callS (pc := 5) (As := [.int a1, .int (-100 : Int32), .int (100 : Int32)]) (rest := []) hC hl (c_X10_isIn l hls ho3) lk_RX10_46 dX10_setCross_5 rfl rfl (Nat.le_of_ble_eq_true rfl) ⟨Nat.le_of_ble_eq_true rfl, Nat.le_of_ble_eq_true rfl⟩ ⟨(Nat.le_of_ble_eq_true rfl), (Nat.le_of_ble_eq_true rfl)⟩ ?_
  rcases o3 with ⟨x1 | E4, S2⟩
  · refine xk_i ?_
    replace h := bk_l h
    obtain ⟨o7, ho7, h⟩ := bd_some h
    refine x_callS (pc := 8) (As := [.int x1]) (rest := []) hC hl (c_X10_demand l hls ho7) lk_RX10_50 dX10_setCross_8 rfl rfl (Nat.le_of_ble_eq_true rfl) ⟨Nat.le_of_ble_eq_true rfl, Nat.le_of_ble_eq_true rfl⟩ ⟨(Nat.le_of_ble_eq_true rfl), (Nat.le_of_ble_eq_true rfl)⟩ ?_
    rcases o7 with ⟨_ | E8, S6⟩
    · refine xk_v ?_
      replace h := bk_l h
      refine x_aload_n (pc := 11) hC 0 dX10_setCross_11 rfl rfl ?_
      obtain ⟨g9, h⟩ := gd_some h
      refine x_getRv (pc := 12) (k := 2) hC fc_16 fl_RX10_22 dX10_setCross_12 rfl g9 (fun r10 hr10 => ?_)
      replace h := lt_x hr10 h
      refine x_bipush (pc := 15) (v := (19 : Int32)) hC dX10_setCross_15 (by decide) ?_
      refine x_iload_n (pc := 17) hC 1 dX10_setCross_17 rfl rfl ?_
      refine x_iconst (pc := 18) (v := (0 : Int32)) hC dX10_setCross_18 (by decide) ?_
      refine x_iconst (pc := 19) (v := (0 : Int32)) hC dX10_setCross_19 (by decide) ?_
      obtain ⟨g11, h⟩ := gd_some h
      obtain ⟨o14, ho14, h⟩ := bd_some h
      refine x_callV (pc := 20) (As := [.int (19 : Int32), .int a1, .int (0 : Int32), .int (0 : Int32)]) (rest := []) hC hl (c_X6_note l hls ho14) lk_RX10_94 fc_12 g11 dX10_setCross_20 rfl rfl (Nat.le_of_ble_eq_true rfl) ⟨Nat.le_of_ble_eq_true rfl, Nat.le_of_ble_eq_true rfl⟩ ⟨(Nat.le_of_ble_eq_true rfl), (Nat.le_of_ble_eq_true rfl)⟩ ?_
      rcases o14 with ⟨_ | E15, S13⟩
      · refine xk_v ?_
        replace h := bk_l h
        refine x_aload_n (pc := 23) hC 0 dX10_setCross_23 rfl rfl ?_
        obtain ⟨g16, h⟩ := gd_some h
        refine x_getRv (pc := 24) (k := 0) hC fc_16 fl_RX10_10 dX10_setCross_24 rfl g16 (fun r17 hr17 => ?_)
        replace h := lt_x hr17 h
        refine x_iload_n (pc := 27) hC 1 dX10_setCross_27 rfl rfl ?_
        obtain ⟨g18, h⟩ := gd_some h
        obtain ⟨o21, ho21, h⟩ := bd_some h
        refine x_callV (pc := 28) (As := [.int a1]) (rest := []) hC hl (c_X8_slideCross l hls ho21) lk_RX10_213 fc_14 g18 dX10_setCross_28 rfl rfl (Nat.le_of_ble_eq_true rfl) ⟨Nat.le_of_ble_eq_true rfl, Nat.le_of_ble_eq_true rfl⟩ ⟨(Nat.le_of_ble_eq_true rfl), (Nat.le_of_ble_eq_true rfl)⟩ ?_
        rcases o21 with ⟨x19 | E22, S20⟩
        · refine xk_i ?_
          replace h := bk_l h
          exact x_ireturn (pc := 31) hC hE dX10_setCross_31 (so h) (Nat.le_of_ble_eq_true rfl) (Nat.le_of_ble_eq_true rfl)
        · exact xk_r (xt_out hC hE (bk_r h) (Nat.le_of_ble_eq_true rfl) (Nat.le_of_ble_eq_true rfl))
      · exact xk_r (xt_out hC hE (bk_r h) (Nat.le_of_ble_eq_true rfl) (Nat.le_of_ble_eq_true rfl))
    · exact xk_r (xt_out hC hE (bk_r h) (Nat.le_of_ble_eq_true rfl) (Nat.le_of_ble_eq_true rfl))
  · exact xk_r (xt_out hC hE (bk_r h) (Nat.le_of_ble_eq_true rfl) (Nat.le_of_ble_eq_true rfl))
theorem c_X10_setCross (l : Launch) (hls : l.stackTraces = false) {S : mS} {a0 : Nat} {a1 : Int32} {o : Rs Int32} (h : f_X10_setCross S a0 a1 = some o) : CT (fun r : Int32 => some (.int r)) l yX10_setCross (.code yX10_setCross cX10_setCross 2 (Option.some Jvm.ClassFile.FieldType.int)) rm_X10_setCross S [.ref a0, .int a1] o := ct_of (by decide +kernel) hls (Nat.le_of_ble_eq_true rfl) (fun C hl hC hE => t_X10_setCross hls hC hl hE h)
abbrev rm_X10_level : Room := { frames := 10, cells := 1, slots := 6, locals := 193 }
def f_X10_level (S : mS) (a0 : Nat) (a1 : Int32) : Option (Rs Int32) :=
  gd (gK S a0 = 16) (bd (f_X10_deckOf S a0 a1) fun r2 S3 => gd (gK S3 a0 = 16) (lt9 (gR S3 a0 0) fun r7 => gd (gK S3 r7 = 14) (lt9 (gI S3 r7 5) fun x9 => gd (gK S3 r2 = 7) (bd (f_X1_levelAt S3 r2 x9) fun x11 S12 => some (.inl x11, S12)))))
set_option maxHeartbeats 2000000 in
set_option maxRecDepth 100000 in
theorem t_X10_level {l : Launch} (hls : l.stackTraces = false) {C : cT} (hC : CX C cX10_level 2 yX10_level rm_X10_level) (hl : C.2.1 = l) {S0 : mS} (hE : CE C S0 (Option.some Jvm.ClassFile.FieldType.int) []) {o : Rs Int32} {S : mS} {a0 : Nat} {a1 : Int32} (h : f_X10_level S a0 a1 = some o) : XX C 2 (QQ C (fun r : Int32 => some (.int r)) S0 o) 0 0 S 0 [(0, .ref a0), (1, .int a1)] [] := by
  unfold f_X10_level at h
  refine x_aload_n (pc := 0) hC 0 dX10_level_0 rfl rfl ?_
  refine x_iload_n (pc := 1) hC 1 dX10_level_1 rfl rfl ?_
  obtain ⟨g1, h⟩ := gd_some h
  obtain ⟨o4, ho4, h⟩ := bd_some h
  refine x_callV (pc := 2) (As := [.int a1]) (rest := []) hC hl (c_X10_deckOf l hls ho4) lk_RX10_119 fc_16 g1 dX10_level_2 rfl rfl (Nat.le_of_ble_eq_true rfl) ⟨Nat.le_of_ble_eq_true rfl, Nat.le_of_ble_eq_true rfl⟩ ⟨(Nat.le_of_ble_eq_true rfl), (Nat.le_of_ble_eq_true rfl)⟩ ?_
  rcases o4 with ⟨r2 | E5, S3⟩
  · refine xk_a ?_
    replace h := bk_l h
    refine x_aload_n (pc := 5) hC 0 dX10_level_5 rfl rfl ?_
    obtain ⟨g6, h⟩ := gd_some h
    refine x_getRv (pc := 6) (k := 0) hC fc_16 fl_RX10_10 dX10_level_6 rfl g6 (fun r7 hr7 => ?_)
    replace h := lt_x hr7 h
    obtain ⟨g8, h⟩ := gd_some h
    refine x_getIv (pc := 9) (k := 5) hC fc_14 fl_RX10_216 dX10_level_9 rfl g8 (fun x9 hx9 => ?_)
    replace h := lt_x hx9 h
    obtain ⟨g10, h⟩ := gd_some h
    obtain ⟨o13, ho13, h⟩ := bd_some h
    refine x_callV (pc := 12) (As := [.int x9]) (rest := []) hC hl (c_X1_levelAt l hls ho13) lk_RX10_219 fc_7 g10 dX10_level_12 rfl rfl (Nat.le_of_ble_eq_true rfl) ⟨Nat.le_of_ble_eq_true rfl, Nat.le_of_ble_eq_true rfl⟩ ⟨(Nat.le_of_ble_eq_true rfl), (Nat.le_of_ble_eq_true rfl)⟩ ?_
    rcases o13 with ⟨x11 | E14, S12⟩
    · refine xk_i ?_
      replace h := bk_l h
      exact x_ireturn (pc := 15) hC hE dX10_level_15 (so h) (Nat.le_of_ble_eq_true rfl) (Nat.le_of_ble_eq_true rfl)
    · exact xk_r (xt_out hC hE (bk_r h) (Nat.le_of_ble_eq_true rfl) (Nat.le_of_ble_eq_true rfl))
  · exact xk_r (xt_out hC hE (bk_r h) (Nat.le_of_ble_eq_true rfl) (Nat.le_of_ble_eq_true rfl))
theorem c_X10_level (l : Launch) (hls : l.stackTraces = false) {S : mS} {a0 : Nat} {a1 : Int32} {o : Rs Int32} (h : f_X10_level S a0 a1 = some o) : CT (fun r : Int32 => some (.int r)) l yX10_level (.code yX10_level cX10_level 2 (Option.some Jvm.ClassFile.FieldType.int)) rm_X10_level S [.ref a0, .int a1] o := ct_of (by decide +kernel) hls (Nat.le_of_ble_eq_true rfl) (fun C hl hC hE => t_X10_level hls hC hl hE h)
abbrev rm_X10_addEffect : Room := { frames := 11, cells := 4, slots := 24, locals := 216 }
def f_X10_addEffect_30  (S : mS) (a0 : Nat) (a1 : Int32) (a2 : Int32) (a3 : Int32) (a4 : Nat) (s0 : Int32) : Option (Rs Int32) :=
  bd (f_X10_demand S s0) fun _ S2 => bd (f_X10_isIn S2 a3 (0 : Int32) (100 : Int32)) fun x5 S6 => bd (f_X10_demand S6 x5) fun _ S10 => gd (gK S10 a4 = 7) (lt9 (gR S10 a4 0) fun r14 => gd (gK S10 r14 = 6) (lt9 (gI S10 r14 2) fun x16 => lt9 (gR S10 a4 0) fun r17 => gd (gK S10 r17 = 6) (lt9 (gR S10 r17 1) fun r19 => gd (gK S10 r19 = 35) (lt9 (Int32.ofNat (gZ S10 r19)) fun x21 => if x16 < x21 then (gd (gK S10 a0 = 16) (lt9 (gR S10 a0 2) fun r23 => gd (gK S10 r23 = 12) (bd (f_X6_note S10 r23 (20 : Int32) a1 a2 a3) fun _ S26 => gd (gK S26 a4 = 7) (lt9 (gR S26 a4 0) fun r30 => gd (gK S26 r30 = 6) (bd (f_X0_plugIn S26 r30 a2 a3) fun x32 S33 => some (.inl x32, S33)))))) else (some (.inr "java/lang/IllegalStateException", S10))))))
set_option maxHeartbeats 2000000 in
set_option maxRecDepth 100000 in
theorem t_X10_addEffect_30 {l : Launch} (hls : l.stackTraces = false) {C : cT} (hC : CX C cX10_addEffect 5 yX10_addEffect rm_X10_addEffect) (hl : C.2.1 = l) {S0 : mS} (hE : CE C S0 (Option.some Jvm.ClassFile.FieldType.int) []) {o : Rs Int32} {S : mS} {a0 : Nat} {a1 : Int32} {a2 : Int32} {a3 : Int32} {a4 : Nat} {s0 : Int32} (h : f_X10_addEffect_30  S a0 a1 a2 a3 a4 s0 = some o) : XX C 5 (QQ C (fun r : Int32 => some (.int r)) S0 o) (1) (6) S 30 [(0, .ref a0), (1, .int a1), (2, .int a2), (3, .int a3), (4, .ref a4)] [.int s0] := by
  unfold f_X10_addEffect_30 at h
  obtain ⟨o3, ho3, h⟩ := bd_some h
  refine x_callS (pc := 30) (As := [.int s0]) (rest := []) hC hl (c_X10_demand l hls ho3) lk_RX10_50 dX10_addEffect_30 rfl rfl (Nat.le_of_ble_eq_true rfl) ⟨Nat.le_of_ble_eq_true rfl, Nat.le_of_ble_eq_true rfl⟩ ⟨(Nat.le_of_ble_eq_true rfl), (Nat.le_of_ble_eq_true rfl)⟩ ?_
  rcases o3 with ⟨_ | E4, S2⟩
  · refine xk_v ?_
    replace h := bk_l h
    refine x_iload_n (pc := 33) hC 3 dX10_addEffect_33 rfl rfl ?_
    refine x_iconst (pc := 34) (v := (0 : Int32)) hC dX10_addEffect_34 (by decide) ?_
    refine x_bipush (pc := 35) (v := (100 : Int32)) hC dX10_addEffect_35 (by decide) ?_
    obtain ⟨o7, ho7, h⟩ := bd_some h
    refine x_callS (pc := 37) (As := [.int a3, .int (0 : Int32), .int (100 : Int32)]) (rest := []) hC hl (c_X10_isIn l hls ho7) lk_RX10_46 dX10_addEffect_37 rfl rfl (Nat.le_of_ble_eq_true rfl) ⟨Nat.le_of_ble_eq_true rfl, Nat.le_of_ble_eq_true rfl⟩ ⟨(Nat.le_of_ble_eq_true rfl), (Nat.le_of_ble_eq_true rfl)⟩ ?_
    rcases o7 with ⟨x5 | E8, S6⟩
    · refine xk_i ?_
      replace h := bk_l h
      obtain ⟨o11, ho11, h⟩ := bd_some h
      refine x_callS (pc := 40) (As := [.int x5]) (rest := []) hC hl (c_X10_demand l hls ho11) lk_RX10_50 dX10_addEffect_40 rfl rfl (Nat.le_of_ble_eq_true rfl) ⟨Nat.le_of_ble_eq_true rfl, Nat.le_of_ble_eq_true rfl⟩ ⟨(Nat.le_of_ble_eq_true rfl), (Nat.le_of_ble_eq_true rfl)⟩ ?_
      rcases o11 with ⟨_ | E12, S10⟩
      · refine xk_v ?_
        replace h := bk_l h
        refine x_aload (pc := 43) hC 4 dX10_addEffect_43 rfl ?_
        obtain ⟨g13, h⟩ := gd_some h
        refine x_getRv (pc := 45) (k := 0) hC fc_7 fl_RX10_197 dX10_addEffect_45 rfl g13 (fun r14 hr14 => ?_)
        replace h := lt_x hr14 h
        obtain ⟨g15, h⟩ := gd_some h
        refine x_getIv (pc := 48) (k := 2) hC fc_6 fl_RX10_222 dX10_addEffect_48 rfl g15 (fun x16 hx16 => ?_)
        replace h := lt_x hx16 h
        refine x_aload (pc := 51) hC 4 dX10_addEffect_51 rfl ?_
        refine x_getRv (pc := 53) (k := 0) hC fc_7 fl_RX10_197 dX10_addEffect_53 rfl g13 (fun r17 hr17 => ?_)
        replace h := lt_x hr17 h
        obtain ⟨g18, h⟩ := gd_some h
        refine x_getRv (pc := 56) (k := 1) hC fc_6 fl_RX10_225 dX10_addEffect_56 rfl g18 (fun r19 hr19 => ?_)
        replace h := lt_x hr19 h
        obtain ⟨g20, h⟩ := gd_some h
        refine x_alenv (pc := 59) (t0 := 5) hC dX10_addEffect_59 g20 (by decide) (fun _ => rfl) (fun x21 hx21 => ?_)
        replace h := lt_x hx21 h
        refine x_icmp_lt (pc := 60) hC 73 dX10_addEffect_60 (by decide) (fun c36 => ?_) (fun c36 => ?_)
        · rw [if_pos c36] at h
          refine x_aload_n (pc := 73) hC 0 dX10_addEffect_73 rfl rfl ?_
          obtain ⟨g22, h⟩ := gd_some h
          refine x_getRv (pc := 74) (k := 2) hC fc_16 fl_RX10_22 dX10_addEffect_74 rfl g22 (fun r23 hr23 => ?_)
          replace h := lt_x hr23 h
          refine x_bipush (pc := 77) (v := (20 : Int32)) hC dX10_addEffect_77 (by decide) ?_
          refine x_iload_n (pc := 79) hC 1 dX10_addEffect_79 rfl rfl ?_
          refine x_iload_n (pc := 80) hC 2 dX10_addEffect_80 rfl rfl ?_
          refine x_iload_n (pc := 81) hC 3 dX10_addEffect_81 rfl rfl ?_
          obtain ⟨g24, h⟩ := gd_some h
          obtain ⟨o27, ho27, h⟩ := bd_some h
          refine x_callV (pc := 82) (As := [.int (20 : Int32), .int a1, .int a2, .int a3]) (rest := []) hC hl (c_X6_note l hls ho27) lk_RX10_94 fc_12 g24 dX10_addEffect_82 rfl rfl (Nat.le_of_ble_eq_true rfl) ⟨Nat.le_of_ble_eq_true rfl, Nat.le_of_ble_eq_true rfl⟩ ⟨(Nat.le_of_ble_eq_true rfl), (Nat.le_of_ble_eq_true rfl)⟩ ?_
          rcases o27 with ⟨_ | E28, S26⟩
          · refine xk_v ?_
            replace h := bk_l h
            refine x_aload (pc := 85) hC 4 dX10_addEffect_85 rfl ?_
            obtain ⟨g29, h⟩ := gd_some h
            refine x_getRv (pc := 87) (k := 0) hC fc_7 fl_RX10_197 dX10_addEffect_87 rfl g29 (fun r30 hr30 => ?_)
            replace h := lt_x hr30 h
            refine x_iload_n (pc := 90) hC 2 dX10_addEffect_90 rfl rfl ?_
            refine x_iload_n (pc := 91) hC 3 dX10_addEffect_91 rfl rfl ?_
            obtain ⟨g31, h⟩ := gd_some h
            obtain ⟨o34, ho34, h⟩ := bd_some h
            refine x_callV (pc := 92) (As := [.int a2, .int a3]) (rest := []) hC hl (c_X0_plugIn l hls ho34) lk_RX10_231 fc_6 g31 dX10_addEffect_92 rfl rfl (Nat.le_of_ble_eq_true rfl) ⟨Nat.le_of_ble_eq_true rfl, Nat.le_of_ble_eq_true rfl⟩ ⟨(Nat.le_of_ble_eq_true rfl), (Nat.le_of_ble_eq_true rfl)⟩ ?_
            rcases o34 with ⟨x32 | E35, S33⟩
            · refine xk_i ?_
              replace h := bk_l h
              exact x_ireturn (pc := 95) hC hE dX10_addEffect_95 (so h) (Nat.le_of_ble_eq_true rfl) (Nat.le_of_ble_eq_true rfl)
            · exact xk_r (xt_out hC hE (bk_r h) (Nat.le_of_ble_eq_true rfl) (Nat.le_of_ble_eq_true rfl))
          · exact xk_r (xt_out hC hE (bk_r h) (Nat.le_of_ble_eq_true rfl) (Nat.le_of_ble_eq_true rfl))
        · rw [if_neg c36] at h
          exact x_throwS (pc := 63) hC hE th_RX10_63_67_229 dX10_addEffect_63 dX10_addEffect_66 dX10_addEffect_67 dX10_addEffect_69 dX10_addEffect_72 (so h) (Nat.le_of_ble_eq_true rfl) (Nat.le_of_ble_eq_true rfl) (Nat.le_of_ble_eq_true rfl) (Nat.le_of_ble_eq_true rfl)
      · exact xk_r (xt_out hC hE (bk_r h) (Nat.le_of_ble_eq_true rfl) (Nat.le_of_ble_eq_true rfl))
    · exact xk_r (xt_out hC hE (bk_r h) (Nat.le_of_ble_eq_true rfl) (Nat.le_of_ble_eq_true rfl))
  · exact xk_r (xt_out hC hE (bk_r h) (Nat.le_of_ble_eq_true rfl) (Nat.le_of_ble_eq_true rfl))
def f_X10_addEffect_25  (S : mS) (a0 : Nat) (a1 : Int32) (a2 : Int32) (a3 : Int32) (a4 : Nat) : Option (Rs Int32) :=
  f_X10_addEffect_30  S a0 a1 a2 a3 a4 (1 : Int32)
set_option maxHeartbeats 2000000 in
set_option maxRecDepth 100000 in
theorem t_X10_addEffect_25 {l : Launch} (hls : l.stackTraces = false) {C : cT} (hC : CX C cX10_addEffect 5 yX10_addEffect rm_X10_addEffect) (hl : C.2.1 = l) {S0 : mS} (hE : CE C S0 (Option.some Jvm.ClassFile.FieldType.int) []) {o : Rs Int32} {S : mS} {a0 : Nat} {a1 : Int32} {a2 : Int32} {a3 : Int32} {a4 : Nat} (h : f_X10_addEffect_25  S a0 a1 a2 a3 a4 = some o) : XX C 5 (QQ C (fun r : Int32 => some (.int r)) S0 o) (1) (6) S 25 [(0, .ref a0), (1, .int a1), (2, .int a2), (3, .int a3), (4, .ref a4)] [] := by
  unfold f_X10_addEffect_25 at h
  refine x_iconst (pc := 25) (v := (1 : Int32)) hC dX10_addEffect_25 (by decide) ?_
  refine x_goto (pc := 26) hC 30 dX10_addEffect_26 (by decide) ?_
  refine x_pick [0, 1, 2, 3, 4] rfl ?_
  exact t_X10_addEffect_30 hls hC hl hE h
def f_X10_addEffect (S : mS) (a0 : Nat) (a1 : Int32) (a2 : Int32) (a3 : Int32) : Option (Rs Int32) :=
  gd (gK S a0 = 16) (bd (f_X10_deckOf S a0 a1) fun r2 S3 => if a2 = (101 : Int32) then (f_X10_addEffect_25  S3 a0 a1 a2 a3 r2) else (if a2 = (114 : Int32) then (f_X10_addEffect_25  S3 a0 a1 a2 a3 r2) else (if a2 = (99 : Int32) then (f_X10_addEffect_25  S3 a0 a1 a2 a3 r2) else (f_X10_addEffect_30  S3 a0 a1 a2 a3 r2 (0 : Int32)))))
set_option maxHeartbeats 2000000 in
set_option maxRecDepth 100000 in
theorem t_X10_addEffect {l : Launch} (hls : l.stackTraces = false) {C : cT} (hC : CX C cX10_addEffect 5 yX10_addEffect rm_X10_addEffect) (hl : C.2.1 = l) {S0 : mS} (hE : CE C S0 (Option.some Jvm.ClassFile.FieldType.int) []) {o : Rs Int32} {S : mS} {a0 : Nat} {a1 : Int32} {a2 : Int32} {a3 : Int32} (h : f_X10_addEffect S a0 a1 a2 a3 = some o) : XX C 5 (QQ C (fun r : Int32 => some (.int r)) S0 o) 0 0 S 0 [(0, .ref a0), (1, .int a1), (2, .int a2), (3, .int a3)] [] := by
  unfold f_X10_addEffect at h
  refine x_aload_n (pc := 0) hC 0 dX10_addEffect_0 rfl rfl ?_
  refine x_iload_n (pc := 1) hC 1 dX10_addEffect_1 rfl rfl ?_
  obtain ⟨g1, h⟩ := gd_some h
  obtain ⟨o4, ho4, h⟩ := bd_some h
  refine x_callV (pc := 2) (As := [.int a1]) (rest := []) hC hl (c_X10_deckOf l hls ho4) lk_RX10_119 fc_16 g1 dX10_addEffect_2 rfl rfl (Nat.le_of_ble_eq_true rfl) ⟨Nat.le_of_ble_eq_true rfl, Nat.le_of_ble_eq_true rfl⟩ ⟨(Nat.le_of_ble_eq_true rfl), (Nat.le_of_ble_eq_true rfl)⟩ ?_
  rcases o4 with ⟨r2 | E5, S3⟩
  · refine xk_a ?_
    replace h := bk_l h
    refine x_astore (pc := 5) hC dX10_addEffect_5 (by decide) (by decide) rfl ?_
    refine x_iload_n (pc := 7) hC 3 dX10_addEffect_7 rfl rfl ?_
    refine x_bipush (pc := 8) (v := (101 : Int32)) hC dX10_addEffect_8 (by decide) ?_
    refine x_icmp_eq (pc := 10) hC 25 dX10_addEffect_10 (by decide) (fun c8 => ?_) (fun c8 => ?_)
    · rw [if_pos c8] at h
      refine x_pick [1, 2, 3, 4, 0] rfl ?_
      exact t_X10_addEffect_25 hls hC hl hE h
    · rw [if_neg c8] at h
      refine x_iload_n (pc := 13) hC 3 dX10_addEffect_13 rfl rfl ?_
      refine x_bipush (pc := 14) (v := (114 : Int32)) hC dX10_addEffect_14 (by decide) ?_
      refine x_icmp_eq (pc := 16) hC 25 dX10_addEffect_16 (by decide) (fun c7 => ?_) (fun c7 => ?_)
      · rw [if_pos c7] at h
        refine x_pick [1, 2, 3, 4, 0] rfl ?_
        exact t_X10_addEffect_25 hls hC hl hE h
      · rw [if_neg c7] at h
        refine x_iload_n (pc := 19) hC 3 dX10_addEffect_19 rfl rfl ?_
        refine x_bipush (pc := 20) (v := (99 : Int32)) hC dX10_addEffect_20 (by decide) ?_
        refine x_icmp_ne (pc := 22) hC 29 dX10_addEffect_22 (by decide) (fun c6 => ?_) (fun c6 => ?_)
        · rw [if_neg c6] at h
          refine x_iconst (pc := 29) (v := (0 : Int32)) hC dX10_addEffect_29 (by decide) ?_
          refine x_pick [1, 2, 3, 4, 0] rfl ?_
          exact t_X10_addEffect_30 hls hC hl hE h
        · rw [if_pos c6] at h
          refine x_pick [1, 2, 3, 4, 0] rfl ?_
          exact t_X10_addEffect_25 hls hC hl hE h
  · exact xk_r (xt_out hC hE (bk_r h) (Nat.le_of_ble_eq_true rfl) (Nat.le_of_ble_eq_true rfl))
theorem c_X10_addEffect (l : Launch) (hls : l.stackTraces = false) {S : mS} {a0 : Nat} {a1 : Int32} {a2 : Int32} {a3 : Int32} {o : Rs Int32} (h : f_X10_addEffect S a0 a1 a2 a3 = some o) : CT (fun r : Int32 => some (.int r)) l yX10_addEffect (.code yX10_addEffect cX10_addEffect 5 (Option.some Jvm.ClassFile.FieldType.int)) rm_X10_addEffect S [.ref a0, .int a1, .int a2, .int a3] o := ct_of (by decide +kernel) hls (Nat.le_of_ble_eq_true rfl) (fun C hl hC hE => t_X10_addEffect hls hC hl hE h)
abbrev rm_X10_dropEffects : Room := { frames := 11, cells := 1, slots := 6, locals := 216 }
def f_X10_dropEffects (S : mS) (a0 : Nat) (a1 : Int32) : Option (Rs Int32) :=
  gd (gK S a0 = 16) (bd (f_X10_deckOf S a0 a1) fun r2 S3 => gd (gK S3 a0 = 16) (lt9 (gR S3 a0 2) fun r7 => gd (gK S3 r7 = 12) (bd (f_X6_note S3 r7 (21 : Int32) a1 (0 : Int32) (0 : Int32)) fun _ S10 => gd (gK S10 r2 = 7) (lt9 (gR S10 r2 0) fun r14 => gd (gK S10 r14 = 6) (bd (f_X0_unplug S10 r14) fun x16 S17 => some (.inl x16, S17))))))
set_option maxHeartbeats 2000000 in
set_option maxRecDepth 100000 in
theorem t_X10_dropEffects {l : Launch} (hls : l.stackTraces = false) {C : cT} (hC : CX C cX10_dropEffects 3 yX10_dropEffects rm_X10_dropEffects) (hl : C.2.1 = l) {S0 : mS} (hE : CE C S0 (Option.some Jvm.ClassFile.FieldType.int) []) {o : Rs Int32} {S : mS} {a0 : Nat} {a1 : Int32} (h : f_X10_dropEffects S a0 a1 = some o) : XX C 3 (QQ C (fun r : Int32 => some (.int r)) S0 o) 0 0 S 0 [(0, .ref a0), (1, .int a1)] [] := by
  unfold f_X10_dropEffects at h
  refine x_aload_n (pc := 0) hC 0 dX10_dropEffects_0 rfl rfl ?_
  refine x_iload_n (pc := 1) hC 1 dX10_dropEffects_1 rfl rfl ?_
  obtain ⟨g1, h⟩ := gd_some h
  obtain ⟨o4, ho4, h⟩ := bd_some h
  refine x_callV (pc := 2) (As := [.int a1]) (rest := []) hC hl (c_X10_deckOf l hls ho4) lk_RX10_119 fc_16 g1 dX10_dropEffects_2 rfl rfl (Nat.le_of_ble_eq_true rfl) ⟨Nat.le_of_ble_eq_true rfl, Nat.le_of_ble_eq_true rfl⟩ ⟨(Nat.le_of_ble_eq_true rfl), (Nat.le_of_ble_eq_true rfl)⟩ ?_
  rcases o4 with ⟨r2 | E5, S3⟩
  · refine xk_a ?_
    replace h := bk_l h
    refine x_astore_n (pc := 5) hC dX10_dropEffects_5 rfl (by decide) (by decide) rfl ?_
    refine x_aload_n (pc := 6) hC 1 dX10_dropEffects_6 rfl rfl ?_
    obtain ⟨g6, h⟩ := gd_some h
    refine x_getRv (pc := 7) (k := 2) hC fc_16 fl_RX10_22 dX10_dropEffects_7 rfl g6 (fun r7 hr7 => ?_)
    replace h := lt_x hr7 h
    refine x_bipush (pc := 10) (v := (21 : Int32)) hC dX10_dropEffects_10 (by decide) ?_
    refine x_iload_n (pc := 12) hC 2 dX10_dropEffects_12 rfl rfl ?_
    refine x_iconst (pc := 13) (v := (0 : Int32)) hC dX10_dropEffects_13 (by decide) ?_
    refine x_iconst (pc := 14) (v := (0 : Int32)) hC dX10_dropEffects_14 (by decide) ?_
    obtain ⟨g8, h⟩ := gd_some h
    obtain ⟨o11, ho11, h⟩ := bd_some h
    refine x_callV (pc := 15) (As := [.int (21 : Int32), .int a1, .int (0 : Int32), .int (0 : Int32)]) (rest := []) hC hl (c_X6_note l hls ho11) lk_RX10_94 fc_12 g8 dX10_dropEffects_15 rfl rfl (Nat.le_of_ble_eq_true rfl) ⟨Nat.le_of_ble_eq_true rfl, Nat.le_of_ble_eq_true rfl⟩ ⟨(Nat.le_of_ble_eq_true rfl), (Nat.le_of_ble_eq_true rfl)⟩ ?_
    rcases o11 with ⟨_ | E12, S10⟩
    · refine xk_v ?_
      replace h := bk_l h
      refine x_aload_n (pc := 18) hC 0 dX10_dropEffects_18 rfl rfl ?_
      obtain ⟨g13, h⟩ := gd_some h
      refine x_getRv (pc := 19) (k := 0) hC fc_7 fl_RX10_197 dX10_dropEffects_19 rfl g13 (fun r14 hr14 => ?_)
      replace h := lt_x hr14 h
      obtain ⟨g15, h⟩ := gd_some h
      obtain ⟨o18, ho18, h⟩ := bd_some h
      refine x_callV (pc := 22) (As := []) (rest := []) hC hl (c_X0_unplug l hls ho18) lk_RX10_235 fc_6 g15 dX10_dropEffects_22 rfl rfl (Nat.le_of_ble_eq_true rfl) ⟨Nat.le_of_ble_eq_true rfl, Nat.le_of_ble_eq_true rfl⟩ ⟨(Nat.le_of_ble_eq_true rfl), (Nat.le_of_ble_eq_true rfl)⟩ ?_
      rcases o18 with ⟨x16 | E19, S17⟩
      · refine xk_i ?_
        replace h := bk_l h
        exact x_ireturn (pc := 25) hC hE dX10_dropEffects_25 (so h) (Nat.le_of_ble_eq_true rfl) (Nat.le_of_ble_eq_true rfl)
      · exact xk_r (xt_out hC hE (bk_r h) (Nat.le_of_ble_eq_true rfl) (Nat.le_of_ble_eq_true rfl))
    · exact xk_r (xt_out hC hE (bk_r h) (Nat.le_of_ble_eq_true rfl) (Nat.le_of_ble_eq_true rfl))
  · exact xk_r (xt_out hC hE (bk_r h) (Nat.le_of_ble_eq_true rfl) (Nat.le_of_ble_eq_true rfl))
theorem c_X10_dropEffects (l : Launch) (hls : l.stackTraces = false) {S : mS} {a0 : Nat} {a1 : Int32} {o : Rs Int32} (h : f_X10_dropEffects S a0 a1 = some o) : CT (fun r : Int32 => some (.int r)) l yX10_dropEffects (.code yX10_dropEffects cX10_dropEffects 3 (Option.some Jvm.ClassFile.FieldType.int)) rm_X10_dropEffects S [.ref a0, .int a1] o := ct_of (by decide +kernel) hls (Nat.le_of_ble_eq_true rfl) (fun C hl hC hE => t_X10_dropEffects hls hC hl hE h)
abbrev rm_X10_tail : Room := { frames := 10, cells := 2, slots := 12, locals := 193 }
def f_X10_tail (S : mS) (a0 : Nat) (a1 : Int32) (a2 : Int32) : Option (Rs Int32) :=
  gd (gK S a0 = 16) (bd (f_X10_deckOf S a0 a1) fun r2 S3 => gd (gK S3 r2 = 7) (lt9 (gR S3 r2 0) fun r7 => gd (gK S3 r7 = 6) (bd (f_X0_effectAt S3 r7 a2) fun r9 S10 => if r9 = 0 then (some (.inr "java/util/NoSuchElementException", S10)) else (gd (gK S10 r9 = 9) (lt9 (gI S10 r9 2) fun x14 => some (.inl x14, S10))))))
set_option maxHeartbeats 2000000 in
set_option maxRecDepth 100000 in
theorem t_X10_tail {l : Launch} (hls : l.stackTraces = false) {C : cT} (hC : CX C cX10_tail 4 yX10_tail rm_X10_tail) (hl : C.2.1 = l) {S0 : mS} (hE : CE C S0 (Option.some Jvm.ClassFile.FieldType.int) []) {o : Rs Int32} {S : mS} {a0 : Nat} {a1 : Int32} {a2 : Int32} (h : f_X10_tail S a0 a1 a2 = some o) : XX C 4 (QQ C (fun r : Int32 => some (.int r)) S0 o) 0 0 S 0 [(0, .ref a0), (1, .int a1), (2, .int a2)] [] := by
  unfold f_X10_tail at h
  refine x_aload_n (pc := 0) hC 0 dX10_tail_0 rfl rfl ?_
  refine x_iload_n (pc := 1) hC 1 dX10_tail_1 rfl rfl ?_
  obtain ⟨g1, h⟩ := gd_some h
  obtain ⟨o4, ho4, h⟩ := bd_some h
  refine x_callV (pc := 2) (As := [.int a1]) (rest := []) hC hl (c_X10_deckOf l hls ho4) lk_RX10_119 fc_16 g1 dX10_tail_2 rfl rfl (Nat.le_of_ble_eq_true rfl) ⟨Nat.le_of_ble_eq_true rfl, Nat.le_of_ble_eq_true rfl⟩ ⟨(Nat.le_of_ble_eq_true rfl), (Nat.le_of_ble_eq_true rfl)⟩ ?_
  rcases o4 with ⟨r2 | E5, S3⟩
  · refine xk_a ?_
    replace h := bk_l h
    obtain ⟨g6, h⟩ := gd_some h
    refine x_getRv (pc := 5) (k := 0) hC fc_7 fl_RX10_197 dX10_tail_5 rfl g6 (fun r7 hr7 => ?_)
    replace h := lt_x hr7 h
    refine x_iload_n (pc := 8) hC 2 dX10_tail_8 rfl rfl ?_
    obtain ⟨g8, h⟩ := gd_some h
    obtain ⟨o11, ho11, h⟩ := bd_some h
    refine x_callV (pc := 9) (As := [.int a2]) (rest := []) hC hl (c_X0_effectAt l hls ho11) lk_RX10_238 fc_6 g8 dX10_tail_9 rfl rfl (Nat.le_of_ble_eq_true rfl) ⟨Nat.le_of_ble_eq_true rfl, Nat.le_of_ble_eq_true rfl⟩ ⟨(Nat.le_of_ble_eq_true rfl), (Nat.le_of_ble_eq_true rfl)⟩ ?_
    rcases o11 with ⟨r9 | E12, S10⟩
    · refine xk_a ?_
      replace h := bk_l h
      refine x_astore_n (pc := 12) hC dX10_tail_12 rfl (by decide) (by decide) rfl ?_
      refine x_aload_n (pc := 13) hC 0 dX10_tail_13 rfl rfl ?_
      refine x_ifnonnull (pc := 14) hC 27 dX10_tail_14 (by decide) (fun c15 => ?_) (fun c15 => ?_)
      · rw [if_neg c15] at h
        refine x_aload_n (pc := 27) hC 0 dX10_tail_27 rfl rfl ?_
        obtain ⟨g13, h⟩ := gd_some h
        refine x_getIv (pc := 28) (k := 2) hC fc_9 fl_RX10_244 dX10_tail_28 rfl g13 (fun x14 hx14 => ?_)
        replace h := lt_x hx14 h
        exact x_ireturn (pc := 31) hC hE dX10_tail_31 (so h) (Nat.le_of_ble_eq_true rfl) (Nat.le_of_ble_eq_true rfl)
      · rw [if_pos c15] at h
        exact x_throwNS (pc := 17) hC hE th_RX10_189_193_242 dX10_tail_17 dX10_tail_20 dX10_tail_21 dX10_tail_23 dX10_tail_26 (so h) (Nat.le_of_ble_eq_true rfl) (Nat.le_of_ble_eq_true rfl) (Nat.le_of_ble_eq_true rfl) (Nat.le_of_ble_eq_true rfl)
    · exact xk_r (xt_out hC hE (bk_r h) (Nat.le_of_ble_eq_true rfl) (Nat.le_of_ble_eq_true rfl))
  · exact xk_r (xt_out hC hE (bk_r h) (Nat.le_of_ble_eq_true rfl) (Nat.le_of_ble_eq_true rfl))
theorem c_X10_tail (l : Launch) (hls : l.stackTraces = false) {S : mS} {a0 : Nat} {a1 : Int32} {a2 : Int32} {o : Rs Int32} (h : f_X10_tail S a0 a1 a2 = some o) : CT (fun r : Int32 => some (.int r)) l yX10_tail (.code yX10_tail cX10_tail 4 (Option.some Jvm.ClassFile.FieldType.int)) rm_X10_tail S [.ref a0, .int a1, .int a2] o := ct_of (by decide +kernel) hls (Nat.le_of_ble_eq_true rfl) (fun C hl hC hE => t_X10_tail hls hC hl hE h)
abbrev rm_X10_go : Room := { frames := 13, cells := 1, slots := 6, locals := 269 }
def f_X10_go (S : mS) (a0 : Nat) (a1 : Int32) : Option (Rs Int32) :=
  bd (f_X10_isIn S a1 (1 : Int32) (2000 : Int32)) fun x1 S2 => bd (f_X10_demand S2 x1) fun _ S6 => gd (gK S6 a0 = 16) (lt9 (gR S6 a0 2) fun r10 => gd (gK S6 r10 = 12) (bd (f_X6_note S6 r10 (22 : Int32) a1 (0 : Int32) (0 : Int32)) fun _ S13 => gd (gK S13 a0 = 16) (lt9 (gR S13 a0 0) fun r17 => gd (gK S13 r17 = 14) (bd (f_X8_run S13 r17 a1) fun x19 S20 => some (.inl x19, S20)))))
set_option maxHeartbeats 2000000 in
set_option maxRecDepth 100000 in
theorem t_X10_go {l : Launch} (hls : l.stackTraces = false) {C : cT} (hC : CX C cX10_go 2 yX10_go rm_X10_go) (hl : C.2.1 = l) {S0 : mS} (hE : CE C S0 (Option.some Jvm.ClassFile.FieldType.int) []) {o : Rs Int32} {S : mS} {a0 : Nat} {a1 : Int32} (h : f_X10_go S a0 a1 = some o) : XX C 2 (QQ C (fun r : Int32 => some (.int r)) S0 o) 0 0 S 0 [(0, .ref a0), (1, .int a1)] [] := by
  unfold f_X10_go at h
  refine x_iload_n (pc := 0) hC 1 dX10_go_0 rfl rfl ?_
  refine x_iconst (pc := 1) (v := (1 : Int32)) hC dX10_go_1 (by decide) ?_
  refine x_sipush (pc := 2) (v := (2000 : Int32)) hC dX10_go_2 (by decide) ?_
  obtain ⟨o3, ho3, h⟩ := bd_some h
  refine x_callS (pc := 5) (As := [.int a1, .int (1 : Int32), .int (2000 : Int32)]) (rest := []) hC hl (c_X10_isIn l hls ho3) lk_RX10_46 dX10_go_5 rfl rfl (Nat.le_of_ble_eq_true rfl) ⟨Nat.le_of_ble_eq_true rfl, Nat.le_of_ble_eq_true rfl⟩ ⟨(Nat.le_of_ble_eq_true rfl), (Nat.le_of_ble_eq_true rfl)⟩ ?_
  rcases o3 with ⟨x1 | E4, S2⟩
  · refine xk_i ?_
    replace h := bk_l h
    obtain ⟨o7, ho7, h⟩ := bd_some h
    refine x_callS (pc := 8) (As := [.int x1]) (rest := []) hC hl (c_X10_demand l hls ho7) lk_RX10_50 dX10_go_8 rfl rfl (Nat.le_of_ble_eq_true rfl) ⟨Nat.le_of_ble_eq_true rfl, Nat.le_of_ble_eq_true rfl⟩ ⟨(Nat.le_of_ble_eq_true rfl), (Nat.le_of_ble_eq_true rfl)⟩ ?_
    rcases o7 with ⟨_ | E8, S6⟩
    · refine xk_v ?_
      replace h := bk_l h
      refine x_aload_n (pc := 11) hC 0 dX10_go_11 rfl rfl ?_
      obtain ⟨g9, h⟩ := gd_some h
      refine x_getRv (pc := 12) (k := 2) hC fc_16 fl_RX10_22 dX10_go_12 rfl g9 (fun r10 hr10 => ?_)
      replace h := lt_x hr10 h
      refine x_bipush (pc := 15) (v := (22 : Int32)) hC dX10_go_15 (by decide) ?_
      refine x_iload_n (pc := 17) hC 1 dX10_go_17 rfl rfl ?_
      refine x_iconst (pc := 18) (v := (0 : Int32)) hC dX10_go_18 (by decide) ?_
      refine x_iconst (pc := 19) (v := (0 : Int32)) hC dX10_go_19 (by decide) ?_
      obtain ⟨g11, h⟩ := gd_some h
      obtain ⟨o14, ho14, h⟩ := bd_some h
      refine x_callV (pc := 20) (As := [.int (22 : Int32), .int a1, .int (0 : Int32), .int (0 : Int32)]) (rest := []) hC hl (c_X6_note l hls ho14) lk_RX10_94 fc_12 g11 dX10_go_20 rfl rfl (Nat.le_of_ble_eq_true rfl) ⟨Nat.le_of_ble_eq_true rfl, Nat.le_of_ble_eq_true rfl⟩ ⟨(Nat.le_of_ble_eq_true rfl), (Nat.le_of_ble_eq_true rfl)⟩ ?_
      rcases o14 with ⟨_ | E15, S13⟩
      · refine xk_v ?_
        replace h := bk_l h
        refine x_aload_n (pc := 23) hC 0 dX10_go_23 rfl rfl ?_
        obtain ⟨g16, h⟩ := gd_some h
        refine x_getRv (pc := 24) (k := 0) hC fc_16 fl_RX10_10 dX10_go_24 rfl g16 (fun r17 hr17 => ?_)
        replace h := lt_x hr17 h
        refine x_iload_n (pc := 27) hC 1 dX10_go_27 rfl rfl ?_
        obtain ⟨g18, h⟩ := gd_some h
        obtain ⟨o21, ho21, h⟩ := bd_some h
        refine x_callV (pc := 28) (As := [.int a1]) (rest := []) hC hl (c_X8_run l hls ho21) lk_RX10_249 fc_14 g18 dX10_go_28 rfl rfl (Nat.le_of_ble_eq_true rfl) ⟨Nat.le_of_ble_eq_true rfl, Nat.le_of_ble_eq_true rfl⟩ ⟨(Nat.le_of_ble_eq_true rfl), (Nat.le_of_ble_eq_true rfl)⟩ ?_
        rcases o21 with ⟨x19 | E22, S20⟩
        · refine xk_i ?_
          replace h := bk_l h
          exact x_ireturn (pc := 31) hC hE dX10_go_31 (so h) (Nat.le_of_ble_eq_true rfl) (Nat.le_of_ble_eq_true rfl)
        · exact xk_r (xt_out hC hE (bk_r h) (Nat.le_of_ble_eq_true rfl) (Nat.le_of_ble_eq_true rfl))
      · exact xk_r (xt_out hC hE (bk_r h) (Nat.le_of_ble_eq_true rfl) (Nat.le_of_ble_eq_true rfl))
    · exact xk_r (xt_out hC hE (bk_r h) (Nat.le_of_ble_eq_true rfl) (Nat.le_of_ble_eq_true rfl))
  · exact xk_r (xt_out hC hE (bk_r h) (Nat.le_of_ble_eq_true rfl) (Nat.le_of_ble_eq_true rfl))
theorem c_X10_go (l : Launch) (hls : l.stackTraces = false) {S : mS} {a0 : Nat} {a1 : Int32} {o : Rs Int32} (h : f_X10_go S a0 a1 = some o) : CT (fun r : Int32 => some (.int r)) l yX10_go (.code yX10_go cX10_go 2 (Option.some Jvm.ClassFile.FieldType.int)) rm_X10_go S [.ref a0, .int a1] o := ct_of (by decide +kernel) hls (Nat.le_of_ble_eq_true rfl) (fun C hl hC hE => t_X10_go hls hC hl hE h)
abbrev rm_X10_ticks : Room := { frames := 8, cells := 0, slots := 0, locals := 150 }
def f_X10_ticks (S : mS) (a0 : Nat) : Option (Rs Int32) :=
  gd (gK S a0 = 16) (lt9 (gR S a0 0) fun r2 => gd (gK S r2 = 14) (lt9 (gI S r2 7) fun x4 => some (.inl x4, S)))
set_option maxHeartbeats 2000000 in
set_option maxRecDepth 100000 in
theorem t_X10_ticks {l : Launch} (hls : l.stackTraces = false) {C : cT} (hC : CX C cX10_ticks 1 yX10_ticks rm_X10_ticks) (hl : C.2.1 = l) {S0 : mS} (hE : CE C S0 (Option.some Jvm.ClassFile.FieldType.int) []) {o : Rs Int32} {S : mS} {a0 : Nat} (h : f_X10_ticks S a0 = some o) : XX C 1 (QQ C (fun r : Int32 => some (.int r)) S0 o) 0 0 S 0 [(0, .ref a0)] [] := by
  unfold f_X10_ticks at h
  refine x_aload_n (pc := 0) hC 0 dX10_ticks_0 rfl rfl ?_
  obtain ⟨g1, h⟩ := gd_some h
  refine x_getRv (pc := 1) (k := 0) hC fc_16 fl_RX10_10 dX10_ticks_1 rfl g1 (fun r2 hr2 => ?_)
  replace h := lt_x hr2 h
  obtain ⟨g3, h⟩ := gd_some h
  refine x_getIv (pc := 4) (k := 7) hC fc_14 fl_RX10_252 dX10_ticks_4 rfl g3 (fun x4 hx4 => ?_)
  replace h := lt_x hx4 h
  exact x_ireturn (pc := 7) hC hE dX10_ticks_7 (so h) (Nat.le_of_ble_eq_true rfl) (Nat.le_of_ble_eq_true rfl)
theorem c_X10_ticks (l : Launch) (hls : l.stackTraces = false) {S : mS} {a0 : Nat} {o : Rs Int32} (h : f_X10_ticks S a0 = some o) : CT (fun r : Int32 => some (.int r)) l yX10_ticks (.code yX10_ticks cX10_ticks 1 (Option.some Jvm.ClassFile.FieldType.int)) rm_X10_ticks S [.ref a0] o := ct_of (by decide +kernel) hls (Nat.le_of_ble_eq_true rfl) (fun C hl hC hE => t_X10_ticks hls hC hl hE h)
abbrev rm_X10_heard : Room := { frames := 8, cells := 0, slots := 0, locals := 150 }
def f_X10_heard (S : mS) (a0 : Nat) : Option (Rs Int32) :=
  gd (gK S a0 = 16) (lt9 (gR S a0 0) fun r2 => gd (gK S r2 = 14) (lt9 (gI S r2 11) fun x4 => some (.inl x4, S)))
set_option maxHeartbeats 2000000 in
set_option maxRecDepth 100000 in
theorem t_X10_heard {l : Launch} (hls : l.stackTraces = false) {C : cT} (hC : CX C cX10_heard 1 yX10_heard rm_X10_heard) (hl : C.2.1 = l) {S0 : mS} (hE : CE C S0 (Option.some Jvm.ClassFile.FieldType.int) []) {o : Rs Int32} {S : mS} {a0 : Nat} (h : f_X10_heard S a0 = some o) : XX C 1 (QQ C (fun r : Int32 => some (.int r)) S0 o) 0 0 S 0 [(0, .ref a0)] [] := by
  unfold f_X10_heard at h
  refine x_aload_n (pc := 0) hC 0 dX10_heard_0 rfl rfl ?_
  obtain ⟨g1, h⟩ := gd_some h
  refine x_getRv (pc := 1) (k := 0) hC fc_16 fl_RX10_10 dX10_heard_1 rfl g1 (fun r2 hr2 => ?_)
  replace h := lt_x hr2 h
  obtain ⟨g3, h⟩ := gd_some h
  refine x_getIv (pc := 4) (k := 11) hC fc_14 fl_RX10_255 dX10_heard_4 rfl g3 (fun x4 hx4 => ?_)
  replace h := lt_x hx4 h
  exact x_ireturn (pc := 7) hC hE dX10_heard_7 (so h) (Nat.le_of_ble_eq_true rfl) (Nat.le_of_ble_eq_true rfl)
theorem c_X10_heard (l : Launch) (hls : l.stackTraces = false) {S : mS} {a0 : Nat} {o : Rs Int32} (h : f_X10_heard S a0 = some o) : CT (fun r : Int32 => some (.int r)) l yX10_heard (.code yX10_heard cX10_heard 1 (Option.some Jvm.ClassFile.FieldType.int)) rm_X10_heard S [.ref a0] o := ct_of (by decide +kernel) hls (Nat.le_of_ble_eq_true rfl) (fun C hl hC hE => t_X10_heard hls hC hl hE h)
abbrev rm_X10_silence : Room := { frames := 8, cells := 0, slots := 0, locals := 150 }
def f_X10_silence (S : mS) (a0 : Nat) : Option (Rs Int32) :=
  gd (gK S a0 = 16) (lt9 (gR S a0 0) fun r2 => gd (gK S r2 = 14) (lt9 (gI S r2 8) fun x4 => some (.inl x4, S)))
set_option maxHeartbeats 2000000 in
set_option maxRecDepth 100000 in
theorem t_X10_silence {l : Launch} (hls : l.stackTraces = false) {C : cT} (hC : CX C cX10_silence 1 yX10_silence rm_X10_silence) (hl : C.2.1 = l) {S0 : mS} (hE : CE C S0 (Option.some Jvm.ClassFile.FieldType.int) []) {o : Rs Int32} {S : mS} {a0 : Nat} (h : f_X10_silence S a0 = some o) : XX C 1 (QQ C (fun r : Int32 => some (.int r)) S0 o) 0 0 S 0 [(0, .ref a0)] [] := by
  unfold f_X10_silence at h
  refine x_aload_n (pc := 0) hC 0 dX10_silence_0 rfl rfl ?_
  obtain ⟨g1, h⟩ := gd_some h
  refine x_getRv (pc := 1) (k := 0) hC fc_16 fl_RX10_10 dX10_silence_1 rfl g1 (fun r2 hr2 => ?_)
  replace h := lt_x hr2 h
  obtain ⟨g3, h⟩ := gd_some h
  refine x_getIv (pc := 4) (k := 8) hC fc_14 fl_RX10_258 dX10_silence_4 rfl g3 (fun x4 hx4 => ?_)
  replace h := lt_x hx4 h
  exact x_ireturn (pc := 7) hC hE dX10_silence_7 (so h) (Nat.le_of_ble_eq_true rfl) (Nat.le_of_ble_eq_true rfl)
theorem c_X10_silence (l : Launch) (hls : l.stackTraces = false) {S : mS} {a0 : Nat} {o : Rs Int32} (h : f_X10_silence S a0 = some o) : CT (fun r : Int32 => some (.int r)) l yX10_silence (.code yX10_silence cX10_silence 1 (Option.some Jvm.ClassFile.FieldType.int)) rm_X10_silence S [.ref a0] o := ct_of (by decide +kernel) hls (Nat.le_of_ble_eq_true rfl) (fun C hl hC hE => t_X10_silence hls hC hl hE h)
abbrev rm_X10_clashes : Room := { frames := 9, cells := 1, slots := 6, locals := 170 }
def f_X10_clashes_43  (S : mS) (s0 : Int32) : Option (Rs Int32) :=
  some (.inl s0, S)
set_option maxHeartbeats 2000000 in
set_option maxRecDepth 100000 in
theorem t_X10_clashes_43 {l : Launch} (hls : l.stackTraces = false) {C : cT} (hC : CX C cX10_clashes 2 yX10_clashes rm_X10_clashes) (hl : C.2.1 = l) {S0 : mS} (hE : CE C S0 (Option.some Jvm.ClassFile.FieldType.int) []) {o : Rs Int32} {S : mS} {s0 : Int32} (h : f_X10_clashes_43  S s0 = some o) : XX C 2 (QQ C (fun r : Int32 => some (.int r)) S0 o) (1) (6) S 43 [] [.int s0] := by
  unfold f_X10_clashes_43 at h
  exact x_ireturn (pc := 43) hC hE dX10_clashes_43 (so h) (Nat.le_of_ble_eq_true rfl) (Nat.le_of_ble_eq_true rfl)
def f_X10_clashes_17  (S : mS) (a0 : Nat) (a1 : Int32) (s0 : Int32) : Option (Rs Int32) :=
  bd (f_X10_demand S s0) fun _ S2 => if a1 = (118 : Int32) then (gd (gK S2 a0 = 16) (lt9 (gR S2 a0 0) fun r10 => gd (gK S2 r10 = 14) (lt9 (gI S2 r10 9) fun x12 => f_X10_clashes_43  S2 x12))) else (gd (gK S2 a0 = 16) (lt9 (gR S2 a0 0) fun r6 => gd (gK S2 r6 = 14) (lt9 (gI S2 r6 10) fun x8 => f_X10_clashes_43  S2 x8)))
set_option maxHeartbeats 2000000 in
set_option maxRecDepth 100000 in
theorem t_X10_clashes_17 {l : Launch} (hls : l.stackTraces = false) {C : cT} (hC : CX C cX10_clashes 2 yX10_clashes rm_X10_clashes) (hl : C.2.1 = l) {S0 : mS} (hE : CE C S0 (Option.some Jvm.ClassFile.FieldType.int) []) {o : Rs Int32} {S : mS} {a0 : Nat} {a1 : Int32} {s0 : Int32} (h : f_X10_clashes_17  S a0 a1 s0 = some o) : XX C 2 (QQ C (fun r : Int32 => some (.int r)) S0 o) (0) (0) S 17 [(0, .ref a0), (1, .int a1)] [.int s0] := by
  unfold f_X10_clashes_17 at h
  obtain ⟨o3, ho3, h⟩ := bd_some h
  refine x_callS (pc := 17) (As := [.int s0]) (rest := []) hC hl (c_X10_demand l hls ho3) lk_RX10_50 dX10_clashes_17 rfl rfl (Nat.le_of_ble_eq_true rfl) ⟨Nat.le_of_ble_eq_true rfl, Nat.le_of_ble_eq_true rfl⟩ ⟨(Nat.le_of_ble_eq_true rfl), (Nat.le_of_ble_eq_true rfl)⟩ ?_
  rcases o3 with ⟨_ | E4, S2⟩
  · refine xk_v ?_
    replace h := bk_l h
    refine x_iload_n (pc := 20) hC 1 dX10_clashes_20 rfl rfl ?_
    refine x_bipush (pc := 21) (v := (118 : Int32)) hC dX10_clashes_21 (by decide) ?_
    refine x_icmp_ne (pc := 23) hC 36 dX10_clashes_23 (by decide) (fun c13 => ?_) (fun c13 => ?_)
    · rw [if_neg c13] at h
      refine x_aload_n (pc := 36) hC 0 dX10_clashes_36 rfl rfl ?_
      obtain ⟨g5, h⟩ := gd_some h
      refine x_getRv (pc := 37) (k := 0) hC fc_16 fl_RX10_10 dX10_clashes_37 rfl g5 (fun r6 hr6 => ?_)
      replace h := lt_x hr6 h
      obtain ⟨g7, h⟩ := gd_some h
      refine x_getIv (pc := 40) (k := 10) hC fc_14 fl_RX10_264 dX10_clashes_40 rfl g7 (fun x8 hx8 => ?_)
      replace h := lt_x hx8 h
      refine x_pick [] rfl ?_
      exact t_X10_clashes_43 hls hC hl hE h
    · rw [if_pos c13] at h
      refine x_aload_n (pc := 26) hC 0 dX10_clashes_26 rfl rfl ?_
      obtain ⟨g9, h⟩ := gd_some h
      refine x_getRv (pc := 27) (k := 0) hC fc_16 fl_RX10_10 dX10_clashes_27 rfl g9 (fun r10 hr10 => ?_)
      replace h := lt_x hr10 h
      obtain ⟨g11, h⟩ := gd_some h
      refine x_getIv (pc := 30) (k := 9) hC fc_14 fl_RX10_261 dX10_clashes_30 rfl g11 (fun x12 hx12 => ?_)
      replace h := lt_x hx12 h
      refine x_goto (pc := 33) hC 43 dX10_clashes_33 (by decide) ?_
      refine x_pick [] rfl ?_
      exact t_X10_clashes_43 hls hC hl hE h
  · exact xk_r (xt_out hC hE (bk_r h) (Nat.le_of_ble_eq_true rfl) (Nat.le_of_ble_eq_true rfl))
def f_X10_clashes_12  (S : mS) (a0 : Nat) (a1 : Int32) : Option (Rs Int32) :=
  f_X10_clashes_17  S a0 a1 (1 : Int32)
set_option maxHeartbeats 2000000 in
set_option maxRecDepth 100000 in
theorem t_X10_clashes_12 {l : Launch} (hls : l.stackTraces = false) {C : cT} (hC : CX C cX10_clashes 2 yX10_clashes rm_X10_clashes) (hl : C.2.1 = l) {S0 : mS} (hE : CE C S0 (Option.some Jvm.ClassFile.FieldType.int) []) {o : Rs Int32} {S : mS} {a0 : Nat} {a1 : Int32} (h : f_X10_clashes_12  S a0 a1 = some o) : XX C 2 (QQ C (fun r : Int32 => some (.int r)) S0 o) (0) (0) S 12 [(0, .ref a0), (1, .int a1)] [] := by
  unfold f_X10_clashes_12 at h
  refine x_iconst (pc := 12) (v := (1 : Int32)) hC dX10_clashes_12 (by decide) ?_
  refine x_goto (pc := 13) hC 17 dX10_clashes_13 (by decide) ?_
  refine x_pick [0, 1] rfl ?_
  exact t_X10_clashes_17 hls hC hl hE h
def f_X10_clashes (S : mS) (a0 : Nat) (a1 : Int32) : Option (Rs Int32) :=
  if a1 = (118 : Int32) then (f_X10_clashes_12  S a0 a1) else (if a1 = (98 : Int32) then (f_X10_clashes_12  S a0 a1) else (f_X10_clashes_17  S a0 a1 (0 : Int32)))
set_option maxHeartbeats 2000000 in
set_option maxRecDepth 100000 in
theorem t_X10_clashes {l : Launch} (hls : l.stackTraces = false) {C : cT} (hC : CX C cX10_clashes 2 yX10_clashes rm_X10_clashes) (hl : C.2.1 = l) {S0 : mS} (hE : CE C S0 (Option.some Jvm.ClassFile.FieldType.int) []) {o : Rs Int32} {S : mS} {a0 : Nat} {a1 : Int32} (h : f_X10_clashes S a0 a1 = some o) : XX C 2 (QQ C (fun r : Int32 => some (.int r)) S0 o) 0 0 S 0 [(0, .ref a0), (1, .int a1)] [] := by
  unfold f_X10_clashes at h
  refine x_iload_n (pc := 0) hC 1 dX10_clashes_0 rfl rfl ?_
  refine x_bipush (pc := 1) (v := (118 : Int32)) hC dX10_clashes_1 (by decide) ?_
  refine x_icmp_eq (pc := 3) hC 12 dX10_clashes_3 (by decide) (fun c2 => ?_) (fun c2 => ?_)
  · rw [if_pos c2] at h
    refine x_pick [0, 1] rfl ?_
    exact t_X10_clashes_12 hls hC hl hE h
  · rw [if_neg c2] at h
    refine x_iload_n (pc := 6) hC 1 dX10_clashes_6 rfl rfl ?_
    refine x_bipush (pc := 7) (v := (98 : Int32)) hC dX10_clashes_7 (by decide) ?_
    refine x_icmp_ne (pc := 9) hC 16 dX10_clashes_9 (by decide) (fun c1 => ?_) (fun c1 => ?_)
    · rw [if_neg c1] at h
      refine x_iconst (pc := 16) (v := (0 : Int32)) hC dX10_clashes_16 (by decide) ?_
      refine x_pick [0, 1] rfl ?_
      exact t_X10_clashes_17 hls hC hl hE h
    · rw [if_pos c1] at h
      refine x_pick [0, 1] rfl ?_
      exact t_X10_clashes_12 hls hC hl hE h
theorem c_X10_clashes (l : Launch) (hls : l.stackTraces = false) {S : mS} {a0 : Nat} {a1 : Int32} {o : Rs Int32} (h : f_X10_clashes S a0 a1 = some o) : CT (fun r : Int32 => some (.int r)) l yX10_clashes (.code yX10_clashes cX10_clashes 2 (Option.some Jvm.ClassFile.FieldType.int)) rm_X10_clashes S [.ref a0, .int a1] o := ct_of (by decide +kernel) hls (Nat.le_of_ble_eq_true rfl) (fun C hl hC hE => t_X10_clashes hls hC hl hE h)
abbrev rm_X10_between : Room := { frames := 10, cells := 4, slots := 24, locals := 197 }
def f_X10_between (S : mS) (a0 : Nat) (a1 : Int32) (a2 : Int32) : Option (Rs Int32) :=
  gd (gK S a0 = 16) (bd (f_X10_deckOf S a0 a1) fun r2 S3 => gd (gK S3 a0 = 16) (bd (f_X10_deckOf S3 a0 a2) fun r7 S8 => bd (f_X10_demandRecord S8 r2) fun _ S12 => bd (f_X10_demandRecord S12 r7) fun _ S16 => gd (gK S16 r2 = 7) (bd (f_X1_thousandthsFrom S16 r2 r7) fun x20 S21 => some (.inl x20, S21))))
set_option maxHeartbeats 2000000 in
set_option maxRecDepth 100000 in
theorem t_X10_between {l : Launch} (hls : l.stackTraces = false) {C : cT} (hC : CX C cX10_between 5 yX10_between rm_X10_between) (hl : C.2.1 = l) {S0 : mS} (hE : CE C S0 (Option.some Jvm.ClassFile.FieldType.int) []) {o : Rs Int32} {S : mS} {a0 : Nat} {a1 : Int32} {a2 : Int32} (h : f_X10_between S a0 a1 a2 = some o) : XX C 5 (QQ C (fun r : Int32 => some (.int r)) S0 o) 0 0 S 0 [(0, .ref a0), (1, .int a1), (2, .int a2)] [] := by
  unfold f_X10_between at h
  refine x_aload_n (pc := 0) hC 0 dX10_between_0 rfl rfl ?_
  refine x_iload_n (pc := 1) hC 1 dX10_between_1 rfl rfl ?_
  obtain ⟨g1, h⟩ := gd_some h
  obtain ⟨o4, ho4, h⟩ := bd_some h
  refine x_callV (pc := 2) (As := [.int a1]) (rest := []) hC hl (c_X10_deckOf l hls ho4) lk_RX10_119 fc_16 g1 dX10_between_2 rfl rfl (Nat.le_of_ble_eq_true rfl) ⟨Nat.le_of_ble_eq_true rfl, Nat.le_of_ble_eq_true rfl⟩ ⟨(Nat.le_of_ble_eq_true rfl), (Nat.le_of_ble_eq_true rfl)⟩ ?_
  rcases o4 with ⟨r2 | E5, S3⟩
  · refine xk_a ?_
    replace h := bk_l h
    refine x_astore_n (pc := 5) hC dX10_between_5 rfl (by decide) (by decide) rfl ?_
    refine x_aload_n (pc := 6) hC 1 dX10_between_6 rfl rfl ?_
    refine x_iload_n (pc := 7) hC 3 dX10_between_7 rfl rfl ?_
    obtain ⟨g6, h⟩ := gd_some h
    obtain ⟨o9, ho9, h⟩ := bd_some h
    refine x_callV (pc := 8) (As := [.int a2]) (rest := []) hC hl (c_X10_deckOf l hls ho9) lk_RX10_119 fc_16 g6 dX10_between_8 rfl rfl (Nat.le_of_ble_eq_true rfl) ⟨Nat.le_of_ble_eq_true rfl, Nat.le_of_ble_eq_true rfl⟩ ⟨(Nat.le_of_ble_eq_true rfl), (Nat.le_of_ble_eq_true rfl)⟩ ?_
    rcases o9 with ⟨r7 | E10, S8⟩
    · refine xk_a ?_
      replace h := bk_l h
      refine x_astore (pc := 11) hC dX10_between_11 (by decide) (by decide) rfl ?_
      refine x_aload_n (pc := 13) hC 1 dX10_between_13 rfl rfl ?_
      obtain ⟨o13, ho13, h⟩ := bd_some h
      refine x_callS (pc := 14) (As := [.ref r2]) (rest := []) hC hl (c_X10_demandRecord l hls ho13) lk_RX10_135 dX10_between_14 rfl rfl (Nat.le_of_ble_eq_true rfl) ⟨Nat.le_of_ble_eq_true rfl, Nat.le_of_ble_eq_true rfl⟩ ⟨(Nat.le_of_ble_eq_true rfl), (Nat.le_of_ble_eq_true rfl)⟩ ?_
      rcases o13 with ⟨_ | E14, S12⟩
      · refine xk_v ?_
        replace h := bk_l h
        refine x_aload (pc := 17) hC 0 dX10_between_17 rfl ?_
        obtain ⟨o17, ho17, h⟩ := bd_some h
        refine x_callS (pc := 19) (As := [.ref r7]) (rest := []) hC hl (c_X10_demandRecord l hls ho17) lk_RX10_135 dX10_between_19 rfl rfl (Nat.le_of_ble_eq_true rfl) ⟨Nat.le_of_ble_eq_true rfl, Nat.le_of_ble_eq_true rfl⟩ ⟨(Nat.le_of_ble_eq_true rfl), (Nat.le_of_ble_eq_true rfl)⟩ ?_
        rcases o17 with ⟨_ | E18, S16⟩
        · refine xk_v ?_
          replace h := bk_l h
          refine x_aload_n (pc := 22) hC 1 dX10_between_22 rfl rfl ?_
          refine x_aload (pc := 23) hC 0 dX10_between_23 rfl ?_
          obtain ⟨g19, h⟩ := gd_some h
          obtain ⟨o22, ho22, h⟩ := bd_some h
          refine x_callV (pc := 25) (As := [.ref r7]) (rest := []) hC hl (c_X1_thousandthsFrom l hls ho22) lk_RX10_267 fc_7 g19 dX10_between_25 rfl rfl (Nat.le_of_ble_eq_true rfl) ⟨Nat.le_of_ble_eq_true rfl, Nat.le_of_ble_eq_true rfl⟩ ⟨(Nat.le_of_ble_eq_true rfl), (Nat.le_of_ble_eq_true rfl)⟩ ?_
          rcases o22 with ⟨x20 | E23, S21⟩
          · refine xk_i ?_
            replace h := bk_l h
            exact x_ireturn (pc := 28) hC hE dX10_between_28 (so h) (Nat.le_of_ble_eq_true rfl) (Nat.le_of_ble_eq_true rfl)
          · exact xk_r (xt_out hC hE (bk_r h) (Nat.le_of_ble_eq_true rfl) (Nat.le_of_ble_eq_true rfl))
        · exact xk_r (xt_out hC hE (bk_r h) (Nat.le_of_ble_eq_true rfl) (Nat.le_of_ble_eq_true rfl))
      · exact xk_r (xt_out hC hE (bk_r h) (Nat.le_of_ble_eq_true rfl) (Nat.le_of_ble_eq_true rfl))
    · exact xk_r (xt_out hC hE (bk_r h) (Nat.le_of_ble_eq_true rfl) (Nat.le_of_ble_eq_true rfl))
  · exact xk_r (xt_out hC hE (bk_r h) (Nat.le_of_ble_eq_true rfl) (Nat.le_of_ble_eq_true rfl))
theorem c_X10_between (l : Launch) (hls : l.stackTraces = false) {S : mS} {a0 : Nat} {a1 : Int32} {a2 : Int32} {o : Rs Int32} (h : f_X10_between S a0 a1 a2 = some o) : CT (fun r : Int32 => some (.int r)) l yX10_between (.code yX10_between cX10_between 5 (Option.some Jvm.ClassFile.FieldType.int)) rm_X10_between S [.ref a0, .int a1, .int a2] o := ct_of (by decide +kernel) hls (Nat.le_of_ble_eq_true rfl) (fun C hl hC hE => t_X10_between hls hC hl hE h)
abbrev rm_X10_demandPair : Room := { frames := 9, cells := 3, slots := 18, locals := 170 }
def f_X10_demandPair (S : mS) (a0 : Nat) (a1 : Nat) : Option (Rs Unit) :=
  bd (f_X10_demandRecord S a0) fun _ S2 => bd (f_X10_demandRecord S2 a1) fun _ S6 => gd (a0 < KB ∧ a1 < KB) (if a0 = a1 then (some (.inr "java/lang/UnsupportedOperationException", S6)) else (some (.inl (), S6)))
set_option maxHeartbeats 2000000 in
set_option maxRecDepth 100000 in
theorem t_X10_demandPair {l : Launch} (hls : l.stackTraces = false) {C : cT} (hC : CX C cX10_demandPair 2 yX10_demandPair rm_X10_demandPair) (hl : C.2.1 = l) {S0 : mS} (hE : CE C S0 (Option.none : Option Jvm.ClassFile.FieldType) []) {o : Rs Unit} {S : mS} {a0 : Nat} {a1 : Nat} (h : f_X10_demandPair S a0 a1 = some o) : XX C 2 (QQ C (fun _ : Unit => none) S0 o) 0 0 S 0 [(0, .ref a0), (1, .ref a1)] [] := by
  unfold f_X10_demandPair at h
  refine x_aload_n (pc := 0) hC 0 dX10_demandPair_0 rfl rfl ?_
  obtain ⟨o3, ho3, h⟩ := bd_some h
  refine x_callS (pc := 1) (As := [.ref a0]) (rest := []) hC hl (c_X10_demandRecord l hls ho3) lk_RX10_135 dX10_demandPair_1 rfl rfl (Nat.le_of_ble_eq_true rfl) ⟨Nat.le_of_ble_eq_true rfl, Nat.le_of_ble_eq_true rfl⟩ ⟨(Nat.le_of_ble_eq_true rfl), (Nat.le_of_ble_eq_true rfl)⟩ ?_
  rcases o3 with ⟨_ | E4, S2⟩
  · refine xk_v ?_
    replace h := bk_l h
    refine x_aload_n (pc := 4) hC 1 dX10_demandPair_4 rfl rfl ?_
    obtain ⟨o7, ho7, h⟩ := bd_some h
    refine x_callS (pc := 5) (As := [.ref a1]) (rest := []) hC hl (c_X10_demandRecord l hls ho7) lk_RX10_135 dX10_demandPair_5 rfl rfl (Nat.le_of_ble_eq_true rfl) ⟨Nat.le_of_ble_eq_true rfl, Nat.le_of_ble_eq_true rfl⟩ ⟨(Nat.le_of_ble_eq_true rfl), (Nat.le_of_ble_eq_true rfl)⟩ ?_
    rcases o7 with ⟨_ | E8, S6⟩
    · refine xk_v ?_
      replace h := bk_l h
      refine x_aload_n (pc := 8) hC 0 dX10_demandPair_8 rfl rfl ?_
      refine x_aload_n (pc := 9) hC 1 dX10_demandPair_9 rfl rfl ?_
      obtain ⟨⟨g9, g10⟩, h⟩ := gd_some h
      refine x_acmp_ne (pc := 10) hC g9 g10 24 dX10_demandPair_10 (by decide) (fun c11 => ?_) (fun c11 => ?_)
      · rw [if_neg c11] at h
        exact x_vreturn (pc := 24) hC hE dX10_demandPair_24 (so h) (Nat.le_of_ble_eq_true rfl) (Nat.le_of_ble_eq_true rfl)
      · rw [if_pos c11] at h
        exact x_throwSW (pc := 13) hC hE th_RX10_89_93_423 dX10_demandPair_13 dX10_demandPair_16 dX10_demandPair_17 dX10_demandPair_20 dX10_demandPair_23 (so h) (Nat.le_of_ble_eq_true rfl) (Nat.le_of_ble_eq_true rfl) (Nat.le_of_ble_eq_true rfl) (Nat.le_of_ble_eq_true rfl)
    · exact xk_r (xt_out hC hE (bk_r h) (Nat.le_of_ble_eq_true rfl) (Nat.le_of_ble_eq_true rfl))
  · exact xk_r (xt_out hC hE (bk_r h) (Nat.le_of_ble_eq_true rfl) (Nat.le_of_ble_eq_true rfl))
theorem c_X10_demandPair (l : Launch) (hls : l.stackTraces = false) {S : mS} {a0 : Nat} {a1 : Nat} {o : Rs Unit} (h : f_X10_demandPair S a0 a1 = some o) : CT (fun _ : Unit => none) l yX10_demandPair (.code yX10_demandPair cX10_demandPair 2 (Option.none : Option Jvm.ClassFile.FieldType)) rm_X10_demandPair S [.ref a0, .ref a1] o := ct_of (by decide +kernel) hls (Nat.le_of_ble_eq_true rfl) (fun C hl hC hE => t_X10_demandPair hls hC hl hE h)
abbrev rm_X10_sync : Room := { frames := 12, cells := 5, slots := 30, locals := 242 }
def f_X10_sync (S : mS) (a0 : Nat) (a1 : Int32) (a2 : Int32) : Option (Rs Int32) :=
  gd (gK S a0 = 16) (bd (f_X10_deckOf S a0 a1) fun r2 S3 => gd (gK S3 a0 = 16) (bd (f_X10_deckOf S3 a0 a2) fun r7 S8 => bd (f_X10_demandPair S8 r2 r7) fun _ S12 => gd (gK S12 a0 = 16) (lt9 (gR S12 a0 2) fun r16 => gd (gK S12 r16 = 12) (bd (f_X6_note S12 r16 (23 : Int32) a1 a2 (0 : Int32)) fun _ S19 => gd (gK S19 r2 = 7) (bd (f_X1_lockTo S19 r2 r7) fun x23 S24 => some (.inl x23, S24))))))
set_option maxHeartbeats 2000000 in
set_option maxRecDepth 100000 in
theorem t_X10_sync {l : Launch} (hls : l.stackTraces = false) {C : cT} (hC : CX C cX10_sync 5 yX10_sync rm_X10_sync) (hl : C.2.1 = l) {S0 : mS} (hE : CE C S0 (Option.some Jvm.ClassFile.FieldType.int) []) {o : Rs Int32} {S : mS} {a0 : Nat} {a1 : Int32} {a2 : Int32} (h : f_X10_sync S a0 a1 a2 = some o) : XX C 5 (QQ C (fun r : Int32 => some (.int r)) S0 o) 0 0 S 0 [(0, .ref a0), (1, .int a1), (2, .int a2)] [] := by
  unfold f_X10_sync at h
  refine x_aload_n (pc := 0) hC 0 dX10_sync_0 rfl rfl ?_
  refine x_iload_n (pc := 1) hC 1 dX10_sync_1 rfl rfl ?_
  obtain ⟨g1, h⟩ := gd_some h
  obtain ⟨o4, ho4, h⟩ := bd_some h
  refine x_callV (pc := 2) (As := [.int a1]) (rest := []) hC hl (c_X10_deckOf l hls ho4) lk_RX10_119 fc_16 g1 dX10_sync_2 rfl rfl (Nat.le_of_ble_eq_true rfl) ⟨Nat.le_of_ble_eq_true rfl, Nat.le_of_ble_eq_true rfl⟩ ⟨(Nat.le_of_ble_eq_true rfl), (Nat.le_of_ble_eq_true rfl)⟩ ?_
  rcases o4 with ⟨r2 | E5, S3⟩
  · refine xk_a ?_
    replace h := bk_l h
    refine x_astore_n (pc := 5) hC dX10_sync_5 rfl (by decide) (by decide) rfl ?_
    refine x_aload_n (pc := 6) hC 1 dX10_sync_6 rfl rfl ?_
    refine x_iload_n (pc := 7) hC 3 dX10_sync_7 rfl rfl ?_
    obtain ⟨g6, h⟩ := gd_some h
    obtain ⟨o9, ho9, h⟩ := bd_some h
    refine x_callV (pc := 8) (As := [.int a2]) (rest := []) hC hl (c_X10_deckOf l hls ho9) lk_RX10_119 fc_16 g6 dX10_sync_8 rfl rfl (Nat.le_of_ble_eq_true rfl) ⟨Nat.le_of_ble_eq_true rfl, Nat.le_of_ble_eq_true rfl⟩ ⟨(Nat.le_of_ble_eq_true rfl), (Nat.le_of_ble_eq_true rfl)⟩ ?_
    rcases o9 with ⟨r7 | E10, S8⟩
    · refine xk_a ?_
      replace h := bk_l h
      refine x_astore (pc := 11) hC dX10_sync_11 (by decide) (by decide) rfl ?_
      refine x_aload_n (pc := 13) hC 1 dX10_sync_13 rfl rfl ?_
      refine x_aload (pc := 14) hC 0 dX10_sync_14 rfl ?_
      obtain ⟨o13, ho13, h⟩ := bd_some h
      refine x_callS (pc := 16) (As := [.ref r2, .ref r7]) (rest := []) hC hl (c_X10_demandPair l hls ho13) lk_RX10_271 dX10_sync_16 rfl rfl (Nat.le_of_ble_eq_true rfl) ⟨Nat.le_of_ble_eq_true rfl, Nat.le_of_ble_eq_true rfl⟩ ⟨(Nat.le_of_ble_eq_true rfl), (Nat.le_of_ble_eq_true rfl)⟩ ?_
      rcases o13 with ⟨_ | E14, S12⟩
      · refine xk_v ?_
        replace h := bk_l h
        refine x_aload_n (pc := 19) hC 2 dX10_sync_19 rfl rfl ?_
        obtain ⟨g15, h⟩ := gd_some h
        refine x_getRv (pc := 20) (k := 2) hC fc_16 fl_RX10_22 dX10_sync_20 rfl g15 (fun r16 hr16 => ?_)
        replace h := lt_x hr16 h
        refine x_bipush (pc := 23) (v := (23 : Int32)) hC dX10_sync_23 (by decide) ?_
        refine x_iload_n (pc := 25) hC 3 dX10_sync_25 rfl rfl ?_
        refine x_iload_n (pc := 26) hC 4 dX10_sync_26 rfl rfl ?_
        refine x_iconst (pc := 27) (v := (0 : Int32)) hC dX10_sync_27 (by decide) ?_
        obtain ⟨g17, h⟩ := gd_some h
        obtain ⟨o20, ho20, h⟩ := bd_some h
        refine x_callV (pc := 28) (As := [.int (23 : Int32), .int a1, .int a2, .int (0 : Int32)]) (rest := []) hC hl (c_X6_note l hls ho20) lk_RX10_94 fc_12 g17 dX10_sync_28 rfl rfl (Nat.le_of_ble_eq_true rfl) ⟨Nat.le_of_ble_eq_true rfl, Nat.le_of_ble_eq_true rfl⟩ ⟨(Nat.le_of_ble_eq_true rfl), (Nat.le_of_ble_eq_true rfl)⟩ ?_
        rcases o20 with ⟨_ | E21, S19⟩
        · refine xk_v ?_
          replace h := bk_l h
          refine x_aload_n (pc := 31) hC 1 dX10_sync_31 rfl rfl ?_
          refine x_aload (pc := 32) hC 0 dX10_sync_32 rfl ?_
          obtain ⟨g22, h⟩ := gd_some h
          obtain ⟨o25, ho25, h⟩ := bd_some h
          refine x_callV (pc := 34) (As := [.ref r7]) (rest := []) hC hl (c_X1_lockTo l hls ho25) lk_RX10_275 fc_7 g22 dX10_sync_34 rfl rfl (Nat.le_of_ble_eq_true rfl) ⟨Nat.le_of_ble_eq_true rfl, Nat.le_of_ble_eq_true rfl⟩ ⟨(Nat.le_of_ble_eq_true rfl), (Nat.le_of_ble_eq_true rfl)⟩ ?_
          rcases o25 with ⟨x23 | E26, S24⟩
          · refine xk_i ?_
            replace h := bk_l h
            exact x_ireturn (pc := 37) hC hE dX10_sync_37 (so h) (Nat.le_of_ble_eq_true rfl) (Nat.le_of_ble_eq_true rfl)
          · exact xk_r (xt_out hC hE (bk_r h) (Nat.le_of_ble_eq_true rfl) (Nat.le_of_ble_eq_true rfl))
        · exact xk_r (xt_out hC hE (bk_r h) (Nat.le_of_ble_eq_true rfl) (Nat.le_of_ble_eq_true rfl))
      · exact xk_r (xt_out hC hE (bk_r h) (Nat.le_of_ble_eq_true rfl) (Nat.le_of_ble_eq_true rfl))
    · exact xk_r (xt_out hC hE (bk_r h) (Nat.le_of_ble_eq_true rfl) (Nat.le_of_ble_eq_true rfl))
  · exact xk_r (xt_out hC hE (bk_r h) (Nat.le_of_ble_eq_true rfl) (Nat.le_of_ble_eq_true rfl))
theorem c_X10_sync (l : Launch) (hls : l.stackTraces = false) {S : mS} {a0 : Nat} {a1 : Int32} {a2 : Int32} {o : Rs Int32} (h : f_X10_sync S a0 a1 a2 = some o) : CT (fun r : Int32 => some (.int r)) l yX10_sync (.code yX10_sync cX10_sync 5 (Option.some Jvm.ClassFile.FieldType.int)) rm_X10_sync S [.ref a0, .int a1, .int a2] o := ct_of (by decide +kernel) hls (Nat.le_of_ble_eq_true rfl) (fun C hl hC hE => t_X10_sync hls hC hl hE h)
abbrev rm_X10_ear : Room := { frames := 11, cells := 6, slots := 36, locals := 224 }
def f_X10_ear (S : mS) (a0 : Nat) (a1 : Int32) (a2 : Int32) (a3 : Int32) : Option (Rs Int32) :=
  gd (gK S a0 = 16) (bd (f_X10_deckOf S a0 a1) fun r2 S3 => gd (gK S3 a0 = 16) (bd (f_X10_deckOf S3 a0 a2) fun r7 S8 => bd (f_X10_isIn S8 a3 (1 : Int32) (10 : Int32)) fun x11 S12 => bd (f_X10_demand S12 x11) fun _ S16 => bd (f_X10_demandPair S16 r2 r7) fun _ S20 => gd (gK S20 a0 = 16) (lt9 (gR S20 a0 2) fun r24 => gd (gK S20 r24 = 12) (bd (f_X6_note S20 r24 (24 : Int32) a1 a2 a3) fun _ S27 => gd (gK S27 r2 = 7) (bd (f_X1_listenTo S27 r2 r7 a3) fun x31 S32 => some (.inl x31, S32))))))
set_option maxHeartbeats 2000000 in
set_option maxRecDepth 100000 in
theorem t_X10_ear {l : Launch} (hls : l.stackTraces = false) {C : cT} (hC : CX C cX10_ear 6 yX10_ear rm_X10_ear) (hl : C.2.1 = l) {S0 : mS} (hE : CE C S0 (Option.some Jvm.ClassFile.FieldType.int) []) {o : Rs Int32} {S : mS} {a0 : Nat} {a1 : Int32} {a2 : Int32} {a3 : Int32} (h : f_X10_ear S a0 a1 a2 a3 = some o) : XX C 6 (QQ C (fun r : Int32 => some (.int r)) S0 o) 0 0 S 0 [(0, .ref a0), (1, .int a1), (2, .int a2), (3, .int a3)] [] := by
  unfold f_X10_ear at h
  refine x_aload_n (pc := 0) hC 0 dX10_ear_0 rfl rfl ?_
  refine x_iload_n (pc := 1) hC 1 dX10_ear_1 rfl rfl ?_
  obtain ⟨g1, h⟩ := gd_some h
  obtain ⟨o4, ho4, h⟩ := bd_some h
  refine x_callV (pc := 2) (As := [.int a1]) (rest := []) hC hl (c_X10_deckOf l hls ho4) lk_RX10_119 fc_16 g1 dX10_ear_2 rfl rfl (Nat.le_of_ble_eq_true rfl) ⟨Nat.le_of_ble_eq_true rfl, Nat.le_of_ble_eq_true rfl⟩ ⟨(Nat.le_of_ble_eq_true rfl), (Nat.le_of_ble_eq_true rfl)⟩ ?_
  rcases o4 with ⟨r2 | E5, S3⟩
  · refine xk_a ?_
    replace h := bk_l h
    refine x_astore (pc := 5) hC dX10_ear_5 (by decide) (by decide) rfl ?_
    refine x_aload_n (pc := 7) hC 1 dX10_ear_7 rfl rfl ?_
    refine x_iload_n (pc := 8) hC 3 dX10_ear_8 rfl rfl ?_
    obtain ⟨g6, h⟩ := gd_some h
    obtain ⟨o9, ho9, h⟩ := bd_some h
    refine x_callV (pc := 9) (As := [.int a2]) (rest := []) hC hl (c_X10_deckOf l hls ho9) lk_RX10_119 fc_16 g6 dX10_ear_9 rfl rfl (Nat.le_of_ble_eq_true rfl) ⟨Nat.le_of_ble_eq_true rfl, Nat.le_of_ble_eq_true rfl⟩ ⟨(Nat.le_of_ble_eq_true rfl), (Nat.le_of_ble_eq_true rfl)⟩ ?_
    rcases o9 with ⟨r7 | E10, S8⟩
    · refine xk_a ?_
      replace h := bk_l h
      refine x_astore (pc := 12) hC dX10_ear_12 (by decide) (by decide) rfl ?_
      refine x_iload_n (pc := 14) hC 5 dX10_ear_14 rfl rfl ?_
      refine x_iconst (pc := 15) (v := (1 : Int32)) hC dX10_ear_15 (by decide) ?_
      refine x_bipush (pc := 16) (v := (10 : Int32)) hC dX10_ear_16 (by decide) ?_
      obtain ⟨o13, ho13, h⟩ := bd_some h
      refine x_callS (pc := 18) (As := [.int a3, .int (1 : Int32), .int (10 : Int32)]) (rest := []) hC hl (c_X10_isIn l hls ho13) lk_RX10_46 dX10_ear_18 rfl rfl (Nat.le_of_ble_eq_true rfl) ⟨Nat.le_of_ble_eq_true rfl, Nat.le_of_ble_eq_true rfl⟩ ⟨(Nat.le_of_ble_eq_true rfl), (Nat.le_of_ble_eq_true rfl)⟩ ?_
      rcases o13 with ⟨x11 | E14, S12⟩
      · refine xk_i ?_
        replace h := bk_l h
        obtain ⟨o17, ho17, h⟩ := bd_some h
        refine x_callS (pc := 21) (As := [.int x11]) (rest := []) hC hl (c_X10_demand l hls ho17) lk_RX10_50 dX10_ear_21 rfl rfl (Nat.le_of_ble_eq_true rfl) ⟨Nat.le_of_ble_eq_true rfl, Nat.le_of_ble_eq_true rfl⟩ ⟨(Nat.le_of_ble_eq_true rfl), (Nat.le_of_ble_eq_true rfl)⟩ ?_
        rcases o17 with ⟨_ | E18, S16⟩
        · refine xk_v ?_
          replace h := bk_l h
          refine x_aload (pc := 24) hC 1 dX10_ear_24 rfl ?_
          refine x_aload (pc := 26) hC 0 dX10_ear_26 rfl ?_
          obtain ⟨o21, ho21, h⟩ := bd_some h
          refine x_callS (pc := 28) (As := [.ref r2, .ref r7]) (rest := []) hC hl (c_X10_demandPair l hls ho21) lk_RX10_271 dX10_ear_28 rfl rfl (Nat.le_of_ble_eq_true rfl) ⟨Nat.le_of_ble_eq_true rfl, Nat.le_of_ble_eq_true rfl⟩ ⟨(Nat.le_of_ble_eq_true rfl), (Nat.le_of_ble_eq_true rfl)⟩ ?_
          rcases o21 with ⟨_ | E22, S20⟩
          · refine xk_v ?_
            replace h := bk_l h
            refine x_aload_n (pc := 31) hC 2 dX10_ear_31 rfl rfl ?_
            obtain ⟨g23, h⟩ := gd_some h
            refine x_getRv (pc := 32) (k := 2) hC fc_16 fl_RX10_22 dX10_ear_32 rfl g23 (fun r24 hr24 => ?_)
            replace h := lt_x hr24 h
            refine x_bipush (pc := 35) (v := (24 : Int32)) hC dX10_ear_35 (by decide) ?_
            refine x_iload_n (pc := 37) hC 3 dX10_ear_37 rfl rfl ?_
            refine x_iload_n (pc := 38) hC 4 dX10_ear_38 rfl rfl ?_
            refine x_iload_n (pc := 39) hC 5 dX10_ear_39 rfl rfl ?_
            obtain ⟨g25, h⟩ := gd_some h
            obtain ⟨o28, ho28, h⟩ := bd_some h
            refine x_callV (pc := 40) (As := [.int (24 : Int32), .int a1, .int a2, .int a3]) (rest := []) hC hl (c_X6_note l hls ho28) lk_RX10_94 fc_12 g25 dX10_ear_40 rfl rfl (Nat.le_of_ble_eq_true rfl) ⟨Nat.le_of_ble_eq_true rfl, Nat.le_of_ble_eq_true rfl⟩ ⟨(Nat.le_of_ble_eq_true rfl), (Nat.le_of_ble_eq_true rfl)⟩ ?_
            rcases o28 with ⟨_ | E29, S27⟩
            · refine xk_v ?_
              replace h := bk_l h
              refine x_aload (pc := 43) hC 1 dX10_ear_43 rfl ?_
              refine x_aload (pc := 45) hC 0 dX10_ear_45 rfl ?_
              refine x_iload_n (pc := 47) hC 5 dX10_ear_47 rfl rfl ?_
              obtain ⟨g30, h⟩ := gd_some h
              obtain ⟨o33, ho33, h⟩ := bd_some h
              refine x_callV (pc := 48) (As := [.ref r7, .int a3]) (rest := []) hC hl (c_X1_listenTo l hls ho33) lk_RX10_278 fc_7 g30 dX10_ear_48 rfl rfl (Nat.le_of_ble_eq_true rfl) ⟨Nat.le_of_ble_eq_true rfl, Nat.le_of_ble_eq_true rfl⟩ ⟨(Nat.le_of_ble_eq_true rfl), (Nat.le_of_ble_eq_true rfl)⟩ ?_
              rcases o33 with ⟨x31 | E34, S32⟩
              · refine xk_i ?_
                replace h := bk_l h
                exact x_ireturn (pc := 51) hC hE dX10_ear_51 (so h) (Nat.le_of_ble_eq_true rfl) (Nat.le_of_ble_eq_true rfl)
              · exact xk_r (xt_out hC hE (bk_r h) (Nat.le_of_ble_eq_true rfl) (Nat.le_of_ble_eq_true rfl))
            · exact xk_r (xt_out hC hE (bk_r h) (Nat.le_of_ble_eq_true rfl) (Nat.le_of_ble_eq_true rfl))
          · exact xk_r (xt_out hC hE (bk_r h) (Nat.le_of_ble_eq_true rfl) (Nat.le_of_ble_eq_true rfl))
        · exact xk_r (xt_out hC hE (bk_r h) (Nat.le_of_ble_eq_true rfl) (Nat.le_of_ble_eq_true rfl))
      · exact xk_r (xt_out hC hE (bk_r h) (Nat.le_of_ble_eq_true rfl) (Nat.le_of_ble_eq_true rfl))
    · exact xk_r (xt_out hC hE (bk_r h) (Nat.le_of_ble_eq_true rfl) (Nat.le_of_ble_eq_true rfl))
  · exact xk_r (xt_out hC hE (bk_r h) (Nat.le_of_ble_eq_true rfl) (Nat.le_of_ble_eq_true rfl))
theorem c_X10_ear (l : Launch) (hls : l.stackTraces = false) {S : mS} {a0 : Nat} {a1 : Int32} {a2 : Int32} {a3 : Int32} {o : Rs Int32} (h : f_X10_ear S a0 a1 a2 a3 = some o) : CT (fun r : Int32 => some (.int r)) l yX10_ear (.code yX10_ear cX10_ear 6 (Option.some Jvm.ClassFile.FieldType.int)) rm_X10_ear S [.ref a0, .int a1, .int a2, .int a3] o := ct_of (by decide +kernel) hls (Nat.le_of_ble_eq_true rfl) (fun C hl hC hE => t_X10_ear hls hC hl hE h)
abbrev rm_X10_people : Room := { frames := 9, cells := 1, slots := 6, locals := 172 }
def f_X10_people_38  (S : mS) (s0 : Int32) : Option (Rs Int32) :=
  some (.inl s0, S)
set_option maxHeartbeats 2000000 in
set_option maxRecDepth 100000 in
theorem t_X10_people_38 {l : Launch} (hls : l.stackTraces = false) {C : cT} (hC : CX C cX10_people 2 yX10_people rm_X10_people) (hl : C.2.1 = l) {S0 : mS} (hE : CE C S0 (Option.some Jvm.ClassFile.FieldType.int) []) {o : Rs Int32} {S : mS} {s0 : Int32} (h : f_X10_people_38  S s0 = some o) : XX C 2 (QQ C (fun r : Int32 => some (.int r)) S0 o) (1) (6) S 38 [] [.int s0] := by
  unfold f_X10_people_38 at h
  exact x_ireturn (pc := 38) hC hE dX10_people_38 (so h) (Nat.le_of_ble_eq_true rfl) (Nat.le_of_ble_eq_true rfl)
def f_X10_people (S : mS) (a0 : Nat) (a1 : Int32) : Option (Rs Int32) :=
  bd (f_X10_isIn S a1 (-1 : Int32) (5 : Int32)) fun x1 S2 => bd (f_X10_demand S2 x1) fun _ S6 => if a1 = (-1 : Int32) then (gd (gK S6 a0 = 16) (lt9 (gR S6 a0 0) fun r19 => gd (gK S6 r19 = 14) (lt9 (gR S6 r19 2) fun r21 => gd (gK S6 r21 = 10) (bd (f_X4_everybody S6 r21) fun x23 S24 => f_X10_people_38  S24 x23)))) else (gd (gK S6 a0 = 16) (lt9 (gR S6 a0 0) fun r10 => gd (gK S6 r10 = 14) (lt9 (gR S6 r10 2) fun r12 => gd (gK S6 r12 = 10) (bd (f_X4_sizeOf S6 r12 a1) fun x14 S15 => f_X10_people_38  S15 x14))))
set_option maxHeartbeats 2000000 in
set_option maxRecDepth 100000 in
theorem t_X10_people {l : Launch} (hls : l.stackTraces = false) {C : cT} (hC : CX C cX10_people 2 yX10_people rm_X10_people) (hl : C.2.1 = l) {S0 : mS} (hE : CE C S0 (Option.some Jvm.ClassFile.FieldType.int) []) {o : Rs Int32} {S : mS} {a0 : Nat} {a1 : Int32} (h : f_X10_people S a0 a1 = some o) : XX C 2 (QQ C (fun r : Int32 => some (.int r)) S0 o) 0 0 S 0 [(0, .ref a0), (1, .int a1)] [] := by
  unfold f_X10_people at h
  refine x_iload_n (pc := 0) hC 1 dX10_people_0 rfl rfl ?_
  refine x_iconst (pc := 1) (v := (-1 : Int32)) hC dX10_people_1 (by decide) ?_
  refine x_iconst (pc := 2) (v := (5 : Int32)) hC dX10_people_2 (by decide) ?_
  obtain ⟨o3, ho3, h⟩ := bd_some h
  refine x_callS (pc := 3) (As := [.int a1, .int (-1 : Int32), .int (5 : Int32)]) (rest := []) hC hl (c_X10_isIn l hls ho3) lk_RX10_46 dX10_people_3 rfl rfl (Nat.le_of_ble_eq_true rfl) ⟨Nat.le_of_ble_eq_true rfl, Nat.le_of_ble_eq_true rfl⟩ ⟨(Nat.le_of_ble_eq_true rfl), (Nat.le_of_ble_eq_true rfl)⟩ ?_
  rcases o3 with ⟨x1 | E4, S2⟩
  · refine xk_i ?_
    replace h := bk_l h
    obtain ⟨o7, ho7, h⟩ := bd_some h
    refine x_callS (pc := 6) (As := [.int x1]) (rest := []) hC hl (c_X10_demand l hls ho7) lk_RX10_50 dX10_people_6 rfl rfl (Nat.le_of_ble_eq_true rfl) ⟨Nat.le_of_ble_eq_true rfl, Nat.le_of_ble_eq_true rfl⟩ ⟨(Nat.le_of_ble_eq_true rfl), (Nat.le_of_ble_eq_true rfl)⟩ ?_
    rcases o7 with ⟨_ | E8, S6⟩
    · refine xk_v ?_
      replace h := bk_l h
      refine x_iload_n (pc := 9) hC 1 dX10_people_9 rfl rfl ?_
      refine x_iconst (pc := 10) (v := (-1 : Int32)) hC dX10_people_10 (by decide) ?_
      refine x_icmp_ne (pc := 11) hC 27 dX10_people_11 (by decide) (fun c27 => ?_) (fun c27 => ?_)
      · rw [if_neg c27] at h
        refine x_aload_n (pc := 27) hC 0 dX10_people_27 rfl rfl ?_
        obtain ⟨g9, h⟩ := gd_some h
        refine x_getRv (pc := 28) (k := 0) hC fc_16 fl_RX10_10 dX10_people_28 rfl g9 (fun r10 hr10 => ?_)
        replace h := lt_x hr10 h
        obtain ⟨g11, h⟩ := gd_some h
        refine x_getRv (pc := 31) (k := 2) hC fc_14 fl_RX10_284 dX10_people_31 rfl g11 (fun r12 hr12 => ?_)
        replace h := lt_x hr12 h
        refine x_iload_n (pc := 34) hC 1 dX10_people_34 rfl rfl ?_
        obtain ⟨g13, h⟩ := gd_some h
        obtain ⟨o16, ho16, h⟩ := bd_some h
        refine x_callV (pc := 35) (As := [.int a1]) (rest := []) hC hl (c_X4_sizeOf l hls ho16) lk_RX10_291 fc_10 g13 dX10_people_35 rfl rfl (Nat.le_of_ble_eq_true rfl) ⟨Nat.le_of_ble_eq_true rfl, Nat.le_of_ble_eq_true rfl⟩ ⟨(Nat.le_of_ble_eq_true rfl), (Nat.le_of_ble_eq_true rfl)⟩ ?_
        rcases o16 with ⟨x14 | E17, S15⟩
        · refine xk_i ?_
          replace h := bk_l h
          refine x_pick [] rfl ?_
          exact t_X10_people_38 hls hC hl hE h
        · exact xk_r (xt_out hC hE (bk_r h) (Nat.le_of_ble_eq_true rfl) (Nat.le_of_ble_eq_true rfl))
      · rw [if_pos c27] at h
        refine x_aload_n (pc := 14) hC 0 dX10_people_14 rfl rfl ?_
        obtain ⟨g18, h⟩ := gd_some h
        refine x_getRv (pc := 15) (k := 0) hC fc_16 fl_RX10_10 dX10_people_15 rfl g18 (fun r19 hr19 => ?_)
        replace h := lt_x hr19 h
        obtain ⟨g20, h⟩ := gd_some h
        refine x_getRv (pc := 18) (k := 2) hC fc_14 fl_RX10_284 dX10_people_18 rfl g20 (fun r21 hr21 => ?_)
        replace h := lt_x hr21 h
        obtain ⟨g22, h⟩ := gd_some h
        obtain ⟨o25, ho25, h⟩ := bd_some h
        refine x_callV (pc := 21) (As := []) (rest := []) hC hl (c_X4_everybody l hls ho25) lk_RX10_288 fc_10 g22 dX10_people_21 rfl rfl (Nat.le_of_ble_eq_true rfl) ⟨Nat.le_of_ble_eq_true rfl, Nat.le_of_ble_eq_true rfl⟩ ⟨(Nat.le_of_ble_eq_true rfl), (Nat.le_of_ble_eq_true rfl)⟩ ?_
        rcases o25 with ⟨x23 | E26, S24⟩
        · refine xk_i ?_
          replace h := bk_l h
          refine x_goto (pc := 24) hC 38 dX10_people_24 (by decide) ?_
          refine x_pick [] rfl ?_
          exact t_X10_people_38 hls hC hl hE h
        · exact xk_r (xt_out hC hE (bk_r h) (Nat.le_of_ble_eq_true rfl) (Nat.le_of_ble_eq_true rfl))
    · exact xk_r (xt_out hC hE (bk_r h) (Nat.le_of_ble_eq_true rfl) (Nat.le_of_ble_eq_true rfl))
  · exact xk_r (xt_out hC hE (bk_r h) (Nat.le_of_ble_eq_true rfl) (Nat.le_of_ble_eq_true rfl))
theorem c_X10_people (l : Launch) (hls : l.stackTraces = false) {S : mS} {a0 : Nat} {a1 : Int32} {o : Rs Int32} (h : f_X10_people S a0 a1 = some o) : CT (fun r : Int32 => some (.int r)) l yX10_people (.code yX10_people cX10_people 2 (Option.some Jvm.ClassFile.FieldType.int)) rm_X10_people S [.ref a0, .int a1] o := ct_of (by decide +kernel) hls (Nat.le_of_ble_eq_true rfl) (fun C hl hC hE => t_X10_people hls hC hl hE h)
abbrev rm_X10_tired : Room := { frames := 9, cells := 1, slots := 6, locals := 172 }
def f_X10_tired (S : mS) (a0 : Nat) (a1 : Int32) : Option (Rs Int32) :=
  bd (f_X10_isIn S a1 (0 : Int32) (5 : Int32)) fun x1 S2 => bd (f_X10_demand S2 x1) fun _ S6 => gd (gK S6 a0 = 16) (lt9 (gR S6 a0 0) fun r10 => gd (gK S6 r10 = 14) (lt9 (gR S6 r10 2) fun r12 => gd (gK S6 r12 = 10) (bd (f_X4_wearOf S6 r12 a1) fun x14 S15 => some (.inl x14, S15))))
set_option maxHeartbeats 2000000 in
set_option maxRecDepth 100000 in
theorem t_X10_tired {l : Launch} (hls : l.stackTraces = false) {C : cT} (hC : CX C cX10_tired 2 yX10_tired rm_X10_tired) (hl : C.2.1 = l) {S0 : mS} (hE : CE C S0 (Option.some Jvm.ClassFile.FieldType.int) []) {o : Rs Int32} {S : mS} {a0 : Nat} {a1 : Int32} (h : f_X10_tired S a0 a1 = some o) : XX C 2 (QQ C (fun r : Int32 => some (.int r)) S0 o) 0 0 S 0 [(0, .ref a0), (1, .int a1)] [] := by
  unfold f_X10_tired at h
  refine x_iload_n (pc := 0) hC 1 dX10_tired_0 rfl rfl ?_
  refine x_iconst (pc := 1) (v := (0 : Int32)) hC dX10_tired_1 (by decide) ?_
  refine x_iconst (pc := 2) (v := (5 : Int32)) hC dX10_tired_2 (by decide) ?_
  obtain ⟨o3, ho3, h⟩ := bd_some h
  refine x_callS (pc := 3) (As := [.int a1, .int (0 : Int32), .int (5 : Int32)]) (rest := []) hC hl (c_X10_isIn l hls ho3) lk_RX10_46 dX10_tired_3 rfl rfl (Nat.le_of_ble_eq_true rfl) ⟨Nat.le_of_ble_eq_true rfl, Nat.le_of_ble_eq_true rfl⟩ ⟨(Nat.le_of_ble_eq_true rfl), (Nat.le_of_ble_eq_true rfl)⟩ ?_
  rcases o3 with ⟨x1 | E4, S2⟩
  · refine xk_i ?_
    replace h := bk_l h
    obtain ⟨o7, ho7, h⟩ := bd_some h
    refine x_callS (pc := 6) (As := [.int x1]) (rest := []) hC hl (c_X10_demand l hls ho7) lk_RX10_50 dX10_tired_6 rfl rfl (Nat.le_of_ble_eq_true rfl) ⟨Nat.le_of_ble_eq_true rfl, Nat.le_of_ble_eq_true rfl⟩ ⟨(Nat.le_of_ble_eq_true rfl), (Nat.le_of_ble_eq_true rfl)⟩ ?_
    rcases o7 with ⟨_ | E8, S6⟩
    · refine xk_v ?_
      replace h := bk_l h
      refine x_aload_n (pc := 9) hC 0 dX10_tired_9 rfl rfl ?_
      obtain ⟨g9, h⟩ := gd_some h
      refine x_getRv (pc := 10) (k := 0) hC fc_16 fl_RX10_10 dX10_tired_10 rfl g9 (fun r10 hr10 => ?_)
      replace h := lt_x hr10 h
      obtain ⟨g11, h⟩ := gd_some h
      refine x_getRv (pc := 13) (k := 2) hC fc_14 fl_RX10_284 dX10_tired_13 rfl g11 (fun r12 hr12 => ?_)
      replace h := lt_x hr12 h
      refine x_iload_n (pc := 16) hC 1 dX10_tired_16 rfl rfl ?_
      obtain ⟨g13, h⟩ := gd_some h
      obtain ⟨o16, ho16, h⟩ := bd_some h
      refine x_callV (pc := 17) (As := [.int a1]) (rest := []) hC hl (c_X4_wearOf l hls ho16) lk_RX10_294 fc_10 g13 dX10_tired_17 rfl rfl (Nat.le_of_ble_eq_true rfl) ⟨Nat.le_of_ble_eq_true rfl, Nat.le_of_ble_eq_true rfl⟩ ⟨(Nat.le_of_ble_eq_true rfl), (Nat.le_of_ble_eq_true rfl)⟩ ?_
      rcases o16 with ⟨x14 | E17, S15⟩
      · refine xk_i ?_
        replace h := bk_l h
        exact x_ireturn (pc := 20) hC hE dX10_tired_20 (so h) (Nat.le_of_ble_eq_true rfl) (Nat.le_of_ble_eq_true rfl)
      · exact xk_r (xt_out hC hE (bk_r h) (Nat.le_of_ble_eq_true rfl) (Nat.le_of_ble_eq_true rfl))
    · exact xk_r (xt_out hC hE (bk_r h) (Nat.le_of_ble_eq_true rfl) (Nat.le_of_ble_eq_true rfl))
  · exact xk_r (xt_out hC hE (bk_r h) (Nat.le_of_ble_eq_true rfl) (Nat.le_of_ble_eq_true rfl))
theorem c_X10_tired (l : Launch) (hls : l.stackTraces = false) {S : mS} {a0 : Nat} {a1 : Int32} {o : Rs Int32} (h : f_X10_tired S a0 a1 = some o) : CT (fun r : Int32 => some (.int r)) l yX10_tired (.code yX10_tired cX10_tired 2 (Option.some Jvm.ClassFile.FieldType.int)) rm_X10_tired S [.ref a0, .int a1] o := ct_of (by decide +kernel) hls (Nat.le_of_ble_eq_true rfl) (fun C hl hC hE => t_X10_tired hls hC hl hE h)
abbrev rm_X10_seconds : Room := { frames := 10, cells := 1, slots := 6, locals := 193 }
def f_X10_seconds (S : mS) (a0 : Nat) (a1 : Int32) : Option (Rs Int32) :=
  gd (gK S a0 = 16) (bd (f_X10_discOf S a0 a1) fun r2 S3 => gd (gK S3 r2 = 8) (bd (f_X2_wholeSeconds S3 r2) fun x7 S8 => some (.inl x7, S8)))
set_option maxHeartbeats 2000000 in
set_option maxRecDepth 100000 in
theorem t_X10_seconds {l : Launch} (hls : l.stackTraces = false) {C : cT} (hC : CX C cX10_seconds 2 yX10_seconds rm_X10_seconds) (hl : C.2.1 = l) {S0 : mS} (hE : CE C S0 (Option.some Jvm.ClassFile.FieldType.int) []) {o : Rs Int32} {S : mS} {a0 : Nat} {a1 : Int32} (h : f_X10_seconds S a0 a1 = some o) : XX C 2 (QQ C (fun r : Int32 => some (.int r)) S0 o) 0 0 S 0 [(0, .ref a0), (1, .int a1)] [] := by
  unfold f_X10_seconds at h
  refine x_aload_n (pc := 0) hC 0 dX10_seconds_0 rfl rfl ?_
  refine x_iload_n (pc := 1) hC 1 dX10_seconds_1 rfl rfl ?_
  obtain ⟨g1, h⟩ := gd_some h
  obtain ⟨o4, ho4, h⟩ := bd_some h
  refine x_callV (pc := 2) (As := [.int a1]) (rest := []) hC hl (c_X10_discOf l hls ho4) lk_RX10_81 fc_16 g1 dX10_seconds_2 rfl rfl (Nat.le_of_ble_eq_true rfl) ⟨Nat.le_of_ble_eq_true rfl, Nat.le_of_ble_eq_true rfl⟩ ⟨(Nat.le_of_ble_eq_true rfl), (Nat.le_of_ble_eq_true rfl)⟩ ?_
  rcases o4 with ⟨r2 | E5, S3⟩
  · refine xk_a ?_
    replace h := bk_l h
    obtain ⟨g6, h⟩ := gd_some h
    obtain ⟨o9, ho9, h⟩ := bd_some h
    refine x_callV (pc := 5) (As := []) (rest := []) hC hl (c_X2_wholeSeconds l hls ho9) lk_RX10_297 fc_8 g6 dX10_seconds_5 rfl rfl (Nat.le_of_ble_eq_true rfl) ⟨Nat.le_of_ble_eq_true rfl, Nat.le_of_ble_eq_true rfl⟩ ⟨(Nat.le_of_ble_eq_true rfl), (Nat.le_of_ble_eq_true rfl)⟩ ?_
    rcases o9 with ⟨x7 | E10, S8⟩
    · refine xk_i ?_
      replace h := bk_l h
      exact x_ireturn (pc := 8) hC hE dX10_seconds_8 (so h) (Nat.le_of_ble_eq_true rfl) (Nat.le_of_ble_eq_true rfl)
    · exact xk_r (xt_out hC hE (bk_r h) (Nat.le_of_ble_eq_true rfl) (Nat.le_of_ble_eq_true rfl))
  · exact xk_r (xt_out hC hE (bk_r h) (Nat.le_of_ble_eq_true rfl) (Nat.le_of_ble_eq_true rfl))
theorem c_X10_seconds (l : Launch) (hls : l.stackTraces = false) {S : mS} {a0 : Nat} {a1 : Int32} {o : Rs Int32} (h : f_X10_seconds S a0 a1 = some o) : CT (fun r : Int32 => some (.int r)) l yX10_seconds (.code yX10_seconds cX10_seconds 2 (Option.some Jvm.ClassFile.FieldType.int)) rm_X10_seconds S [.ref a0, .int a1] o := ct_of (by decide +kernel) hls (Nat.le_of_ble_eq_true rfl) (fun C hl hC hE => t_X10_seconds hls hC hl hE h)
abbrev rm_X10_setLimit : Room := { frames := 11, cells := 1, slots := 6, locals := 216 }
def f_X10_setLimit_25  (S : mS) (a0 : Nat) (a1 : Int32) (a2 : Int32) (s0 : Int32) : Option (Rs Int32) :=
  bd (f_X10_demand S s0) fun _ S2 => gd (gK S2 a0 = 16) (lt9 (gR S2 a0 2) fun r6 => gd (gK S2 r6 = 12) (bd (f_X6_note S2 r6 (25 : Int32) a1 a2 (0 : Int32)) fun _ S9 => gd (gK S9 a0 = 16) (lt9 (gR S9 a0 0) fun r13 => gd (gK S9 r13 = 14) (lt9 (gR S9 r13 3) fun r15 => gd (gK S9 r15 = 11) (bd (f_X5_change S9 r15 a1 a2) fun x17 S18 => some (.inl x17, S18))))))
set_option maxHeartbeats 2000000 in
set_option maxRecDepth 100000 in
theorem t_X10_setLimit_25 {l : Launch} (hls : l.stackTraces = false) {C : cT} (hC : CX C cX10_setLimit 3 yX10_setLimit rm_X10_setLimit) (hl : C.2.1 = l) {S0 : mS} (hE : CE C S0 (Option.some Jvm.ClassFile.FieldType.int) []) {o : Rs Int32} {S : mS} {a0 : Nat} {a1 : Int32} {a2 : Int32} {s0 : Int32} (h : f_X10_setLimit_25  S a0 a1 a2 s0 = some o) : XX C 3 (QQ C (fun r : Int32 => some (.int r)) S0 o) (0) (0) S 25 [(0, .ref a0), (1, .int a1), (2, .int a2)] [.int s0] := by
  unfold f_X10_setLimit_25 at h
  obtain ⟨o3, ho3, h⟩ := bd_some h
  refine x_callS (pc := 25) (As := [.int s0]) (rest := []) hC hl (c_X10_demand l hls ho3) lk_RX10_50 dX10_setLimit_25 rfl rfl (Nat.le_of_ble_eq_true rfl) ⟨Nat.le_of_ble_eq_true rfl, Nat.le_of_ble_eq_true rfl⟩ ⟨(Nat.le_of_ble_eq_true rfl), (Nat.le_of_ble_eq_true rfl)⟩ ?_
  rcases o3 with ⟨_ | E4, S2⟩
  · refine xk_v ?_
    replace h := bk_l h
    refine x_aload_n (pc := 28) hC 0 dX10_setLimit_28 rfl rfl ?_
    obtain ⟨g5, h⟩ := gd_some h
    refine x_getRv (pc := 29) (k := 2) hC fc_16 fl_RX10_22 dX10_setLimit_29 rfl g5 (fun r6 hr6 => ?_)
    replace h := lt_x hr6 h
    refine x_bipush (pc := 32) (v := (25 : Int32)) hC dX10_setLimit_32 (by decide) ?_
    refine x_iload_n (pc := 34) hC 1 dX10_setLimit_34 rfl rfl ?_
    refine x_iload_n (pc := 35) hC 2 dX10_setLimit_35 rfl rfl ?_
    refine x_iconst (pc := 36) (v := (0 : Int32)) hC dX10_setLimit_36 (by decide) ?_
    obtain ⟨g7, h⟩ := gd_some h
    obtain ⟨o10, ho10, h⟩ := bd_some h
    refine x_callV (pc := 37) (As := [.int (25 : Int32), .int a1, .int a2, .int (0 : Int32)]) (rest := []) hC hl (c_X6_note l hls ho10) lk_RX10_94 fc_12 g7 dX10_setLimit_37 rfl rfl (Nat.le_of_ble_eq_true rfl) ⟨Nat.le_of_ble_eq_true rfl, Nat.le_of_ble_eq_true rfl⟩ ⟨(Nat.le_of_ble_eq_true rfl), (Nat.le_of_ble_eq_true rfl)⟩ ?_
    rcases o10 with ⟨_ | E11, S9⟩
    · refine xk_v ?_
      replace h := bk_l h
      refine x_aload_n (pc := 40) hC 0 dX10_setLimit_40 rfl rfl ?_
      obtain ⟨g12, h⟩ := gd_some h
      refine x_getRv (pc := 41) (k := 0) hC fc_16 fl_RX10_10 dX10_setLimit_41 rfl g12 (fun r13 hr13 => ?_)
      replace h := lt_x hr13 h
      obtain ⟨g14, h⟩ := gd_some h
      refine x_getRv (pc := 44) (k := 3) hC fc_14 fl_RX10_300 dX10_setLimit_44 rfl g14 (fun r15 hr15 => ?_)
      replace h := lt_x hr15 h
      refine x_iload_n (pc := 47) hC 1 dX10_setLimit_47 rfl rfl ?_
      refine x_iload_n (pc := 48) hC 2 dX10_setLimit_48 rfl rfl ?_
      obtain ⟨g16, h⟩ := gd_some h
      obtain ⟨o19, ho19, h⟩ := bd_some h
      refine x_callV (pc := 49) (As := [.int a1, .int a2]) (rest := []) hC hl (c_X5_change l hls ho19) lk_RX10_304 fc_11 g16 dX10_setLimit_49 rfl rfl (Nat.le_of_ble_eq_true rfl) ⟨Nat.le_of_ble_eq_true rfl, Nat.le_of_ble_eq_true rfl⟩ ⟨(Nat.le_of_ble_eq_true rfl), (Nat.le_of_ble_eq_true rfl)⟩ ?_
      rcases o19 with ⟨x17 | E20, S18⟩
      · refine xk_i ?_
        replace h := bk_l h
        exact x_ireturn (pc := 52) hC hE dX10_setLimit_52 (so h) (Nat.le_of_ble_eq_true rfl) (Nat.le_of_ble_eq_true rfl)
      · exact xk_r (xt_out hC hE (bk_r h) (Nat.le_of_ble_eq_true rfl) (Nat.le_of_ble_eq_true rfl))
    · exact xk_r (xt_out hC hE (bk_r h) (Nat.le_of_ble_eq_true rfl) (Nat.le_of_ble_eq_true rfl))
  · exact xk_r (xt_out hC hE (bk_r h) (Nat.le_of_ble_eq_true rfl) (Nat.le_of_ble_eq_true rfl))
def f_X10_setLimit_24  (S : mS) (a0 : Nat) (a1 : Int32) (a2 : Int32) : Option (Rs Int32) :=
  f_X10_setLimit_25  S a0 a1 a2 (0 : Int32)
set_option maxHeartbeats 2000000 in
set_option maxRecDepth 100000 in
theorem t_X10_setLimit_24 {l : Launch} (hls : l.stackTraces = false) {C : cT} (hC : CX C cX10_setLimit 3 yX10_setLimit rm_X10_setLimit) (hl : C.2.1 = l) {S0 : mS} (hE : CE C S0 (Option.some Jvm.ClassFile.FieldType.int) []) {o : Rs Int32} {S : mS} {a0 : Nat} {a1 : Int32} {a2 : Int32} (h : f_X10_setLimit_24  S a0 a1 a2 = some o) : XX C 3 (QQ C (fun r : Int32 => some (.int r)) S0 o) (0) (0) S 24 [(0, .ref a0), (1, .int a1), (2, .int a2)] [] := by
  unfold f_X10_setLimit_24 at h
  refine x_iconst (pc := 24) (v := (0 : Int32)) hC dX10_setLimit_24 (by decide) ?_
  refine x_pick [0, 1, 2] rfl ?_
  exact t_X10_setLimit_25 hls hC hl hE h
def f_X10_setLimit (S : mS) (a0 : Nat) (a1 : Int32) (a2 : Int32) : Option (Rs Int32) :=
  bd (f_X10_isIn S a1 (0 : Int32) (3 : Int32)) fun x1 S2 => if x1 = 0 then (f_X10_setLimit_24  S2 a0 a1 a2) else (bd (f_X10_isIn S2 a2 (0 : Int32) (2000 : Int32)) fun x5 S6 => if x5 = 0 then (f_X10_setLimit_24  S6 a0 a1 a2) else (f_X10_setLimit_25  S6 a0 a1 a2 (1 : Int32)))
set_option maxHeartbeats 2000000 in
set_option maxRecDepth 100000 in
theorem t_X10_setLimit {l : Launch} (hls : l.stackTraces = false) {C : cT} (hC : CX C cX10_setLimit 3 yX10_setLimit rm_X10_setLimit) (hl : C.2.1 = l) {S0 : mS} (hE : CE C S0 (Option.some Jvm.ClassFile.FieldType.int) []) {o : Rs Int32} {S : mS} {a0 : Nat} {a1 : Int32} {a2 : Int32} (h : f_X10_setLimit S a0 a1 a2 = some o) : XX C 3 (QQ C (fun r : Int32 => some (.int r)) S0 o) 0 0 S 0 [(0, .ref a0), (1, .int a1), (2, .int a2)] [] := by
  unfold f_X10_setLimit at h
  refine x_iload_n (pc := 0) hC 1 dX10_setLimit_0 rfl rfl ?_
  refine x_iconst (pc := 1) (v := (0 : Int32)) hC dX10_setLimit_1 (by decide) ?_
  refine x_iconst (pc := 2) (v := (3 : Int32)) hC dX10_setLimit_2 (by decide) ?_
  obtain ⟨o3, ho3, h⟩ := bd_some h
  refine x_callS (pc := 3) (As := [.int a1, .int (0 : Int32), .int (3 : Int32)]) (rest := []) hC hl (c_X10_isIn l hls ho3) lk_RX10_46 dX10_setLimit_3 rfl rfl (Nat.le_of_ble_eq_true rfl) ⟨Nat.le_of_ble_eq_true rfl, Nat.le_of_ble_eq_true rfl⟩ ⟨(Nat.le_of_ble_eq_true rfl), (Nat.le_of_ble_eq_true rfl)⟩ ?_
  rcases o3 with ⟨x1 | E4, S2⟩
  · refine xk_i ?_
    replace h := bk_l h
    refine x_if_eq (pc := 6) hC 24 dX10_setLimit_6 (by decide) (fun c10 => ?_) (fun c10 => ?_)
    · rw [if_pos c10] at h
      refine x_pick [0, 1, 2] rfl ?_
      exact t_X10_setLimit_24 hls hC hl hE h
    · rw [if_neg c10] at h
      refine x_iload_n (pc := 9) hC 2 dX10_setLimit_9 rfl rfl ?_
      refine x_iconst (pc := 10) (v := (0 : Int32)) hC dX10_setLimit_10 (by decide) ?_
      refine x_sipush (pc := 11) (v := (2000 : Int32)) hC dX10_setLimit_11 (by decide) ?_
      obtain ⟨o7, ho7, h⟩ := bd_some h
      refine x_callS (pc := 14) (As := [.int a2, .int (0 : Int32), .int (2000 : Int32)]) (rest := []) hC hl (c_X10_isIn l hls ho7) lk_RX10_46 dX10_setLimit_14 rfl rfl (Nat.le_of_ble_eq_true rfl) ⟨Nat.le_of_ble_eq_true rfl, Nat.le_of_ble_eq_true rfl⟩ ⟨(Nat.le_of_ble_eq_true rfl), (Nat.le_of_ble_eq_true rfl)⟩ ?_
      rcases o7 with ⟨x5 | E8, S6⟩
      · refine xk_i ?_
        replace h := bk_l h
        refine x_if_eq (pc := 17) hC 24 dX10_setLimit_17 (by decide) (fun c9 => ?_) (fun c9 => ?_)
        · rw [if_pos c9] at h
          refine x_pick [0, 1, 2] rfl ?_
          exact t_X10_setLimit_24 hls hC hl hE h
        · rw [if_neg c9] at h
          refine x_iconst (pc := 20) (v := (1 : Int32)) hC dX10_setLimit_20 (by decide) ?_
          refine x_goto (pc := 21) hC 25 dX10_setLimit_21 (by decide) ?_
          refine x_pick [0, 1, 2] rfl ?_
          exact t_X10_setLimit_25 hls hC hl hE h
      · exact xk_r (xt_out hC hE (bk_r h) (Nat.le_of_ble_eq_true rfl) (Nat.le_of_ble_eq_true rfl))
  · exact xk_r (xt_out hC hE (bk_r h) (Nat.le_of_ble_eq_true rfl) (Nat.le_of_ble_eq_true rfl))
theorem c_X10_setLimit (l : Launch) (hls : l.stackTraces = false) {S : mS} {a0 : Nat} {a1 : Int32} {a2 : Int32} {o : Rs Int32} (h : f_X10_setLimit S a0 a1 a2 = some o) : CT (fun r : Int32 => some (.int r)) l yX10_setLimit (.code yX10_setLimit cX10_setLimit 3 (Option.some Jvm.ClassFile.FieldType.int)) rm_X10_setLimit S [.ref a0, .int a1, .int a2] o := ct_of (by decide +kernel) hls (Nat.le_of_ble_eq_true rfl) (fun C hl hC hE => t_X10_setLimit hls hC hl hE h)
abbrev rm_X10_breaches : Room := { frames := 8, cells := 0, slots := 0, locals := 150 }
def f_X10_breaches (S : mS) (a0 : Nat) : Option (Rs Int32) :=
  gd (gK S a0 = 16) (lt9 (gR S a0 0) fun r2 => gd (gK S r2 = 14) (lt9 (gR S r2 3) fun r4 => gd (gK S r4 = 11) (lt9 (gI S r4 1) fun x6 => some (.inl x6, S))))
set_option maxHeartbeats 2000000 in
set_option maxRecDepth 100000 in
theorem t_X10_breaches {l : Launch} (hls : l.stackTraces = false) {C : cT} (hC : CX C cX10_breaches 1 yX10_breaches rm_X10_breaches) (hl : C.2.1 = l) {S0 : mS} (hE : CE C S0 (Option.some Jvm.ClassFile.FieldType.int) []) {o : Rs Int32} {S : mS} {a0 : Nat} (h : f_X10_breaches S a0 = some o) : XX C 1 (QQ C (fun r : Int32 => some (.int r)) S0 o) 0 0 S 0 [(0, .ref a0)] [] := by
  unfold f_X10_breaches at h
  refine x_aload_n (pc := 0) hC 0 dX10_breaches_0 rfl rfl ?_
  obtain ⟨g1, h⟩ := gd_some h
  refine x_getRv (pc := 1) (k := 0) hC fc_16 fl_RX10_10 dX10_breaches_1 rfl g1 (fun r2 hr2 => ?_)
  replace h := lt_x hr2 h
  obtain ⟨g3, h⟩ := gd_some h
  refine x_getRv (pc := 4) (k := 3) hC fc_14 fl_RX10_300 dX10_breaches_4 rfl g3 (fun r4 hr4 => ?_)
  replace h := lt_x hr4 h
  obtain ⟨g5, h⟩ := gd_some h
  refine x_getIv (pc := 7) (k := 1) hC fc_11 fl_RX10_309 dX10_breaches_7 rfl g5 (fun x6 hx6 => ?_)
  replace h := lt_x hx6 h
  exact x_ireturn (pc := 10) hC hE dX10_breaches_10 (so h) (Nat.le_of_ble_eq_true rfl) (Nat.le_of_ble_eq_true rfl)
theorem c_X10_breaches (l : Launch) (hls : l.stackTraces = false) {S : mS} {a0 : Nat} {o : Rs Int32} (h : f_X10_breaches S a0 = some o) : CT (fun r : Int32 => some (.int r)) l yX10_breaches (.code yX10_breaches cX10_breaches 1 (Option.some Jvm.ClassFile.FieldType.int)) rm_X10_breaches S [.ref a0] o := ct_of (by decide +kernel) hls (Nat.le_of_ble_eq_true rfl) (fun C hl hC hE => t_X10_breaches hls hC hl hE h)
abbrev rm_X10_strobe : Room := { frames := 11, cells := 1, slots := 6, locals := 216 }
def f_X10_strobe_25  (S : mS) (a0 : Nat) (a1 : Int32) (a2 : Int32) (s0 : Int32) : Option (Rs Int32) :=
  bd (f_X10_demand S s0) fun _ S2 => gd (gK S2 a0 = 16) (lt9 (gR S2 a0 2) fun r6 => gd (gK S2 r6 = 12) (bd (f_X6_note S2 r6 (26 : Int32) a1 a2 (0 : Int32)) fun _ S9 => gd (gK S9 a0 = 16) (lt9 (gR S9 a0 0) fun r13 => gd (gK S9 r13 = 14) (bd (f_X8_setLights S9 r13 a1 a2) fun x15 S16 => some (.inl x15, S16)))))
set_option maxHeartbeats 2000000 in
set_option maxRecDepth 100000 in
theorem t_X10_strobe_25 {l : Launch} (hls : l.stackTraces = false) {C : cT} (hC : CX C cX10_strobe 3 yX10_strobe rm_X10_strobe) (hl : C.2.1 = l) {S0 : mS} (hE : CE C S0 (Option.some Jvm.ClassFile.FieldType.int) []) {o : Rs Int32} {S : mS} {a0 : Nat} {a1 : Int32} {a2 : Int32} {s0 : Int32} (h : f_X10_strobe_25  S a0 a1 a2 s0 = some o) : XX C 3 (QQ C (fun r : Int32 => some (.int r)) S0 o) (0) (0) S 25 [(0, .ref a0), (1, .int a1), (2, .int a2)] [.int s0] := by
  unfold f_X10_strobe_25 at h
  obtain ⟨o3, ho3, h⟩ := bd_some h
  refine x_callS (pc := 25) (As := [.int s0]) (rest := []) hC hl (c_X10_demand l hls ho3) lk_RX10_50 dX10_strobe_25 rfl rfl (Nat.le_of_ble_eq_true rfl) ⟨Nat.le_of_ble_eq_true rfl, Nat.le_of_ble_eq_true rfl⟩ ⟨(Nat.le_of_ble_eq_true rfl), (Nat.le_of_ble_eq_true rfl)⟩ ?_
  rcases o3 with ⟨_ | E4, S2⟩
  · refine xk_v ?_
    replace h := bk_l h
    refine x_aload_n (pc := 28) hC 0 dX10_strobe_28 rfl rfl ?_
    obtain ⟨g5, h⟩ := gd_some h
    refine x_getRv (pc := 29) (k := 2) hC fc_16 fl_RX10_22 dX10_strobe_29 rfl g5 (fun r6 hr6 => ?_)
    replace h := lt_x hr6 h
    refine x_bipush (pc := 32) (v := (26 : Int32)) hC dX10_strobe_32 (by decide) ?_
    refine x_iload_n (pc := 34) hC 1 dX10_strobe_34 rfl rfl ?_
    refine x_iload_n (pc := 35) hC 2 dX10_strobe_35 rfl rfl ?_
    refine x_iconst (pc := 36) (v := (0 : Int32)) hC dX10_strobe_36 (by decide) ?_
    obtain ⟨g7, h⟩ := gd_some h
    obtain ⟨o10, ho10, h⟩ := bd_some h
    refine x_callV (pc := 37) (As := [.int (26 : Int32), .int a1, .int a2, .int (0 : Int32)]) (rest := []) hC hl (c_X6_note l hls ho10) lk_RX10_94 fc_12 g7 dX10_strobe_37 rfl rfl (Nat.le_of_ble_eq_true rfl) ⟨Nat.le_of_ble_eq_true rfl, Nat.le_of_ble_eq_true rfl⟩ ⟨(Nat.le_of_ble_eq_true rfl), (Nat.le_of_ble_eq_true rfl)⟩ ?_
    rcases o10 with ⟨_ | E11, S9⟩
    · refine xk_v ?_
      replace h := bk_l h
      refine x_aload_n (pc := 40) hC 0 dX10_strobe_40 rfl rfl ?_
      obtain ⟨g12, h⟩ := gd_some h
      refine x_getRv (pc := 41) (k := 0) hC fc_16 fl_RX10_10 dX10_strobe_41 rfl g12 (fun r13 hr13 => ?_)
      replace h := lt_x hr13 h
      refine x_iload_n (pc := 44) hC 1 dX10_strobe_44 rfl rfl ?_
      refine x_iload_n (pc := 45) hC 2 dX10_strobe_45 rfl rfl ?_
      obtain ⟨g14, h⟩ := gd_some h
      obtain ⟨o17, ho17, h⟩ := bd_some h
      refine x_callV (pc := 46) (As := [.int a1, .int a2]) (rest := []) hC hl (c_X8_setLights l hls ho17) lk_RX10_312 fc_14 g14 dX10_strobe_46 rfl rfl (Nat.le_of_ble_eq_true rfl) ⟨Nat.le_of_ble_eq_true rfl, Nat.le_of_ble_eq_true rfl⟩ ⟨(Nat.le_of_ble_eq_true rfl), (Nat.le_of_ble_eq_true rfl)⟩ ?_
      rcases o17 with ⟨x15 | E18, S16⟩
      · refine xk_i ?_
        replace h := bk_l h
        exact x_ireturn (pc := 49) hC hE dX10_strobe_49 (so h) (Nat.le_of_ble_eq_true rfl) (Nat.le_of_ble_eq_true rfl)
      · exact xk_r (xt_out hC hE (bk_r h) (Nat.le_of_ble_eq_true rfl) (Nat.le_of_ble_eq_true rfl))
    · exact xk_r (xt_out hC hE (bk_r h) (Nat.le_of_ble_eq_true rfl) (Nat.le_of_ble_eq_true rfl))
  · exact xk_r (xt_out hC hE (bk_r h) (Nat.le_of_ble_eq_true rfl) (Nat.le_of_ble_eq_true rfl))
def f_X10_strobe_24  (S : mS) (a0 : Nat) (a1 : Int32) (a2 : Int32) : Option (Rs Int32) :=
  f_X10_strobe_25  S a0 a1 a2 (0 : Int32)
set_option maxHeartbeats 2000000 in
set_option maxRecDepth 100000 in
theorem t_X10_strobe_24 {l : Launch} (hls : l.stackTraces = false) {C : cT} (hC : CX C cX10_strobe 3 yX10_strobe rm_X10_strobe) (hl : C.2.1 = l) {S0 : mS} (hE : CE C S0 (Option.some Jvm.ClassFile.FieldType.int) []) {o : Rs Int32} {S : mS} {a0 : Nat} {a1 : Int32} {a2 : Int32} (h : f_X10_strobe_24  S a0 a1 a2 = some o) : XX C 3 (QQ C (fun r : Int32 => some (.int r)) S0 o) (0) (0) S 24 [(0, .ref a0), (1, .int a1), (2, .int a2)] [] := by
  unfold f_X10_strobe_24 at h
  refine x_iconst (pc := 24) (v := (0 : Int32)) hC dX10_strobe_24 (by decide) ?_
  refine x_pick [0, 1, 2] rfl ?_
  exact t_X10_strobe_25 hls hC hl hE h
def f_X10_strobe (S : mS) (a0 : Nat) (a1 : Int32) (a2 : Int32) : Option (Rs Int32) :=
  bd (f_X10_isIn S a1 (1 : Int32) (30 : Int32)) fun x1 S2 => if x1 = 0 then (f_X10_strobe_24  S2 a0 a1 a2) else (bd (f_X10_isIn S2 a2 (0 : Int32) (7 : Int32)) fun x5 S6 => if x5 = 0 then (f_X10_strobe_24  S6 a0 a1 a2) else (f_X10_strobe_25  S6 a0 a1 a2 (1 : Int32)))
set_option maxHeartbeats 2000000 in
set_option maxRecDepth 100000 in
theorem t_X10_strobe {l : Launch} (hls : l.stackTraces = false) {C : cT} (hC : CX C cX10_strobe 3 yX10_strobe rm_X10_strobe) (hl : C.2.1 = l) {S0 : mS} (hE : CE C S0 (Option.some Jvm.ClassFile.FieldType.int) []) {o : Rs Int32} {S : mS} {a0 : Nat} {a1 : Int32} {a2 : Int32} (h : f_X10_strobe S a0 a1 a2 = some o) : XX C 3 (QQ C (fun r : Int32 => some (.int r)) S0 o) 0 0 S 0 [(0, .ref a0), (1, .int a1), (2, .int a2)] [] := by
  unfold f_X10_strobe at h
  refine x_iload_n (pc := 0) hC 1 dX10_strobe_0 rfl rfl ?_
  refine x_iconst (pc := 1) (v := (1 : Int32)) hC dX10_strobe_1 (by decide) ?_
  refine x_bipush (pc := 2) (v := (30 : Int32)) hC dX10_strobe_2 (by decide) ?_
  obtain ⟨o3, ho3, h⟩ := bd_some h
  refine x_callS (pc := 4) (As := [.int a1, .int (1 : Int32), .int (30 : Int32)]) (rest := []) hC hl (c_X10_isIn l hls ho3) lk_RX10_46 dX10_strobe_4 rfl rfl (Nat.le_of_ble_eq_true rfl) ⟨Nat.le_of_ble_eq_true rfl, Nat.le_of_ble_eq_true rfl⟩ ⟨(Nat.le_of_ble_eq_true rfl), (Nat.le_of_ble_eq_true rfl)⟩ ?_
  rcases o3 with ⟨x1 | E4, S2⟩
  · refine xk_i ?_
    replace h := bk_l h
    refine x_if_eq (pc := 7) hC 24 dX10_strobe_7 (by decide) (fun c10 => ?_) (fun c10 => ?_)
    · rw [if_pos c10] at h
      refine x_pick [0, 1, 2] rfl ?_
      exact t_X10_strobe_24 hls hC hl hE h
    · rw [if_neg c10] at h
      refine x_iload_n (pc := 10) hC 2 dX10_strobe_10 rfl rfl ?_
      refine x_iconst (pc := 11) (v := (0 : Int32)) hC dX10_strobe_11 (by decide) ?_
      refine x_bipush (pc := 12) (v := (7 : Int32)) hC dX10_strobe_12 (by decide) ?_
      obtain ⟨o7, ho7, h⟩ := bd_some h
      refine x_callS (pc := 14) (As := [.int a2, .int (0 : Int32), .int (7 : Int32)]) (rest := []) hC hl (c_X10_isIn l hls ho7) lk_RX10_46 dX10_strobe_14 rfl rfl (Nat.le_of_ble_eq_true rfl) ⟨Nat.le_of_ble_eq_true rfl, Nat.le_of_ble_eq_true rfl⟩ ⟨(Nat.le_of_ble_eq_true rfl), (Nat.le_of_ble_eq_true rfl)⟩ ?_
      rcases o7 with ⟨x5 | E8, S6⟩
      · refine xk_i ?_
        replace h := bk_l h
        refine x_if_eq (pc := 17) hC 24 dX10_strobe_17 (by decide) (fun c9 => ?_) (fun c9 => ?_)
        · rw [if_pos c9] at h
          refine x_pick [0, 1, 2] rfl ?_
          exact t_X10_strobe_24 hls hC hl hE h
        · rw [if_neg c9] at h
          refine x_iconst (pc := 20) (v := (1 : Int32)) hC dX10_strobe_20 (by decide) ?_
          refine x_goto (pc := 21) hC 25 dX10_strobe_21 (by decide) ?_
          refine x_pick [0, 1, 2] rfl ?_
          exact t_X10_strobe_25 hls hC hl hE h
      · exact xk_r (xt_out hC hE (bk_r h) (Nat.le_of_ble_eq_true rfl) (Nat.le_of_ble_eq_true rfl))
  · exact xk_r (xt_out hC hE (bk_r h) (Nat.le_of_ble_eq_true rfl) (Nat.le_of_ble_eq_true rfl))
theorem c_X10_strobe (l : Launch) (hls : l.stackTraces = false) {S : mS} {a0 : Nat} {a1 : Int32} {a2 : Int32} {o : Rs Int32} (h : f_X10_strobe S a0 a1 a2 = some o) : CT (fun r : Int32 => some (.int r)) l yX10_strobe (.code yX10_strobe cX10_strobe 3 (Option.some Jvm.ClassFile.FieldType.int)) rm_X10_strobe S [.ref a0, .int a1, .int a2] o := ct_of (by decide +kernel) hls (Nat.le_of_ble_eq_true rfl) (fun C hl hC hE => t_X10_strobe hls hC hl hE h)
abbrev rm_X10_light : Room := { frames := 11, cells := 1, slots := 6, locals := 217 }
def f_X10_light (S : mS) (a0 : Nat) : Option (Rs Int32) :=
  gd (gK S a0 = 16) (lt9 (gR S a0 0) fun r2 => gd (gK S r2 = 14) (bd (f_X8_loudestDeck S r2) fun r4 S5 => if r4 = 0 then (some (.inr "java/util/NoSuchElementException", S5)) else (gd (gK S5 a0 = 16) (lt9 (gR S5 a0 0) fun r9 => gd (gK S5 r9 = 14) (lt9 (gI S5 r9 6) fun x11 => gd (gK S5 r4 = 7) (bd (f_X1_beatNow S5 r4) fun x13 S14 => lt9 (x11 + x13) fun x17 => gd (¬ (8 : Int32) = 0) (lt9 (x17 - x17 / (8 : Int32) * (8 : Int32)) fun x18 => some (.inl x18, S14))))))))
set_option maxHeartbeats 2000000 in
set_option maxRecDepth 100000 in
theorem t_X10_light {l : Launch} (hls : l.stackTraces = false) {C : cT} (hC : CX C cX10_light 2 yX10_light rm_X10_light) (hl : C.2.1 = l) {S0 : mS} (hE : CE C S0 (Option.some Jvm.ClassFile.FieldType.int) []) {o : Rs Int32} {S : mS} {a0 : Nat} (h : f_X10_light S a0 = some o) : XX C 2 (QQ C (fun r : Int32 => some (.int r)) S0 o) 0 0 S 0 [(0, .ref a0)] [] := by
  unfold f_X10_light at h
  refine x_aload_n (pc := 0) hC 0 dX10_light_0 rfl rfl ?_
  obtain ⟨g1, h⟩ := gd_some h
  refine x_getRv (pc := 1) (k := 0) hC fc_16 fl_RX10_10 dX10_light_1 rfl g1 (fun r2 hr2 => ?_)
  replace h := lt_x hr2 h
  obtain ⟨g3, h⟩ := gd_some h
  obtain ⟨o6, ho6, h⟩ := bd_some h
  refine x_callV (pc := 4) (As := []) (rest := []) hC hl (c_X8_loudestDeck l hls ho6) lk_RX10_315 fc_14 g3 dX10_light_4 rfl rfl (Nat.le_of_ble_eq_true rfl) ⟨Nat.le_of_ble_eq_true rfl, Nat.le_of_ble_eq_true rfl⟩ ⟨(Nat.le_of_ble_eq_true rfl), (Nat.le_of_ble_eq_true rfl)⟩ ?_
  rcases o6 with ⟨r4 | E7, S5⟩
  · refine xk_a ?_
    replace h := bk_l h
    refine x_astore_n (pc := 7) hC dX10_light_7 rfl (by decide) (by decide) rfl ?_
    refine x_aload_n (pc := 8) hC 0 dX10_light_8 rfl rfl ?_
    refine x_ifnonnull (pc := 9) hC 23 dX10_light_9 (by decide) (fun c20 => ?_) (fun c20 => ?_)
    · rw [if_neg c20] at h
      refine x_aload_n (pc := 23) hC 1 dX10_light_23 rfl rfl ?_
      obtain ⟨g8, h⟩ := gd_some h
      refine x_getRv (pc := 24) (k := 0) hC fc_16 fl_RX10_10 dX10_light_24 rfl g8 (fun r9 hr9 => ?_)
      replace h := lt_x hr9 h
      obtain ⟨g10, h⟩ := gd_some h
      refine x_getIv (pc := 27) (k := 6) hC fc_14 fl_RX10_321 dX10_light_27 rfl g10 (fun x11 hx11 => ?_)
      replace h := lt_x hx11 h
      refine x_aload_n (pc := 30) hC 0 dX10_light_30 rfl rfl ?_
      obtain ⟨g12, h⟩ := gd_some h
      obtain ⟨o15, ho15, h⟩ := bd_some h
      refine x_callV (pc := 31) (As := []) (rest := [.int x11]) hC hl (c_X1_beatNow l hls ho15) lk_RX10_324 fc_7 g12 dX10_light_31 rfl rfl (Nat.le_of_ble_eq_true rfl) ⟨Nat.le_of_ble_eq_true rfl, Nat.le_of_ble_eq_true rfl⟩ ⟨(Nat.le_of_ble_eq_true rfl), (Nat.le_of_ble_eq_true rfl)⟩ ?_
      rcases o15 with ⟨x13 | E16, S14⟩
      · refine xk_i ?_
        replace h := bk_l h
        refine x_iaddv (pc := 34) hC dX10_light_34 (fun x17 hx17 => ?_)
        replace h := lt_x hx17 h
        refine x_bipush (pc := 35) (v := (8 : Int32)) hC dX10_light_35 (by decide) ?_
        obtain ⟨g19, h⟩ := gd_some h
        refine x_iremv (pc := 37) hC dX10_light_37 g19 (fun x18 hx18 => ?_)
        replace h := lt_x hx18 h
        exact x_ireturn (pc := 38) hC hE dX10_light_38 (so h) (Nat.le_of_ble_eq_true rfl) (Nat.le_of_ble_eq_true rfl)
      · exact xk_r (xt_out hC hE (bk_r h) (Nat.le_of_ble_eq_true rfl) (Nat.le_of_ble_eq_true rfl))
    · rw [if_pos c20] at h
      exact x_throwNSW (pc := 12) hC hE th_RX10_189_193_319 dX10_light_12 dX10_light_15 dX10_light_16 dX10_light_19 dX10_light_22 (so h) (Nat.le_of_ble_eq_true rfl) (Nat.le_of_ble_eq_true rfl) (Nat.le_of_ble_eq_true rfl) (Nat.le_of_ble_eq_true rfl)
  · exact xk_r (xt_out hC hE (bk_r h) (Nat.le_of_ble_eq_true rfl) (Nat.le_of_ble_eq_true rfl))
theorem c_X10_light (l : Launch) (hls : l.stackTraces = false) {S : mS} {a0 : Nat} {o : Rs Int32} (h : f_X10_light S a0 = some o) : CT (fun r : Int32 => some (.int r)) l yX10_light (.code yX10_light cX10_light 2 (Option.some Jvm.ClassFile.FieldType.int)) rm_X10_light S [.ref a0] o := ct_of (by decide +kernel) hls (Nat.le_of_ble_eq_true rfl) (fun C hl hC hE => t_X10_light hls hC hl hE h)
abbrev rm_X10_searchFrom : Room := { frames := 11, cells := 4, slots := 24, locals := 217 }
def f_X10_searchFrom (S : mS) (a0 : Nat) (a1 : Int32) (a2 : Int32) : Option (Rs Unit) :=
  gd (gK S a0 = 16) (bd (f_X10_deckOf S a0 a1) fun r2 S3 => bd (f_X10_isIn S3 a2 (1 : Int32) (4 : Int32)) fun x6 S7 => bd (f_X10_demand S7 x6) fun _ S11 => bd (f_X10_demandRecord S11 r2) fun _ S15 => gd (gK S15 a0 = 16) (lt9 (gR S15 a0 4) fun r19 => gd (gK S15 r2 = 7) (lt9 (gR S15 r2 2) fun r21 => gd (gK S15 r19 = 15) (bd (f_X9_look S15 r19 r21 a2) fun x23 S24 => if x23 = 0 then (some (.inr "java/util/NoSuchElementException", S24)) else (some (.inl (), S24))))))
set_option maxHeartbeats 2000000 in
set_option maxRecDepth 100000 in
theorem t_X10_searchFrom {l : Launch} (hls : l.stackTraces = false) {C : cT} (hC : CX C cX10_searchFrom 4 yX10_searchFrom rm_X10_searchFrom) (hl : C.2.1 = l) {S0 : mS} (hE : CE C S0 (Option.none : Option Jvm.ClassFile.FieldType) []) {o : Rs Unit} {S : mS} {a0 : Nat} {a1 : Int32} {a2 : Int32} (h : f_X10_searchFrom S a0 a1 a2 = some o) : XX C 4 (QQ C (fun _ : Unit => none) S0 o) 0 0 S 0 [(0, .ref a0), (1, .int a1), (2, .int a2)] [] := by
  unfold f_X10_searchFrom at h
  refine x_aload_n (pc := 0) hC 0 dX10_searchFrom_0 rfl rfl ?_
  refine x_iload_n (pc := 1) hC 1 dX10_searchFrom_1 rfl rfl ?_
  obtain ⟨g1, h⟩ := gd_some h
  obtain ⟨o4, ho4, h⟩ := bd_some h
  refine x_callV (pc := 2) (As := [.int a1]) (rest := []) hC hl (c_X10_deckOf l hls ho4) lk_RX10_119 fc_16 g1 dX10_searchFrom_2 rfl rfl (Nat.le_of_ble_eq_true rfl) ⟨Nat.le_of_ble_eq_true rfl, Nat.le_of_ble_eq_true rfl⟩ ⟨(Nat.le_of_ble_eq_true rfl), (Nat.le_of_ble_eq_true rfl)⟩ ?_
  rcases o4 with ⟨r2 | E5, S3⟩
  · refine xk_a ?_
    replace h := bk_l h
    refine x_astore_n (pc := 5) hC dX10_searchFrom_5 rfl (by decide) (by decide) rfl ?_
    refine x_iload_n (pc := 6) hC 3 dX10_searchFrom_6 rfl rfl ?_
    refine x_iconst (pc := 7) (v := (1 : Int32)) hC dX10_searchFrom_7 (by decide) ?_
    refine x_iconst (pc := 8) (v := (4 : Int32)) hC dX10_searchFrom_8 (by decide) ?_
    obtain ⟨o8, ho8, h⟩ := bd_some h
    refine x_callS (pc := 9) (As := [.int a2, .int (1 : Int32), .int (4 : Int32)]) (rest := []) hC hl (c_X10_isIn l hls ho8) lk_RX10_46 dX10_searchFrom_9 rfl rfl (Nat.le_of_ble_eq_true rfl) ⟨Nat.le_of_ble_eq_true rfl, Nat.le_of_ble_eq_true rfl⟩ ⟨(Nat.le_of_ble_eq_true rfl), (Nat.le_of_ble_eq_true rfl)⟩ ?_
    rcases o8 with ⟨x6 | E9, S7⟩
    · refine xk_i ?_
      replace h := bk_l h
      obtain ⟨o12, ho12, h⟩ := bd_some h
      refine x_callS (pc := 12) (As := [.int x6]) (rest := []) hC hl (c_X10_demand l hls ho12) lk_RX10_50 dX10_searchFrom_12 rfl rfl (Nat.le_of_ble_eq_true rfl) ⟨Nat.le_of_ble_eq_true rfl, Nat.le_of_ble_eq_true rfl⟩ ⟨(Nat.le_of_ble_eq_true rfl), (Nat.le_of_ble_eq_true rfl)⟩ ?_
      rcases o12 with ⟨_ | E13, S11⟩
      · refine xk_v ?_
        replace h := bk_l h
        refine x_aload_n (pc := 15) hC 0 dX10_searchFrom_15 rfl rfl ?_
        obtain ⟨o16, ho16, h⟩ := bd_some h
        refine x_callS (pc := 16) (As := [.ref r2]) (rest := []) hC hl (c_X10_demandRecord l hls ho16) lk_RX10_135 dX10_searchFrom_16 rfl rfl (Nat.le_of_ble_eq_true rfl) ⟨Nat.le_of_ble_eq_true rfl, Nat.le_of_ble_eq_true rfl⟩ ⟨(Nat.le_of_ble_eq_true rfl), (Nat.le_of_ble_eq_true rfl)⟩ ?_
        rcases o16 with ⟨_ | E17, S15⟩
        · refine xk_v ?_
          replace h := bk_l h
          refine x_aload_n (pc := 19) hC 1 dX10_searchFrom_19 rfl rfl ?_
          obtain ⟨g18, h⟩ := gd_some h
          refine x_getRv (pc := 20) (k := 4) hC fc_16 fl_RX10_38 dX10_searchFrom_20 rfl g18 (fun r19 hr19 => ?_)
          replace h := lt_x hr19 h
          refine x_aload_n (pc := 23) hC 0 dX10_searchFrom_23 rfl rfl ?_
          obtain ⟨g20, h⟩ := gd_some h
          refine x_getRv (pc := 24) (k := 2) hC fc_7 fl_RX10_185 dX10_searchFrom_24 rfl g20 (fun r21 hr21 => ?_)
          replace h := lt_x hr21 h
          refine x_iload_n (pc := 27) hC 3 dX10_searchFrom_27 rfl rfl ?_
          obtain ⟨g22, h⟩ := gd_some h
          obtain ⟨o25, ho25, h⟩ := bd_some h
          refine x_callV (pc := 28) (As := [.ref r21, .int a2]) (rest := []) hC hl (c_X9_look l hls ho25) lk_RX10_448 fc_15 g22 dX10_searchFrom_28 rfl rfl (Nat.le_of_ble_eq_true rfl) ⟨Nat.le_of_ble_eq_true rfl, Nat.le_of_ble_eq_true rfl⟩ ⟨(Nat.le_of_ble_eq_true rfl), (Nat.le_of_ble_eq_true rfl)⟩ ?_
          rcases o25 with ⟨x23 | E26, S24⟩
          · refine xk_i ?_
            replace h := bk_l h
            refine x_if_ne (pc := 31) hC 45 dX10_searchFrom_31 (by decide) (fun c27 => ?_) (fun c27 => ?_)
            · rw [if_neg c27] at h
              exact x_vreturn (pc := 45) hC hE dX10_searchFrom_45 (so h) (Nat.le_of_ble_eq_true rfl) (Nat.le_of_ble_eq_true rfl)
            · rw [if_pos c27] at h
              exact x_throwNSW (pc := 34) hC hE th_RX10_189_193_452 dX10_searchFrom_34 dX10_searchFrom_37 dX10_searchFrom_38 dX10_searchFrom_41 dX10_searchFrom_44 (so h) (Nat.le_of_ble_eq_true rfl) (Nat.le_of_ble_eq_true rfl) (Nat.le_of_ble_eq_true rfl) (Nat.le_of_ble_eq_true rfl)
          · exact xk_r (xt_out hC hE (bk_r h) (Nat.le_of_ble_eq_true rfl) (Nat.le_of_ble_eq_true rfl))
        · exact xk_r (xt_out hC hE (bk_r h) (Nat.le_of_ble_eq_true rfl) (Nat.le_of_ble_eq_true rfl))
      · exact xk_r (xt_out hC hE (bk_r h) (Nat.le_of_ble_eq_true rfl) (Nat.le_of_ble_eq_true rfl))
    · exact xk_r (xt_out hC hE (bk_r h) (Nat.le_of_ble_eq_true rfl) (Nat.le_of_ble_eq_true rfl))
  · exact xk_r (xt_out hC hE (bk_r h) (Nat.le_of_ble_eq_true rfl) (Nat.le_of_ble_eq_true rfl))
theorem c_X10_searchFrom (l : Launch) (hls : l.stackTraces = false) {S : mS} {a0 : Nat} {a1 : Int32} {a2 : Int32} {o : Rs Unit} (h : f_X10_searchFrom S a0 a1 a2 = some o) : CT (fun _ : Unit => none) l yX10_searchFrom (.code yX10_searchFrom cX10_searchFrom 4 (Option.none : Option Jvm.ClassFile.FieldType)) rm_X10_searchFrom S [.ref a0, .int a1, .int a2] o := ct_of (by decide +kernel) hls (Nat.le_of_ble_eq_true rfl) (fun C hl hC hE => t_X10_searchFrom hls hC hl hE h)
abbrev rm_X10_next : Room := { frames := 12, cells := 4, slots := 24, locals := 240 }
def f_X10_next (S : mS) (a0 : Nat) (a1 : Int32) (a2 : Int32) : Option (Rs Int32) :=
  gd (gK S a0 = 16) (bd (f_X10_searchFrom S a0 a1 a2) fun _ S3 => gd (gK S3 a0 = 16) (lt9 (gR S3 a0 4) fun r7 => gd (gK S3 r7 = 15) (bd (f_X9_firstOfRow S3 r7) fun x9 S10 => some (.inl x9, S10))))
set_option maxHeartbeats 2000000 in
set_option maxRecDepth 100000 in
theorem t_X10_next {l : Launch} (hls : l.stackTraces = false) {C : cT} (hC : CX C cX10_next 3 yX10_next rm_X10_next) (hl : C.2.1 = l) {S0 : mS} (hE : CE C S0 (Option.some Jvm.ClassFile.FieldType.int) []) {o : Rs Int32} {S : mS} {a0 : Nat} {a1 : Int32} {a2 : Int32} (h : f_X10_next S a0 a1 a2 = some o) : XX C 3 (QQ C (fun r : Int32 => some (.int r)) S0 o) 0 0 S 0 [(0, .ref a0), (1, .int a1), (2, .int a2)] [] := by
  unfold f_X10_next at h
  refine x_aload_n (pc := 0) hC 0 dX10_next_0 rfl rfl ?_
  refine x_iload_n (pc := 1) hC 1 dX10_next_1 rfl rfl ?_
  refine x_iload_n (pc := 2) hC 2 dX10_next_2 rfl rfl ?_
  obtain ⟨g1, h⟩ := gd_some h
  obtain ⟨o4, ho4, h⟩ := bd_some h
  refine x_callV (pc := 3) (As := [.int a1, .int a2]) (rest := []) hC hl (c_X10_searchFrom l hls ho4) lk_RX10_327 fc_16 g1 dX10_next_3 rfl rfl (Nat.le_of_ble_eq_true rfl) ⟨Nat.le_of_ble_eq_true rfl, Nat.le_of_ble_eq_true rfl⟩ ⟨(Nat.le_of_ble_eq_true rfl), (Nat.le_of_ble_eq_true rfl)⟩ ?_
  rcases o4 with ⟨_ | E5, S3⟩
  · refine xk_v ?_
    replace h := bk_l h
    refine x_aload_n (pc := 6) hC 0 dX10_next_6 rfl rfl ?_
    obtain ⟨g6, h⟩ := gd_some h
    refine x_getRv (pc := 7) (k := 4) hC fc_16 fl_RX10_38 dX10_next_7 rfl g6 (fun r7 hr7 => ?_)
    replace h := lt_x hr7 h
    obtain ⟨g8, h⟩ := gd_some h
    obtain ⟨o11, ho11, h⟩ := bd_some h
    refine x_callV (pc := 10) (As := []) (rest := []) hC hl (c_X9_firstOfRow l hls ho11) lk_RX10_331 fc_15 g8 dX10_next_10 rfl rfl (Nat.le_of_ble_eq_true rfl) ⟨Nat.le_of_ble_eq_true rfl, Nat.le_of_ble_eq_true rfl⟩ ⟨(Nat.le_of_ble_eq_true rfl), (Nat.le_of_ble_eq_true rfl)⟩ ?_
    rcases o11 with ⟨x9 | E12, S10⟩
    · refine xk_i ?_
      replace h := bk_l h
      exact x_ireturn (pc := 13) hC hE dX10_next_13 (so h) (Nat.le_of_ble_eq_true rfl) (Nat.le_of_ble_eq_true rfl)
    · exact xk_r (xt_out hC hE (bk_r h) (Nat.le_of_ble_eq_true rfl) (Nat.le_of_ble_eq_true rfl))
  · exact xk_r (xt_out hC hE (bk_r h) (Nat.le_of_ble_eq_true rfl) (Nat.le_of_ble_eq_true rfl))
theorem c_X10_next (l : Launch) (hls : l.stackTraces = false) {S : mS} {a0 : Nat} {a1 : Int32} {a2 : Int32} {o : Rs Int32} (h : f_X10_next S a0 a1 a2 = some o) : CT (fun r : Int32 => some (.int r)) l yX10_next (.code yX10_next cX10_next 3 (Option.some Jvm.ClassFile.FieldType.int)) rm_X10_next S [.ref a0, .int a1, .int a2] o := ct_of (by decide +kernel) hls (Nat.le_of_ble_eq_true rfl) (fun C hl hC hE => t_X10_next hls hC hl hE h)
abbrev rm_X10_cost : Room := { frames := 12, cells := 4, slots := 24, locals := 240 }
def f_X10_cost (S : mS) (a0 : Nat) (a1 : Int32) (a2 : Int32) : Option (Rs Int32) :=
  gd (gK S a0 = 16) (bd (f_X10_searchFrom S a0 a1 a2) fun _ S3 => gd (gK S3 a0 = 16) (lt9 (gR S3 a0 4) fun r7 => gd (gK S3 r7 = 15) (lt9 (gI S3 r7 5) fun x9 => some (.inl x9, S3))))
set_option maxHeartbeats 2000000 in
set_option maxRecDepth 100000 in
theorem t_X10_cost {l : Launch} (hls : l.stackTraces = false) {C : cT} (hC : CX C cX10_cost 3 yX10_cost rm_X10_cost) (hl : C.2.1 = l) {S0 : mS} (hE : CE C S0 (Option.some Jvm.ClassFile.FieldType.int) []) {o : Rs Int32} {S : mS} {a0 : Nat} {a1 : Int32} {a2 : Int32} (h : f_X10_cost S a0 a1 a2 = some o) : XX C 3 (QQ C (fun r : Int32 => some (.int r)) S0 o) 0 0 S 0 [(0, .ref a0), (1, .int a1), (2, .int a2)] [] := by
  unfold f_X10_cost at h
  refine x_aload_n (pc := 0) hC 0 dX10_cost_0 rfl rfl ?_
  refine x_iload_n (pc := 1) hC 1 dX10_cost_1 rfl rfl ?_
  refine x_iload_n (pc := 2) hC 2 dX10_cost_2 rfl rfl ?_
  obtain ⟨g1, h⟩ := gd_some h
  obtain ⟨o4, ho4, h⟩ := bd_some h
  refine x_callV (pc := 3) (As := [.int a1, .int a2]) (rest := []) hC hl (c_X10_searchFrom l hls ho4) lk_RX10_327 fc_16 g1 dX10_cost_3 rfl rfl (Nat.le_of_ble_eq_true rfl) ⟨Nat.le_of_ble_eq_true rfl, Nat.le_of_ble_eq_true rfl⟩ ⟨(Nat.le_of_ble_eq_true rfl), (Nat.le_of_ble_eq_true rfl)⟩ ?_
  rcases o4 with ⟨_ | E5, S3⟩
  · refine xk_v ?_
    replace h := bk_l h
    refine x_aload_n (pc := 6) hC 0 dX10_cost_6 rfl rfl ?_
    obtain ⟨g6, h⟩ := gd_some h
    refine x_getRv (pc := 7) (k := 4) hC fc_16 fl_RX10_38 dX10_cost_7 rfl g6 (fun r7 hr7 => ?_)
    replace h := lt_x hr7 h
    obtain ⟨g8, h⟩ := gd_some h
    refine x_getIv (pc := 10) (k := 5) hC fc_15 fl_RX10_334 dX10_cost_10 rfl g8 (fun x9 hx9 => ?_)
    replace h := lt_x hx9 h
    exact x_ireturn (pc := 13) hC hE dX10_cost_13 (so h) (Nat.le_of_ble_eq_true rfl) (Nat.le_of_ble_eq_true rfl)
  · exact xk_r (xt_out hC hE (bk_r h) (Nat.le_of_ble_eq_true rfl) (Nat.le_of_ble_eq_true rfl))
theorem c_X10_cost (l : Launch) (hls : l.stackTraces = false) {S : mS} {a0 : Nat} {a1 : Int32} {a2 : Int32} {o : Rs Int32} (h : f_X10_cost S a0 a1 a2 = some o) : CT (fun r : Int32 => some (.int r)) l yX10_cost (.code yX10_cost cX10_cost 3 (Option.some Jvm.ClassFile.FieldType.int)) rm_X10_cost S [.ref a0, .int a1, .int a2] o := ct_of (by decide +kernel) hls (Nat.le_of_ble_eq_true rfl) (fun C hl hC hE => t_X10_cost hls hC hl hE h)
abbrev rm_X10_type : Room := { frames := 9, cells := 1, slots := 6, locals := 171 }
def f_X10_type (S : mS) (a0 : Nat) (a1 : Int32) : Option (Rs Int32) :=
  gd (gK S a0 = 16) (lt9 (gR S a0 3) fun r2 => gd (gK S r2 = 13) (lt9 (gI S r2 4) fun x4 => lt9 (gR S a0 3) fun r5 => gd (gK S r5 = 13) (lt9 (gR S r5 0) fun r7 => gd (gK S r7 = 31) (lt9 (Int32.ofNat (gZ S r7)) fun x9 => if x4 < x9 then (lt9 (gR S a0 3) fun r10 => gd (gK S r10 = 13) (bd (f_X7_append S r10 a1) fun x12 S13 => some (.inl x12, S13))) else (some (.inr "java/lang/IllegalStateException", S))))))
set_option maxHeartbeats 2000000 in
set_option maxRecDepth 100000 in
theorem t_X10_type {l : Launch} (hls : l.stackTraces = false) {C : cT} (hC : CX C cX10_type 2 yX10_type rm_X10_type) (hl : C.2.1 = l) {S0 : mS} (hE : CE C S0 (Option.some Jvm.ClassFile.FieldType.int) []) {o : Rs Int32} {S : mS} {a0 : Nat} {a1 : Int32} (h : f_X10_type S a0 a1 = some o) : XX C 2 (QQ C (fun r : Int32 => some (.int r)) S0 o) 0 0 S 0 [(0, .ref a0), (1, .int a1)] [] := by
  unfold f_X10_type at h
  refine x_aload_n (pc := 0) hC 0 dX10_type_0 rfl rfl ?_
  obtain ⟨g1, h⟩ := gd_some h
  refine x_getRv (pc := 1) (k := 3) hC fc_16 fl_RX10_29 dX10_type_1 rfl g1 (fun r2 hr2 => ?_)
  replace h := lt_x hr2 h
  obtain ⟨g3, h⟩ := gd_some h
  refine x_getIv (pc := 4) (k := 4) hC fc_13 fl_RX10_337 dX10_type_4 rfl g3 (fun x4 hx4 => ?_)
  replace h := lt_x hx4 h
  refine x_aload_n (pc := 7) hC 0 dX10_type_7 rfl rfl ?_
  refine x_getRv (pc := 8) (k := 3) hC fc_16 fl_RX10_29 dX10_type_8 rfl g1 (fun r5 hr5 => ?_)
  replace h := lt_x hr5 h
  obtain ⟨g6, h⟩ := gd_some h
  refine x_getRv (pc := 11) (k := 0) hC fc_13 fl_RX10_340 dX10_type_11 rfl g6 (fun r7 hr7 => ?_)
  replace h := lt_x hr7 h
  obtain ⟨g8, h⟩ := gd_some h
  refine x_alenv (pc := 14) (t0 := 1) hC dX10_type_14 g8 (by decide) (fun _ => rfl) (fun x9 hx9 => ?_)
  replace h := lt_x hx9 h
  refine x_icmp_lt (pc := 15) hC 29 dX10_type_15 (by decide) (fun c16 => ?_) (fun c16 => ?_)
  · rw [if_pos c16] at h
    refine x_aload_n (pc := 29) hC 0 dX10_type_29 rfl rfl ?_
    refine x_getRv (pc := 30) (k := 3) hC fc_16 fl_RX10_29 dX10_type_30 rfl g1 (fun r10 hr10 => ?_)
    replace h := lt_x hr10 h
    refine x_iload_n (pc := 33) hC 1 dX10_type_33 rfl rfl ?_
    obtain ⟨g11, h⟩ := gd_some h
    obtain ⟨o14, ho14, h⟩ := bd_some h
    refine x_callV (pc := 34) (As := [.int a1]) (rest := []) hC hl (c_X7_append l hls ho14) lk_RX10_346 fc_13 g11 dX10_type_34 rfl rfl (Nat.le_of_ble_eq_true rfl) ⟨Nat.le_of_ble_eq_true rfl, Nat.le_of_ble_eq_true rfl⟩ ⟨(Nat.le_of_ble_eq_true rfl), (Nat.le_of_ble_eq_true rfl)⟩ ?_
    rcases o14 with ⟨x12 | E15, S13⟩
    · refine xk_i ?_
      replace h := bk_l h
      exact x_ireturn (pc := 37) hC hE dX10_type_37 (so h) (Nat.le_of_ble_eq_true rfl) (Nat.le_of_ble_eq_true rfl)
    · exact xk_r (xt_out hC hE (bk_r h) (Nat.le_of_ble_eq_true rfl) (Nat.le_of_ble_eq_true rfl))
  · rw [if_neg c16] at h
    exact x_throwSW (pc := 18) hC hE th_RX10_63_67_344 dX10_type_18 dX10_type_21 dX10_type_22 dX10_type_25 dX10_type_28 (so h) (Nat.le_of_ble_eq_true rfl) (Nat.le_of_ble_eq_true rfl) (Nat.le_of_ble_eq_true rfl) (Nat.le_of_ble_eq_true rfl)
theorem c_X10_type (l : Launch) (hls : l.stackTraces = false) {S : mS} {a0 : Nat} {a1 : Int32} {o : Rs Int32} (h : f_X10_type S a0 a1 = some o) : CT (fun r : Int32 => some (.int r)) l yX10_type (.code yX10_type cX10_type 2 (Option.some Jvm.ClassFile.FieldType.int)) rm_X10_type S [.ref a0, .int a1] o := ct_of (by decide +kernel) hls (Nat.le_of_ble_eq_true rfl) (fun C hl hC hE => t_X10_type hls hC hl hE h)
abbrev rm_X10_wipe : Room := { frames := 9, cells := 0, slots := 0, locals := 171 }
def f_X10_wipe (S : mS) (a0 : Nat) : Option (Rs Int32) :=
  gd (gK S a0 = 16) (lt9 (gR S a0 3) fun r2 => gd (gK S r2 = 13) (bd (f_X7_empty S r2) fun x4 S5 => some (.inl x4, S5)))
set_option maxHeartbeats 2000000 in
set_option maxRecDepth 100000 in
theorem t_X10_wipe {l : Launch} (hls : l.stackTraces = false) {C : cT} (hC : CX C cX10_wipe 1 yX10_wipe rm_X10_wipe) (hl : C.2.1 = l) {S0 : mS} (hE : CE C S0 (Option.some Jvm.ClassFile.FieldType.int) []) {o : Rs Int32} {S : mS} {a0 : Nat} (h : f_X10_wipe S a0 = some o) : XX C 1 (QQ C (fun r : Int32 => some (.int r)) S0 o) 0 0 S 0 [(0, .ref a0)] [] := by
  unfold f_X10_wipe at h
  refine x_aload_n (pc := 0) hC 0 dX10_wipe_0 rfl rfl ?_
  obtain ⟨g1, h⟩ := gd_some h
  refine x_getRv (pc := 1) (k := 3) hC fc_16 fl_RX10_29 dX10_wipe_1 rfl g1 (fun r2 hr2 => ?_)
  replace h := lt_x hr2 h
  obtain ⟨g3, h⟩ := gd_some h
  obtain ⟨o6, ho6, h⟩ := bd_some h
  refine x_callV (pc := 4) (As := []) (rest := []) hC hl (c_X7_empty l hls ho6) lk_RX10_350 fc_13 g3 dX10_wipe_4 rfl rfl (Nat.le_of_ble_eq_true rfl) ⟨Nat.le_of_ble_eq_true rfl, Nat.le_of_ble_eq_true rfl⟩ ⟨(Nat.le_of_ble_eq_true rfl), (Nat.le_of_ble_eq_true rfl)⟩ ?_
  rcases o6 with ⟨x4 | E7, S5⟩
  · refine xk_i ?_
    replace h := bk_l h
    exact x_ireturn (pc := 7) hC hE dX10_wipe_7 (so h) (Nat.le_of_ble_eq_true rfl) (Nat.le_of_ble_eq_true rfl)
  · exact xk_r (xt_out hC hE (bk_r h) (Nat.le_of_ble_eq_true rfl) (Nat.le_of_ble_eq_true rfl))
theorem c_X10_wipe (l : Launch) (hls : l.stackTraces = false) {S : mS} {a0 : Nat} {o : Rs Int32} (h : f_X10_wipe S a0 = some o) : CT (fun r : Int32 => some (.int r)) l yX10_wipe (.code yX10_wipe cX10_wipe 1 (Option.some Jvm.ClassFile.FieldType.int)) rm_X10_wipe S [.ref a0] o := ct_of (by decide +kernel) hls (Nat.le_of_ble_eq_true rfl) (fun C hl hC hE => t_X10_wipe hls hC hl hE h)
abbrev rm_X10_perform : Room := { frames := 14, cells := 1, slots := 6, locals := 290 }
def f_X10_perform (S : mS) (a0 : Nat) : Option (Rs Int32) :=
  gd (gK S a0 = 16) (lt9 (gR S a0 3) fun r2 => gd (gK S r2 = 13) (bd (f_X7_isReadable S r2) fun x4 S5 => if x4 = 0 then (some (.inr "java/lang/IllegalArgumentException", S5)) else (gd (gK S5 a0 = 16) (lt9 (gR S5 a0 3) fun r9 => lt9 (gR S5 a0 0) fun r10 => gd (gK S5 r10 = 14) (lt9 (gR S5 r10 1) fun r12 => gd (gK S5 r9 = 13) (bd (f_X7_canBeDone S5 r9 r12) fun x14 S15 => if x14 = 0 then (some (.inr "java/lang/UnsupportedOperationException", S15)) else (gd (gK S15 a0 = 16) (lt9 (gR S15 a0 2) fun r19 => lt9 (gR S15 a0 3) fun r20 => gd (gK S15 r20 = 13) (lt9 (gR S15 r20 0) fun r22 => lt9 (gR S15 a0 3) fun r23 => gd (gK S15 r23 = 13) (lt9 (gI S15 r23 4) fun x25 => gd (gK S15 r19 = 12) (bd (f_X6_noteText S15 r19 r22 x25) fun x27 S28 => gd (gK S28 a0 = 16) (lt9 (gR S28 a0 2) fun r32 => lt9 (gR S28 a0 3) fun r33 => gd (gK S28 r33 = 13) (lt9 (gI S28 r33 4) fun x35 => lt9 (x27 + x35) fun x36 => gd (gK S28 r32 = 12) (bd (f_X6_note S28 r32 (27 : Int32) x27 x36 (0 : Int32)) fun _ S39 => gd (gK S39 a0 = 16) (lt9 (gR S39 a0 3) fun r43 => lt9 (gR S39 a0 0) fun r44 => gd (gK S39 r44 = 14) (lt9 (gR S39 r44 1) fun r46 => lt9 (gR S39 a0 3) fun r47 => gd (gK S39 r47 = 13) (lt9 (gR S39 r47 0) fun r49 => lt9 (gR S39 a0 3) fun r50 => gd (gK S39 r50 = 13) (lt9 (gI S39 r50 4) fun x52 => gd (gK S39 r43 = 13) (bd (f_X7_doAll S39 r43 r46 r49 (0 : Int32) x52) fun x54 S55 => gd (gK S55 a0 = 16) (lt9 (gR S55 a0 3) fun r59 => gd (gK S55 r59 = 13) (bd (f_X7_empty S55 r59) fun x61 S62 => some (.inl x54, S62))))))))))))))))))))))
set_option maxHeartbeats 2000000 in
set_option maxRecDepth 100000 in
theorem t_X10_perform {l : Launch} (hls : l.stackTraces = false) {C : cT} (hC : CX C cX10_perform 3 yX10_perform rm_X10_perform) (hl : C.2.1 = l) {S0 : mS} (hE : CE C S0 (Option.some Jvm.ClassFile.FieldType.int) []) {o : Rs Int32} {S : mS} {a0 : Nat} (h : f_X10_perform S a0 = some o) : XX C 3 (QQ C (fun r : Int32 => some (.int r)) S0 o) 0 0 S 0 [(0, .ref a0)] [] := by
  unfold f_X10_perform at h
  refine x_aload_n (pc := 0) hC 0 dX10_perform_0 rfl rfl ?_
  obtain ⟨g1, h⟩ := gd_some h
  refine x_getRv (pc := 1) (k := 3) hC fc_16 fl_RX10_29 dX10_perform_1 rfl g1 (fun r2 hr2 => ?_)
  replace h := lt_x hr2 h
  obtain ⟨g3, h⟩ := gd_some h
  obtain ⟨o6, ho6, h⟩ := bd_some h
  refine x_callV (pc := 4) (As := []) (rest := []) hC hl (c_X7_isReadable l hls ho6) lk_RX10_353 fc_13 g3 dX10_perform_4 rfl rfl (Nat.le_of_ble_eq_true rfl) ⟨Nat.le_of_ble_eq_true rfl, Nat.le_of_ble_eq_true rfl⟩ ⟨(Nat.le_of_ble_eq_true rfl), (Nat.le_of_ble_eq_true rfl)⟩ ?_
  rcases o6 with ⟨x4 | E7, S5⟩
  · refine xk_i ?_
    replace h := bk_l h
    refine x_if_ne (pc := 7) hC 21 dX10_perform_7 (by decide) (fun c66 => ?_) (fun c66 => ?_)
    · rw [if_neg c66] at h
      refine x_aload_n (pc := 21) hC 0 dX10_perform_21 rfl rfl ?_
      obtain ⟨g8, h⟩ := gd_some h
      refine x_getRv (pc := 22) (k := 3) hC fc_16 fl_RX10_29 dX10_perform_22 rfl g8 (fun r9 hr9 => ?_)
      replace h := lt_x hr9 h
      refine x_aload_n (pc := 25) hC 0 dX10_perform_25 rfl rfl ?_
      refine x_getRv (pc := 26) (k := 0) hC fc_16 fl_RX10_10 dX10_perform_26 rfl g8 (fun r10 hr10 => ?_)
      replace h := lt_x hr10 h
      obtain ⟨g11, h⟩ := gd_some h
      refine x_getRv (pc := 29) (k := 1) hC fc_14 fl_RX10_361 dX10_perform_29 rfl g11 (fun r12 hr12 => ?_)
      replace h := lt_x hr12 h
      obtain ⟨g13, h⟩ := gd_some h
      obtain ⟨o16, ho16, h⟩ := bd_some h
      refine x_callV (pc := 32) (As := [.ref r12]) (rest := []) hC hl (c_X7_canBeDone l hls ho16) lk_RX10_365 fc_13 g13 dX10_perform_32 rfl rfl (Nat.le_of_ble_eq_true rfl) ⟨Nat.le_of_ble_eq_true rfl, Nat.le_of_ble_eq_true rfl⟩ ⟨(Nat.le_of_ble_eq_true rfl), (Nat.le_of_ble_eq_true rfl)⟩ ?_
      rcases o16 with ⟨x14 | E17, S15⟩
      · refine xk_i ?_
        replace h := bk_l h
        refine x_if_ne (pc := 35) hC 49 dX10_perform_35 (by decide) (fun c65 => ?_) (fun c65 => ?_)
        · rw [if_neg c65] at h
          refine x_aload_n (pc := 49) hC 0 dX10_perform_49 rfl rfl ?_
          obtain ⟨g18, h⟩ := gd_some h
          refine x_getRv (pc := 50) (k := 2) hC fc_16 fl_RX10_22 dX10_perform_50 rfl g18 (fun r19 hr19 => ?_)
          replace h := lt_x hr19 h
          refine x_aload_n (pc := 53) hC 0 dX10_perform_53 rfl rfl ?_
          refine x_getRv (pc := 54) (k := 3) hC fc_16 fl_RX10_29 dX10_perform_54 rfl g18 (fun r20 hr20 => ?_)
          replace h := lt_x hr20 h
          obtain ⟨g21, h⟩ := gd_some h
          refine x_getRv (pc := 57) (k := 0) hC fc_13 fl_RX10_340 dX10_perform_57 rfl g21 (fun r22 hr22 => ?_)
          replace h := lt_x hr22 h
          refine x_aload_n (pc := 60) hC 0 dX10_perform_60 rfl rfl ?_
          refine x_getRv (pc := 61) (k := 3) hC fc_16 fl_RX10_29 dX10_perform_61 rfl g18 (fun r23 hr23 => ?_)
          replace h := lt_x hr23 h
          obtain ⟨g24, h⟩ := gd_some h
          refine x_getIv (pc := 64) (k := 4) hC fc_13 fl_RX10_337 dX10_perform_64 rfl g24 (fun x25 hx25 => ?_)
          replace h := lt_x hx25 h
          obtain ⟨g26, h⟩ := gd_some h
          obtain ⟨o29, ho29, h⟩ := bd_some h
          refine x_callV (pc := 67) (As := [.ref r22, .int x25]) (rest := []) hC hl (c_X6_noteText l hls ho29) lk_RX10_371 fc_12 g26 dX10_perform_67 rfl rfl (Nat.le_of_ble_eq_true rfl) ⟨Nat.le_of_ble_eq_true rfl, Nat.le_of_ble_eq_true rfl⟩ ⟨(Nat.le_of_ble_eq_true rfl), (Nat.le_of_ble_eq_true rfl)⟩ ?_
          rcases o29 with ⟨x27 | E30, S28⟩
          · refine xk_i ?_
            replace h := bk_l h
            refine x_istore_n (pc := 70) hC dX10_perform_70 rfl (by decide) (by decide) rfl ?_
            refine x_aload_n (pc := 71) hC 1 dX10_perform_71 rfl rfl ?_
            obtain ⟨g31, h⟩ := gd_some h
            refine x_getRv (pc := 72) (k := 2) hC fc_16 fl_RX10_22 dX10_perform_72 rfl g31 (fun r32 hr32 => ?_)
            replace h := lt_x hr32 h
            refine x_bipush (pc := 75) (v := (27 : Int32)) hC dX10_perform_75 (by decide) ?_
            refine x_iload_n (pc := 77) hC 0 dX10_perform_77 rfl rfl ?_
            refine x_iload_n (pc := 78) hC 0 dX10_perform_78 rfl rfl ?_
            refine x_aload_n (pc := 79) hC 1 dX10_perform_79 rfl rfl ?_
            refine x_getRv (pc := 80) (k := 3) hC fc_16 fl_RX10_29 dX10_perform_80 rfl g31 (fun r33 hr33 => ?_)
            replace h := lt_x hr33 h
            obtain ⟨g34, h⟩ := gd_some h
            refine x_getIv (pc := 83) (k := 4) hC fc_13 fl_RX10_337 dX10_perform_83 rfl g34 (fun x35 hx35 => ?_)
            replace h := lt_x hx35 h
            refine x_iaddv (pc := 86) hC dX10_perform_86 (fun x36 hx36 => ?_)
            replace h := lt_x hx36 h
            refine x_iconst (pc := 87) (v := (0 : Int32)) hC dX10_perform_87 (by decide) ?_
            obtain ⟨g37, h⟩ := gd_some h
            obtain ⟨o40, ho40, h⟩ := bd_some h
            refine x_callV (pc := 88) (As := [.int (27 : Int32), .int x27, .int x36, .int (0 : Int32)]) (rest := []) hC hl (c_X6_note l hls ho40) lk_RX10_94 fc_12 g37 dX10_perform_88 rfl rfl (Nat.le_of_ble_eq_true rfl) ⟨Nat.le_of_ble_eq_true rfl, Nat.le_of_ble_eq_true rfl⟩ ⟨(Nat.le_of_ble_eq_true rfl), (Nat.le_of_ble_eq_true rfl)⟩ ?_
            rcases o40 with ⟨_ | E41, S39⟩
            · refine xk_v ?_
              replace h := bk_l h
              refine x_aload_n (pc := 91) hC 1 dX10_perform_91 rfl rfl ?_
              obtain ⟨g42, h⟩ := gd_some h
              refine x_getRv (pc := 92) (k := 3) hC fc_16 fl_RX10_29 dX10_perform_92 rfl g42 (fun r43 hr43 => ?_)
              replace h := lt_x hr43 h
              refine x_aload_n (pc := 95) hC 1 dX10_perform_95 rfl rfl ?_
              refine x_getRv (pc := 96) (k := 0) hC fc_16 fl_RX10_10 dX10_perform_96 rfl g42 (fun r44 hr44 => ?_)
              replace h := lt_x hr44 h
              obtain ⟨g45, h⟩ := gd_some h
              refine x_getRv (pc := 99) (k := 1) hC fc_14 fl_RX10_361 dX10_perform_99 rfl g45 (fun r46 hr46 => ?_)
              replace h := lt_x hr46 h
              refine x_aload_n (pc := 102) hC 1 dX10_perform_102 rfl rfl ?_
              refine x_getRv (pc := 103) (k := 3) hC fc_16 fl_RX10_29 dX10_perform_103 rfl g42 (fun r47 hr47 => ?_)
              replace h := lt_x hr47 h
              obtain ⟨g48, h⟩ := gd_some h
              refine x_getRv (pc := 106) (k := 0) hC fc_13 fl_RX10_340 dX10_perform_106 rfl g48 (fun r49 hr49 => ?_)
              replace h := lt_x hr49 h
              refine x_iconst (pc := 109) (v := (0 : Int32)) hC dX10_perform_109 (by decide) ?_
              refine x_aload_n (pc := 110) hC 1 dX10_perform_110 rfl rfl ?_
              refine x_getRv (pc := 111) (k := 3) hC fc_16 fl_RX10_29 dX10_perform_111 rfl g42 (fun r50 hr50 => ?_)
              replace h := lt_x hr50 h
              obtain ⟨g51, h⟩ := gd_some h
              refine x_getIv (pc := 114) (k := 4) hC fc_13 fl_RX10_337 dX10_perform_114 rfl g51 (fun x52 hx52 => ?_)
              replace h := lt_x hx52 h
              obtain ⟨g53, h⟩ := gd_some h
              obtain ⟨o56, ho56, h⟩ := bd_some h
              refine x_callV (pc := 117) (As := [.ref r46, .ref r49, .int (0 : Int32), .int x52]) (rest := []) hC hl (c_X7_doAll l hls ho56) lk_RX10_375 fc_13 g53 dX10_perform_117 rfl rfl (Nat.le_of_ble_eq_true rfl) ⟨Nat.le_of_ble_eq_true rfl, Nat.le_of_ble_eq_true rfl⟩ ⟨(Nat.le_of_ble_eq_true rfl), (Nat.le_of_ble_eq_true rfl)⟩ ?_
              rcases o56 with ⟨x54 | E57, S55⟩
              · refine xk_i ?_
                replace h := bk_l h
                refine x_istore_n (pc := 120) hC dX10_perform_120 rfl (by decide) (by decide) rfl ?_
                refine x_aload_n (pc := 121) hC 2 dX10_perform_121 rfl rfl ?_
                obtain ⟨g58, h⟩ := gd_some h
                refine x_getRv (pc := 122) (k := 3) hC fc_16 fl_RX10_29 dX10_perform_122 rfl g58 (fun r59 hr59 => ?_)
                replace h := lt_x hr59 h
                obtain ⟨g60, h⟩ := gd_some h
                obtain ⟨o63, ho63, h⟩ := bd_some h
                refine x_callV (pc := 125) (As := []) (rest := []) hC hl (c_X7_empty l hls ho63) lk_RX10_350 fc_13 g60 dX10_perform_125 rfl rfl (Nat.le_of_ble_eq_true rfl) ⟨Nat.le_of_ble_eq_true rfl, Nat.le_of_ble_eq_true rfl⟩ ⟨(Nat.le_of_ble_eq_true rfl), (Nat.le_of_ble_eq_true rfl)⟩ ?_
                rcases o63 with ⟨x61 | E64, S62⟩
                · refine xk_i ?_
                  replace h := bk_l h
                  refine x_pop (pc := 128) hC dX10_perform_128 rfl ?_
                  refine x_iload_n (pc := 129) hC 0 dX10_perform_129 rfl rfl ?_
                  exact x_ireturn (pc := 130) hC hE dX10_perform_130 (so h) (Nat.le_of_ble_eq_true rfl) (Nat.le_of_ble_eq_true rfl)
                · exact xk_r (xt_out hC hE (bk_r h) (Nat.le_of_ble_eq_true rfl) (Nat.le_of_ble_eq_true rfl))
              · exact xk_r (xt_out hC hE (bk_r h) (Nat.le_of_ble_eq_true rfl) (Nat.le_of_ble_eq_true rfl))
            · exact xk_r (xt_out hC hE (bk_r h) (Nat.le_of_ble_eq_true rfl) (Nat.le_of_ble_eq_true rfl))
          · exact xk_r (xt_out hC hE (bk_r h) (Nat.le_of_ble_eq_true rfl) (Nat.le_of_ble_eq_true rfl))
        · rw [if_pos c65] at h
          exact x_throwSW (pc := 38) hC hE th_RX10_89_93_369 dX10_perform_38 dX10_perform_41 dX10_perform_42 dX10_perform_45 dX10_perform_48 (so h) (Nat.le_of_ble_eq_true rfl) (Nat.le_of_ble_eq_true rfl) (Nat.le_of_ble_eq_true rfl) (Nat.le_of_ble_eq_true rfl)
      · exact xk_r (xt_out hC hE (bk_r h) (Nat.le_of_ble_eq_true rfl) (Nat.le_of_ble_eq_true rfl))
    · rw [if_pos c66] at h
      exact x_throwSW (pc := 10) hC hE th_RX10_356_360_358 dX10_perform_10 dX10_perform_13 dX10_perform_14 dX10_perform_17 dX10_perform_20 (so h) (Nat.le_of_ble_eq_true rfl) (Nat.le_of_ble_eq_true rfl) (Nat.le_of_ble_eq_true rfl) (Nat.le_of_ble_eq_true rfl)
  · exact xk_r (xt_out hC hE (bk_r h) (Nat.le_of_ble_eq_true rfl) (Nat.le_of_ble_eq_true rfl))
theorem c_X10_perform (l : Launch) (hls : l.stackTraces = false) {S : mS} {a0 : Nat} {o : Rs Int32} (h : f_X10_perform S a0 = some o) : CT (fun r : Int32 => some (.int r)) l yX10_perform (.code yX10_perform cX10_perform 3 (Option.some Jvm.ClassFile.FieldType.int)) rm_X10_perform S [.ref a0] o := ct_of (by decide +kernel) hls (Nat.le_of_ble_eq_true rfl) (fun C hl hC hE => t_X10_perform hls hC hl hE h)
abbrev rm_X10_demandCause : Room := { frames := 8, cells := 1, slots := 6, locals := 150 }
def f_X10_demandCause_15  (S : mS) : Option (Rs Unit) :=
  some (.inr "java/util/NoSuchElementException", S)
set_option maxHeartbeats 2000000 in
set_option maxRecDepth 100000 in
theorem t_X10_demandCause_15 {l : Launch} (hls : l.stackTraces = false) {C : cT} (hC : CX C cX10_demandCause 2 yX10_demandCause rm_X10_demandCause) (hl : C.2.1 = l) {S0 : mS} (hE : CE C S0 (Option.none : Option Jvm.ClassFile.FieldType) []) {o : Rs Unit} {S : mS} (h : f_X10_demandCause_15  S = some o) : XX C 2 (QQ C (fun _ : Unit => none) S0 o) (0) (0) S 15 [] [] := by
  unfold f_X10_demandCause_15 at h
  exact x_throwNSW (pc := 15) hC hE th_RX10_189_193_433 dX10_demandCause_15 dX10_demandCause_18 dX10_demandCause_19 dX10_demandCause_22 dX10_demandCause_25 (so h) (Nat.le_of_ble_eq_true rfl) (Nat.le_of_ble_eq_true rfl) (Nat.le_of_ble_eq_true rfl) (Nat.le_of_ble_eq_true rfl)
def f_X10_demandCause (S : mS) (a0 : Nat) (a1 : Int32) : Option (Rs Unit) :=
  if a1 < 0 then (f_X10_demandCause_15  S) else (gd (gK S a0 = 16) (lt9 (gR S a0 3) fun r2 => gd (gK S r2 = 13) (lt9 (gI S r2 5) fun x4 => if a1 < x4 then (some (.inl (), S)) else (f_X10_demandCause_15  S))))
set_option maxHeartbeats 2000000 in
set_option maxRecDepth 100000 in
theorem t_X10_demandCause {l : Launch} (hls : l.stackTraces = false) {C : cT} (hC : CX C cX10_demandCause 2 yX10_demandCause rm_X10_demandCause) (hl : C.2.1 = l) {S0 : mS} (hE : CE C S0 (Option.none : Option Jvm.ClassFile.FieldType) []) {o : Rs Unit} {S : mS} {a0 : Nat} {a1 : Int32} (h : f_X10_demandCause S a0 a1 = some o) : XX C 2 (QQ C (fun _ : Unit => none) S0 o) 0 0 S 0 [(0, .ref a0), (1, .int a1)] [] := by
  unfold f_X10_demandCause at h
  refine x_iload_n (pc := 0) hC 1 dX10_demandCause_0 rfl rfl ?_
  refine x_if_lt (pc := 1) hC 15 dX10_demandCause_1 (by decide) (fun c6 => ?_) (fun c6 => ?_)
  · rw [if_pos c6] at h
    refine x_pick [] rfl ?_
    exact t_X10_demandCause_15 hls hC hl hE h
  · rw [if_neg c6] at h
    refine x_iload_n (pc := 4) hC 1 dX10_demandCause_4 rfl rfl ?_
    refine x_aload_n (pc := 5) hC 0 dX10_demandCause_5 rfl rfl ?_
    obtain ⟨g1, h⟩ := gd_some h
    refine x_getRv (pc := 6) (k := 3) hC fc_16 fl_RX10_29 dX10_demandCause_6 rfl g1 (fun r2 hr2 => ?_)
    replace h := lt_x hr2 h
    obtain ⟨g3, h⟩ := gd_some h
    refine x_getIv (pc := 9) (k := 5) hC fc_13 fl_RX10_430 dX10_demandCause_9 rfl g3 (fun x4 hx4 => ?_)
    replace h := lt_x hx4 h
    refine x_icmp_lt (pc := 12) hC 26 dX10_demandCause_12 (by decide) (fun c5 => ?_) (fun c5 => ?_)
    · rw [if_pos c5] at h
      exact x_vreturn (pc := 26) hC hE dX10_demandCause_26 (so h) (Nat.le_of_ble_eq_true rfl) (Nat.le_of_ble_eq_true rfl)
    · rw [if_neg c5] at h
      refine x_pick [] rfl ?_
      exact t_X10_demandCause_15 hls hC hl hE h
theorem c_X10_demandCause (l : Launch) (hls : l.stackTraces = false) {S : mS} {a0 : Nat} {a1 : Int32} {o : Rs Unit} (h : f_X10_demandCause S a0 a1 = some o) : CT (fun _ : Unit => none) l yX10_demandCause (.code yX10_demandCause cX10_demandCause 2 (Option.none : Option Jvm.ClassFile.FieldType)) rm_X10_demandCause S [.ref a0, .int a1] o := ct_of (by decide +kernel) hls (Nat.le_of_ble_eq_true rfl) (fun C hl hC hE => t_X10_demandCause hls hC hl hE h)
abbrev rm_X10_cause : Room := { frames := 9, cells := 1, slots := 6, locals := 171 }
def f_X10_cause (S : mS) (a0 : Nat) (a1 : Int32) : Option (Rs Int32) :=
  gd (gK S a0 = 16) (bd (f_X10_demandCause S a0 a1) fun _ S3 => gd (gK S3 a0 = 16) (lt9 (gR S3 a0 3) fun r7 => gd (gK S3 r7 = 13) (bd (f_X7_causeSign S3 r7 a1) fun x9 S10 => gd ((x9.toUInt32.toUInt16.toUInt32.toInt32 = x9 ∧ 0 ≤ x9) ∧ x9 ≤ 65535) (some (.inl x9, S10)))))
set_option maxHeartbeats 2000000 in
set_option maxRecDepth 100000 in
theorem t_X10_cause {l : Launch} (hls : l.stackTraces = false) {C : cT} (hC : CX C cX10_cause 2 yX10_cause rm_X10_cause) (hl : C.2.1 = l) {S0 : mS} (hE : CE C S0 (Option.some Jvm.ClassFile.FieldType.char) []) {o : Rs Int32} {S : mS} {a0 : Nat} {a1 : Int32} (h : f_X10_cause S a0 a1 = some o) : XX C 2 (QQ C (fun r : Int32 => some (.int r)) S0 o) 0 0 S 0 [(0, .ref a0), (1, .int a1)] [] := by
  unfold f_X10_cause at h
  refine x_aload_n (pc := 0) hC 0 dX10_cause_0 rfl rfl ?_
  refine x_iload_n (pc := 1) hC 1 dX10_cause_1 rfl rfl ?_
  obtain ⟨g1, h⟩ := gd_some h
  obtain ⟨o4, ho4, h⟩ := bd_some h
  refine x_callV (pc := 2) (As := [.int a1]) (rest := []) hC hl (c_X10_demandCause l hls ho4) lk_RX10_379 fc_16 g1 dX10_cause_2 rfl rfl (Nat.le_of_ble_eq_true rfl) ⟨Nat.le_of_ble_eq_true rfl, Nat.le_of_ble_eq_true rfl⟩ ⟨(Nat.le_of_ble_eq_true rfl), (Nat.le_of_ble_eq_true rfl)⟩ ?_
  rcases o4 with ⟨_ | E5, S3⟩
  · refine xk_v ?_
    replace h := bk_l h
    refine x_aload_n (pc := 5) hC 0 dX10_cause_5 rfl rfl ?_
    obtain ⟨g6, h⟩ := gd_some h
    refine x_getRv (pc := 6) (k := 3) hC fc_16 fl_RX10_29 dX10_cause_6 rfl g6 (fun r7 hr7 => ?_)
    replace h := lt_x hr7 h
    refine x_iload_n (pc := 9) hC 1 dX10_cause_9 rfl rfl ?_
    obtain ⟨g8, h⟩ := gd_some h
    obtain ⟨o11, ho11, h⟩ := bd_some h
    refine x_callV (pc := 10) (As := [.int a1]) (rest := []) hC hl (c_X7_causeSign l hls ho11) lk_RX10_382 fc_13 g8 dX10_cause_10 rfl rfl (Nat.le_of_ble_eq_true rfl) ⟨Nat.le_of_ble_eq_true rfl, Nat.le_of_ble_eq_true rfl⟩ ⟨(Nat.le_of_ble_eq_true rfl), (Nat.le_of_ble_eq_true rfl)⟩ ?_
    rcases o11 with ⟨x9 | E12, S10⟩
    · refine xk_i ?_
      replace h := bk_l h
      obtain ⟨g13, h⟩ := gd_some h
      exact x_zreturn (pc := 13) hC hE dX10_cause_13 (nf_C g13).1 (so h) (Nat.le_of_ble_eq_true rfl) (Nat.le_of_ble_eq_true rfl)
    · exact xk_r (xt_out hC hE (bk_r h) (Nat.le_of_ble_eq_true rfl) (Nat.le_of_ble_eq_true rfl))
  · exact xk_r (xt_out hC hE (bk_r h) (Nat.le_of_ble_eq_true rfl) (Nat.le_of_ble_eq_true rfl))
theorem c_X10_cause (l : Launch) (hls : l.stackTraces = false) {S : mS} {a0 : Nat} {a1 : Int32} {o : Rs Int32} (h : f_X10_cause S a0 a1 = some o) : CT (fun r : Int32 => some (.int r)) l yX10_cause (.code yX10_cause cX10_cause 2 (Option.some Jvm.ClassFile.FieldType.char)) rm_X10_cause S [.ref a0, .int a1] o := ct_of (by decide +kernel) hls (Nat.le_of_ble_eq_true rfl) (fun C hl hC hE => t_X10_cause hls hC hl hE h)
abbrev rm_X10_causeNumber : Room := { frames := 9, cells := 1, slots := 6, locals := 171 }
def f_X10_causeNumber (S : mS) (a0 : Nat) (a1 : Int32) : Option (Rs Int32) :=
  gd (gK S a0 = 16) (bd (f_X10_demandCause S a0 a1) fun _ S3 => gd (gK S3 a0 = 16) (lt9 (gR S3 a0 3) fun r7 => gd (gK S3 r7 = 13) (bd (f_X7_causePlace S3 r7 a1) fun x9 S10 => some (.inl x9, S10))))
set_option maxHeartbeats 2000000 in
set_option maxRecDepth 100000 in
theorem t_X10_causeNumber {l : Launch} (hls : l.stackTraces = false) {C : cT} (hC : CX C cX10_causeNumber 2 yX10_causeNumber rm_X10_causeNumber) (hl : C.2.1 = l) {S0 : mS} (hE : CE C S0 (Option.some Jvm.ClassFile.FieldType.int) []) {o : Rs Int32} {S : mS} {a0 : Nat} {a1 : Int32} (h : f_X10_causeNumber S a0 a1 = some o) : XX C 2 (QQ C (fun r : Int32 => some (.int r)) S0 o) 0 0 S 0 [(0, .ref a0), (1, .int a1)] [] := by
  unfold f_X10_causeNumber at h
  refine x_aload_n (pc := 0) hC 0 dX10_causeNumber_0 rfl rfl ?_
  refine x_iload_n (pc := 1) hC 1 dX10_causeNumber_1 rfl rfl ?_
  obtain ⟨g1, h⟩ := gd_some h
  obtain ⟨o4, ho4, h⟩ := bd_some h
  refine x_callV (pc := 2) (As := [.int a1]) (rest := []) hC hl (c_X10_demandCause l hls ho4) lk_RX10_379 fc_16 g1 dX10_causeNumber_2 rfl rfl (Nat.le_of_ble_eq_true rfl) ⟨Nat.le_of_ble_eq_true rfl, Nat.le_of_ble_eq_true rfl⟩ ⟨(Nat.le_of_ble_eq_true rfl), (Nat.le_of_ble_eq_true rfl)⟩ ?_
  rcases o4 with ⟨_ | E5, S3⟩
  · refine xk_v ?_
    replace h := bk_l h
    refine x_aload_n (pc := 5) hC 0 dX10_causeNumber_5 rfl rfl ?_
    obtain ⟨g6, h⟩ := gd_some h
    refine x_getRv (pc := 6) (k := 3) hC fc_16 fl_RX10_29 dX10_causeNumber_6 rfl g6 (fun r7 hr7 => ?_)
    replace h := lt_x hr7 h
    refine x_iload_n (pc := 9) hC 1 dX10_causeNumber_9 rfl rfl ?_
    obtain ⟨g8, h⟩ := gd_some h
    obtain ⟨o11, ho11, h⟩ := bd_some h
    refine x_callV (pc := 10) (As := [.int a1]) (rest := []) hC hl (c_X7_causePlace l hls ho11) lk_RX10_386 fc_13 g8 dX10_causeNumber_10 rfl rfl (Nat.le_of_ble_eq_true rfl) ⟨Nat.le_of_ble_eq_true rfl, Nat.le_of_ble_eq_true rfl⟩ ⟨(Nat.le_of_ble_eq_true rfl), (Nat.le_of_ble_eq_true rfl)⟩ ?_
    rcases o11 with ⟨x9 | E12, S10⟩
    · refine xk_i ?_
      replace h := bk_l h
      exact x_ireturn (pc := 13) hC hE dX10_causeNumber_13 (so h) (Nat.le_of_ble_eq_true rfl) (Nat.le_of_ble_eq_true rfl)
    · exact xk_r (xt_out hC hE (bk_r h) (Nat.le_of_ble_eq_true rfl) (Nat.le_of_ble_eq_true rfl))
  · exact xk_r (xt_out hC hE (bk_r h) (Nat.le_of_ble_eq_true rfl) (Nat.le_of_ble_eq_true rfl))
theorem c_X10_causeNumber (l : Launch) (hls : l.stackTraces = false) {S : mS} {a0 : Nat} {a1 : Int32} {o : Rs Int32} (h : f_X10_causeNumber S a0 a1 = some o) : CT (fun r : Int32 => some (.int r)) l yX10_causeNumber (.code yX10_causeNumber cX10_causeNumber 2 (Option.some Jvm.ClassFile.FieldType.int)) rm_X10_causeNumber S [.ref a0, .int a1] o := ct_of (by decide +kernel) hls (Nat.le_of_ble_eq_true rfl) (fun C hl hC hE => t_X10_causeNumber hls hC hl hE h)
abbrev rm_X10_skip : Room := { frames := 11, cells := 3, slots := 18, locals := 216 }
def f_X10_skip (S : mS) (a0 : Nat) (a1 : Int32) (a2 : Int32) : Option (Rs Int64) :=
  gd (gK S a0 = 16) (bd (f_X10_deckOf S a0 a1) fun r2 S3 => bd (f_X10_isIn S3 a2 (1 : Int32) (32 : Int32)) fun x6 S7 => bd (f_X10_demand S7 x6) fun _ S11 => bd (f_X10_demandRecord S11 r2) fun _ S15 => gd (gK S15 a0 = 16) (lt9 (gR S15 a0 2) fun r19 => gd (gK S15 r19 = 12) (bd (f_X6_note S15 r19 (28 : Int32) a1 a2 (0 : Int32)) fun _ S22 => gd (gK S22 r2 = 7) (bd (f_X1_skipBack S22 r2 a2) fun x26 S27 => some (.inl x26, S27)))))
set_option maxHeartbeats 2000000 in
set_option maxRecDepth 100000 in
theorem t_X10_skip {l : Launch} (hls : l.stackTraces = false) {C : cT} (hC : CX C cX10_skip 4 yX10_skip rm_X10_skip) (hl : C.2.1 = l) {S0 : mS} (hE : CE C S0 (Option.some Jvm.ClassFile.FieldType.long) []) {o : Rs Int64} {S : mS} {a0 : Nat} {a1 : Int32} {a2 : Int32} (h : f_X10_skip S a0 a1 a2 = some o) : XX C 4 (QQ C (fun r : Int64 => some (.long r)) S0 o) 0 0 S 0 [(0, .ref a0), (1, .int a1), (2, .int a2)] [] := by
  unfold f_X10_skip at h
  refine x_aload_n (pc := 0) hC 0 dX10_skip_0 rfl rfl ?_
  refine x_iload_n (pc := 1) hC 1 dX10_skip_1 rfl rfl ?_
  obtain ⟨g1, h⟩ := gd_some h
  obtain ⟨o4, ho4, h⟩ := bd_some h
  refine x_callV (pc := 2) (As := [.int a1]) (rest := []) hC hl (c_X10_deckOf l hls ho4) lk_RX10_119 fc_16 g1 dX10_skip_2 rfl rfl (Nat.le_of_ble_eq_true rfl) ⟨Nat.le_of_ble_eq_true rfl, Nat.le_of_ble_eq_true rfl⟩ ⟨(Nat.le_of_ble_eq_true rfl), (Nat.le_of_ble_eq_true rfl)⟩ ?_
  rcases o4 with ⟨r2 | E5, S3⟩
  · refine xk_a ?_
    replace h := bk_l h
    refine x_astore_n (pc := 5) hC dX10_skip_5 rfl (by decide) (by decide) rfl ?_
    refine x_iload_n (pc := 6) hC 3 dX10_skip_6 rfl rfl ?_
    refine x_iconst (pc := 7) (v := (1 : Int32)) hC dX10_skip_7 (by decide) ?_
    refine x_bipush (pc := 8) (v := (32 : Int32)) hC dX10_skip_8 (by decide) ?_
    obtain ⟨o8, ho8, h⟩ := bd_some h
    refine x_callS (pc := 10) (As := [.int a2, .int (1 : Int32), .int (32 : Int32)]) (rest := []) hC hl (c_X10_isIn l hls ho8) lk_RX10_46 dX10_skip_10 rfl rfl (Nat.le_of_ble_eq_true rfl) ⟨Nat.le_of_ble_eq_true rfl, Nat.le_of_ble_eq_true rfl⟩ ⟨(Nat.le_of_ble_eq_true rfl), (Nat.le_of_ble_eq_true rfl)⟩ ?_
    rcases o8 with ⟨x6 | E9, S7⟩
    · refine xk_i ?_
      replace h := bk_l h
      obtain ⟨o12, ho12, h⟩ := bd_some h
      refine x_callS (pc := 13) (As := [.int x6]) (rest := []) hC hl (c_X10_demand l hls ho12) lk_RX10_50 dX10_skip_13 rfl rfl (Nat.le_of_ble_eq_true rfl) ⟨Nat.le_of_ble_eq_true rfl, Nat.le_of_ble_eq_true rfl⟩ ⟨(Nat.le_of_ble_eq_true rfl), (Nat.le_of_ble_eq_true rfl)⟩ ?_
      rcases o12 with ⟨_ | E13, S11⟩
      · refine xk_v ?_
        replace h := bk_l h
        refine x_aload_n (pc := 16) hC 0 dX10_skip_16 rfl rfl ?_
        obtain ⟨o16, ho16, h⟩ := bd_some h
        refine x_callS (pc := 17) (As := [.ref r2]) (rest := []) hC hl (c_X10_demandRecord l hls ho16) lk_RX10_135 dX10_skip_17 rfl rfl (Nat.le_of_ble_eq_true rfl) ⟨Nat.le_of_ble_eq_true rfl, Nat.le_of_ble_eq_true rfl⟩ ⟨(Nat.le_of_ble_eq_true rfl), (Nat.le_of_ble_eq_true rfl)⟩ ?_
        rcases o16 with ⟨_ | E17, S15⟩
        · refine xk_v ?_
          replace h := bk_l h
          refine x_aload_n (pc := 20) hC 1 dX10_skip_20 rfl rfl ?_
          obtain ⟨g18, h⟩ := gd_some h
          refine x_getRv (pc := 21) (k := 2) hC fc_16 fl_RX10_22 dX10_skip_21 rfl g18 (fun r19 hr19 => ?_)
          replace h := lt_x hr19 h
          refine x_bipush (pc := 24) (v := (28 : Int32)) hC dX10_skip_24 (by decide) ?_
          refine x_iload_n (pc := 26) hC 2 dX10_skip_26 rfl rfl ?_
          refine x_iload_n (pc := 27) hC 3 dX10_skip_27 rfl rfl ?_
          refine x_iconst (pc := 28) (v := (0 : Int32)) hC dX10_skip_28 (by decide) ?_
          obtain ⟨g20, h⟩ := gd_some h
          obtain ⟨o23, ho23, h⟩ := bd_some h
          refine x_callV (pc := 29) (As := [.int (28 : Int32), .int a1, .int a2, .int (0 : Int32)]) (rest := []) hC hl (c_X6_note l hls ho23) lk_RX10_94 fc_12 g20 dX10_skip_29 rfl rfl (Nat.le_of_ble_eq_true rfl) ⟨Nat.le_of_ble_eq_true rfl, Nat.le_of_ble_eq_true rfl⟩ ⟨(Nat.le_of_ble_eq_true rfl), (Nat.le_of_ble_eq_true rfl)⟩ ?_
          rcases o23 with ⟨_ | E24, S22⟩
          · refine xk_v ?_
            replace h := bk_l h
            refine x_aload_n (pc := 32) hC 0 dX10_skip_32 rfl rfl ?_
            refine x_iload_n (pc := 33) hC 3 dX10_skip_33 rfl rfl ?_
            obtain ⟨g25, h⟩ := gd_some h
            obtain ⟨o28, ho28, h⟩ := bd_some h
            refine x_callV (pc := 34) (As := [.int a2]) (rest := []) hC hl (c_X1_skipBack l hls ho28) lk_RX10_389 fc_7 g25 dX10_skip_34 rfl rfl (Nat.le_of_ble_eq_true rfl) ⟨Nat.le_of_ble_eq_true rfl, Nat.le_of_ble_eq_true rfl⟩ ⟨(Nat.le_of_ble_eq_true rfl), (Nat.le_of_ble_eq_true rfl)⟩ ?_
            rcases o28 with ⟨x26 | E29, S27⟩
            · refine xk_j ?_
              replace h := bk_l h
              exact x_lreturn (pc := 37) hC hE dX10_skip_37 (so h) (Nat.le_of_ble_eq_true rfl) (Nat.le_of_ble_eq_true rfl)
            · exact xk_r (xt_out hC hE (bk_r h) (Nat.le_of_ble_eq_true rfl) (Nat.le_of_ble_eq_true rfl))
          · exact xk_r (xt_out hC hE (bk_r h) (Nat.le_of_ble_eq_true rfl) (Nat.le_of_ble_eq_true rfl))
        · exact xk_r (xt_out hC hE (bk_r h) (Nat.le_of_ble_eq_true rfl) (Nat.le_of_ble_eq_true rfl))
      · exact xk_r (xt_out hC hE (bk_r h) (Nat.le_of_ble_eq_true rfl) (Nat.le_of_ble_eq_true rfl))
    · exact xk_r (xt_out hC hE (bk_r h) (Nat.le_of_ble_eq_true rfl) (Nat.le_of_ble_eq_true rfl))
  · exact xk_r (xt_out hC hE (bk_r h) (Nat.le_of_ble_eq_true rfl) (Nat.le_of_ble_eq_true rfl))
theorem c_X10_skip (l : Launch) (hls : l.stackTraces = false) {S : mS} {a0 : Nat} {a1 : Int32} {a2 : Int32} {o : Rs Int64} (h : f_X10_skip S a0 a1 a2 = some o) : CT (fun r : Int64 => some (.long r)) l yX10_skip (.code yX10_skip cX10_skip 4 (Option.some Jvm.ClassFile.FieldType.long)) rm_X10_skip S [.ref a0, .int a1, .int a2] o := ct_of (by decide +kernel) hls (Nat.le_of_ble_eq_true rfl) (fun C hl hC hE => t_X10_skip hls hC hl hE h)
abbrev rm_X10_loseStick : Room := { frames := 12, cells := 2, slots := 12, locals := 240 }
def f_X10_loseStick (S : mS) (a0 : Nat) (a1 : Int32) : Option (Rs Int32) :=
  gd (gK S a0 = 16) (bd (f_X10_deckOf S a0 a1) fun r2 S3 => bd (f_X10_demandRecord S3 r2) fun _ S7 => gd (gK S7 a0 = 16) (lt9 (gR S7 a0 2) fun r11 => gd (gK S7 r11 = 12) (bd (f_X6_note S7 r11 (29 : Int32) a1 (0 : Int32) (0 : Int32)) fun _ S14 => gd (gK S14 a0 = 16) (lt9 (gR S14 a0 0) fun r18 => gd (gK S14 r18 = 14) (bd (f_X8_loseDisc S14 r18 r2) fun x20 S21 => some (.inl x20, S21))))))
set_option maxHeartbeats 2000000 in
set_option maxRecDepth 100000 in
theorem t_X10_loseStick {l : Launch} (hls : l.stackTraces = false) {C : cT} (hC : CX C cX10_loseStick 3 yX10_loseStick rm_X10_loseStick) (hl : C.2.1 = l) {S0 : mS} (hE : CE C S0 (Option.some Jvm.ClassFile.FieldType.int) []) {o : Rs Int32} {S : mS} {a0 : Nat} {a1 : Int32} (h : f_X10_loseStick S a0 a1 = some o) : XX C 3 (QQ C (fun r : Int32 => some (.int r)) S0 o) 0 0 S 0 [(0, .ref a0), (1, .int a1)] [] := by
  unfold f_X10_loseStick at h
  refine x_aload_n (pc := 0) hC 0 dX10_loseStick_0 rfl rfl ?_
  refine x_iload_n (pc := 1) hC 1 dX10_loseStick_1 rfl rfl ?_
  obtain ⟨g1, h⟩ := gd_some h
  obtain ⟨o4, ho4, h⟩ := bd_some h
  refine x_callV (pc := 2) (As := [.int a1]) (rest := []) hC hl (c_X10_deckOf l hls ho4) lk_RX10_119 fc_16 g1 dX10_loseStick_2 rfl rfl (Nat.le_of_ble_eq_true rfl) ⟨Nat.le_of_ble_eq_true rfl, Nat.le_of_ble_eq_true rfl⟩ ⟨(Nat.le_of_ble_eq_true rfl), (Nat.le_of_ble_eq_true rfl)⟩ ?_
  rcases o4 with ⟨r2 | E5, S3⟩
  · refine xk_a ?_
    replace h := bk_l h
    refine x_astore_n (pc := 5) hC dX10_loseStick_5 rfl (by decide) (by decide) rfl ?_
    refine x_aload_n (pc := 6) hC 0 dX10_loseStick_6 rfl rfl ?_
    obtain ⟨o8, ho8, h⟩ := bd_some h
    refine x_callS (pc := 7) (As := [.ref r2]) (rest := []) hC hl (c_X10_demandRecord l hls ho8) lk_RX10_135 dX10_loseStick_7 rfl rfl (Nat.le_of_ble_eq_true rfl) ⟨Nat.le_of_ble_eq_true rfl, Nat.le_of_ble_eq_true rfl⟩ ⟨(Nat.le_of_ble_eq_true rfl), (Nat.le_of_ble_eq_true rfl)⟩ ?_
    rcases o8 with ⟨_ | E9, S7⟩
    · refine xk_v ?_
      replace h := bk_l h
      refine x_aload_n (pc := 10) hC 1 dX10_loseStick_10 rfl rfl ?_
      obtain ⟨g10, h⟩ := gd_some h
      refine x_getRv (pc := 11) (k := 2) hC fc_16 fl_RX10_22 dX10_loseStick_11 rfl g10 (fun r11 hr11 => ?_)
      replace h := lt_x hr11 h
      refine x_bipush (pc := 14) (v := (29 : Int32)) hC dX10_loseStick_14 (by decide) ?_
      refine x_iload_n (pc := 16) hC 2 dX10_loseStick_16 rfl rfl ?_
      refine x_iconst (pc := 17) (v := (0 : Int32)) hC dX10_loseStick_17 (by decide) ?_
      refine x_iconst (pc := 18) (v := (0 : Int32)) hC dX10_loseStick_18 (by decide) ?_
      obtain ⟨g12, h⟩ := gd_some h
      obtain ⟨o15, ho15, h⟩ := bd_some h
      refine x_callV (pc := 19) (As := [.int (29 : Int32), .int a1, .int (0 : Int32), .int (0 : Int32)]) (rest := []) hC hl (c_X6_note l hls ho15) lk_RX10_94 fc_12 g12 dX10_loseStick_19 rfl rfl (Nat.le_of_ble_eq_true rfl) ⟨Nat.le_of_ble_eq_true rfl, Nat.le_of_ble_eq_true rfl⟩ ⟨(Nat.le_of_ble_eq_true rfl), (Nat.le_of_ble_eq_true rfl)⟩ ?_
      rcases o15 with ⟨_ | E16, S14⟩
      · refine xk_v ?_
        replace h := bk_l h
        refine x_aload_n (pc := 22) hC 1 dX10_loseStick_22 rfl rfl ?_
        obtain ⟨g17, h⟩ := gd_some h
        refine x_getRv (pc := 23) (k := 0) hC fc_16 fl_RX10_10 dX10_loseStick_23 rfl g17 (fun r18 hr18 => ?_)
        replace h := lt_x hr18 h
        refine x_aload_n (pc := 26) hC 0 dX10_loseStick_26 rfl rfl ?_
        obtain ⟨g19, h⟩ := gd_some h
        obtain ⟨o22, ho22, h⟩ := bd_some h
        refine x_callV (pc := 27) (As := [.ref r2]) (rest := []) hC hl (c_X8_loseDisc l hls ho22) lk_RX10_393 fc_14 g19 dX10_loseStick_27 rfl rfl (Nat.le_of_ble_eq_true rfl) ⟨Nat.le_of_ble_eq_true rfl, Nat.le_of_ble_eq_true rfl⟩ ⟨(Nat.le_of_ble_eq_true rfl), (Nat.le_of_ble_eq_true rfl)⟩ ?_
        rcases o22 with ⟨x20 | E23, S21⟩
        · refine xk_i ?_
          replace h := bk_l h
          exact x_ireturn (pc := 30) hC hE dX10_loseStick_30 (so h) (Nat.le_of_ble_eq_true rfl) (Nat.le_of_ble_eq_true rfl)
        · exact xk_r (xt_out hC hE (bk_r h) (Nat.le_of_ble_eq_true rfl) (Nat.le_of_ble_eq_true rfl))
      · exact xk_r (xt_out hC hE (bk_r h) (Nat.le_of_ble_eq_true rfl) (Nat.le_of_ble_eq_true rfl))
    · exact xk_r (xt_out hC hE (bk_r h) (Nat.le_of_ble_eq_true rfl) (Nat.le_of_ble_eq_true rfl))
  · exact xk_r (xt_out hC hE (bk_r h) (Nat.le_of_ble_eq_true rfl) (Nat.le_of_ble_eq_true rfl))
theorem c_X10_loseStick (l : Launch) (hls : l.stackTraces = false) {S : mS} {a0 : Nat} {a1 : Int32} {o : Rs Int32} (h : f_X10_loseStick S a0 a1 = some o) : CT (fun r : Int32 => some (.int r)) l yX10_loseStick (.code yX10_loseStick cX10_loseStick 3 (Option.some Jvm.ClassFile.FieldType.int)) rm_X10_loseStick S [.ref a0, .int a1] o := ct_of (by decide +kernel) hls (Nat.le_of_ble_eq_true rfl) (fun C hl hC hE => t_X10_loseStick hls hC hl hE h)
abbrev rm_X10_logged : Room := { frames := 8, cells := 0, slots := 0, locals := 150 }
def f_X10_logged (S : mS) (a0 : Nat) : Option (Rs Int32) :=
  gd (gK S a0 = 16) (lt9 (gR S a0 2) fun r2 => gd (gK S r2 = 12) (lt9 (gI S r2 2) fun x4 => some (.inl x4, S)))
set_option maxHeartbeats 2000000 in
set_option maxRecDepth 100000 in
theorem t_X10_logged {l : Launch} (hls : l.stackTraces = false) {C : cT} (hC : CX C cX10_logged 1 yX10_logged rm_X10_logged) (hl : C.2.1 = l) {S0 : mS} (hE : CE C S0 (Option.some Jvm.ClassFile.FieldType.int) []) {o : Rs Int32} {S : mS} {a0 : Nat} (h : f_X10_logged S a0 = some o) : XX C 1 (QQ C (fun r : Int32 => some (.int r)) S0 o) 0 0 S 0 [(0, .ref a0)] [] := by
  unfold f_X10_logged at h
  refine x_aload_n (pc := 0) hC 0 dX10_logged_0 rfl rfl ?_
  obtain ⟨g1, h⟩ := gd_some h
  refine x_getRv (pc := 1) (k := 2) hC fc_16 fl_RX10_22 dX10_logged_1 rfl g1 (fun r2 hr2 => ?_)
  replace h := lt_x hr2 h
  obtain ⟨g3, h⟩ := gd_some h
  refine x_getIv (pc := 4) (k := 2) hC fc_12 fl_RX10_396 dX10_logged_4 rfl g3 (fun x4 hx4 => ?_)
  replace h := lt_x hx4 h
  exact x_ireturn (pc := 7) hC hE dX10_logged_7 (so h) (Nat.le_of_ble_eq_true rfl) (Nat.le_of_ble_eq_true rfl)
theorem c_X10_logged (l : Launch) (hls : l.stackTraces = false) {S : mS} {a0 : Nat} {o : Rs Int32} (h : f_X10_logged S a0 = some o) : CT (fun r : Int32 => some (.int r)) l yX10_logged (.code yX10_logged cX10_logged 1 (Option.some Jvm.ClassFile.FieldType.int)) rm_X10_logged S [.ref a0] o := ct_of (by decide +kernel) hls (Nat.le_of_ble_eq_true rfl) (fun C hl hC hE => t_X10_logged hls hC hl hE h)
abbrev rm_X10_print : Room := { frames := 10, cells := 0, slots := 0, locals := 195 }
def f_X10_print (S : mS) (a0 : Nat) : Option (Rs Int64) :=
  gd (gK S a0 = 16) (lt9 (gR S a0 0) fun r2 => gd (gK S r2 = 14) (bd (f_X8_fingerprint S r2) fun x4 S5 => some (.inl x4, S5)))
set_option maxHeartbeats 2000000 in
set_option maxRecDepth 100000 in
theorem t_X10_print {l : Launch} (hls : l.stackTraces = false) {C : cT} (hC : CX C cX10_print 1 yX10_print rm_X10_print) (hl : C.2.1 = l) {S0 : mS} (hE : CE C S0 (Option.some Jvm.ClassFile.FieldType.long) []) {o : Rs Int64} {S : mS} {a0 : Nat} (h : f_X10_print S a0 = some o) : XX C 1 (QQ C (fun r : Int64 => some (.long r)) S0 o) 0 0 S 0 [(0, .ref a0)] [] := by
  unfold f_X10_print at h
  refine x_aload_n (pc := 0) hC 0 dX10_print_0 rfl rfl ?_
  obtain ⟨g1, h⟩ := gd_some h
  refine x_getRv (pc := 1) (k := 0) hC fc_16 fl_RX10_10 dX10_print_1 rfl g1 (fun r2 hr2 => ?_)
  replace h := lt_x hr2 h
  obtain ⟨g3, h⟩ := gd_some h
  obtain ⟨o6, ho6, h⟩ := bd_some h
  refine x_callV (pc := 4) (As := []) (rest := []) hC hl (c_X8_fingerprint l hls ho6) lk_RX10_399 fc_14 g3 dX10_print_4 rfl rfl (Nat.le_of_ble_eq_true rfl) ⟨Nat.le_of_ble_eq_true rfl, Nat.le_of_ble_eq_true rfl⟩ ⟨(Nat.le_of_ble_eq_true rfl), (Nat.le_of_ble_eq_true rfl)⟩ ?_
  rcases o6 with ⟨x4 | E7, S5⟩
  · refine xk_j ?_
    replace h := bk_l h
    exact x_lreturn (pc := 7) hC hE dX10_print_7 (so h) (Nat.le_of_ble_eq_true rfl) (Nat.le_of_ble_eq_true rfl)
  · exact xk_r (xt_out hC hE (bk_r h) (Nat.le_of_ble_eq_true rfl) (Nat.le_of_ble_eq_true rfl))
theorem c_X10_print (l : Launch) (hls : l.stackTraces = false) {S : mS} {a0 : Nat} {o : Rs Int64} (h : f_X10_print S a0 = some o) : CT (fun r : Int64 => some (.long r)) l yX10_print (.code yX10_print cX10_print 1 (Option.some Jvm.ClassFile.FieldType.long)) rm_X10_print S [.ref a0] o := ct_of (by decide +kernel) hls (Nat.le_of_ble_eq_true rfl) (fun C hl hC hE => t_X10_print hls hC hl hE h)
abbrev rm_X10_redoAdd : Room := { frames := 10, cells := 0, slots := 0, locals := 204 }
def f_X10_redoAdd (S : mS) (a0 : Nat) (a1 : Int32) : Option (Rs Unit) :=
  gd (gK S a0 = 16) (lt9 (gR S a0 1) fun r2 => lt9 (gR S a0 2) fun r3 => gd (gK S r3 = 12) (bd (f_X6_numberAt S r3 a1 (1 : Int32)) fun x5 S6 => gd (gK S6 a0 = 16) (lt9 (gR S6 a0 2) fun r10 => gd (gK S6 r10 = 12) (bd (f_X6_numberAt S6 r10 a1 (2 : Int32)) fun x12 S13 => gd (gK S13 a0 = 16) (lt9 (gR S13 a0 2) fun r17 => gd (gK S13 r17 = 12) (bd (f_X6_numberAt S13 r17 a1 (3 : Int32)) fun x19 S20 => gd (gK S20 a0 = 16) (lt9 (gR S20 a0 2) fun r24 => gd (gK S20 r24 = 12) (bd (f_X6_numberAt S20 r24 a1 (4 : Int32)) fun x26 S27 => gd (gK S27 a0 = 16) (lt9 (gR S27 a0 2) fun r31 => gd (gK S27 r31 = 12) (bd (f_X6_numberAt S27 r31 a1 (5 : Int32)) fun x33 S34 => gd (gK S34 a0 = 16) (lt9 (gR S34 a0 2) fun r38 => gd (gK S34 r38 = 12) (bd (f_X6_numberAt S34 r38 a1 (6 : Int32)) fun x40 S41 => gd (gK S41 a0 = 16) (lt9 (gR S41 a0 2) fun r45 => gd (gK S41 r45 = 12) (bd (f_X6_numberAt S41 r45 a1 (7 : Int32)) fun x47 S48 => gd (gK S48 r2 = 14) (bd (f_X8_addDisc S48 r2 x5 x12 x19 x26 x33 x40 x47) fun x52 S53 => some (.inl (), S53))))))))))))))))
set_option maxHeartbeats 2000000 in
set_option maxRecDepth 100000 in
theorem t_X10_redoAdd {l : Launch} (hls : l.stackTraces = false) {C : cT} (hC : CX C cX10_redoAdd 2 yX10_redoAdd rm_X10_redoAdd) (hl : C.2.1 = l) {S0 : mS} (hE : CE C S0 (Option.none : Option Jvm.ClassFile.FieldType) []) {o : Rs Unit} {S : mS} {a0 : Nat} {a1 : Int32} (h : f_X10_redoAdd S a0 a1 = some o) : XX C 2 (QQ C (fun _ : Unit => none) S0 o) 0 0 S 0 [(0, .ref a0), (1, .int a1)] [] := by
  unfold f_X10_redoAdd at h
  refine x_aload_n (pc := 0) hC 0 dX10_redoAdd_0 rfl rfl ?_
  obtain ⟨g1, h⟩ := gd_some h
  refine x_getRv (pc := 1) (k := 1) hC fc_16 fl_RX10_16 dX10_redoAdd_1 rfl g1 (fun r2 hr2 => ?_)
  replace h := lt_x hr2 h
  refine x_aload_n (pc := 4) hC 0 dX10_redoAdd_4 rfl rfl ?_
  refine x_getRv (pc := 5) (k := 2) hC fc_16 fl_RX10_22 dX10_redoAdd_5 rfl g1 (fun r3 hr3 => ?_)
  replace h := lt_x hr3 h
  refine x_iload_n (pc := 8) hC 1 dX10_redoAdd_8 rfl rfl ?_
  refine x_iconst (pc := 9) (v := (1 : Int32)) hC dX10_redoAdd_9 (by decide) ?_
  obtain ⟨g4, h⟩ := gd_some h
  obtain ⟨o7, ho7, h⟩ := bd_some h
  refine x_callV (pc := 10) (As := [.int a1, .int (1 : Int32)]) (rest := [.ref r2]) hC hl (c_X6_numberAt l hls ho7) lk_RX10_460 fc_12 g4 dX10_redoAdd_10 rfl rfl (Nat.le_of_ble_eq_true rfl) ⟨Nat.le_of_ble_eq_true rfl, Nat.le_of_ble_eq_true rfl⟩ ⟨(Nat.le_of_ble_eq_true rfl), (Nat.le_of_ble_eq_true rfl)⟩ ?_
  rcases o7 with ⟨x5 | E8, S6⟩
  · refine xk_i ?_
    replace h := bk_l h
    refine x_aload_n (pc := 13) hC 0 dX10_redoAdd_13 rfl rfl ?_
    obtain ⟨g9, h⟩ := gd_some h
    refine x_getRv (pc := 14) (k := 2) hC fc_16 fl_RX10_22 dX10_redoAdd_14 rfl g9 (fun r10 hr10 => ?_)
    replace h := lt_x hr10 h
    refine x_iload_n (pc := 17) hC 1 dX10_redoAdd_17 rfl rfl ?_
    refine x_iconst (pc := 18) (v := (2 : Int32)) hC dX10_redoAdd_18 (by decide) ?_
    obtain ⟨g11, h⟩ := gd_some h
    obtain ⟨o14, ho14, h⟩ := bd_some h
    refine x_callV (pc := 19) (As := [.int a1, .int (2 : Int32)]) (rest := [.int x5, .ref r2]) hC hl (c_X6_numberAt l hls ho14) lk_RX10_460 fc_12 g11 dX10_redoAdd_19 rfl rfl (Nat.le_of_ble_eq_true rfl) ⟨Nat.le_of_ble_eq_true rfl, Nat.le_of_ble_eq_true rfl⟩ ⟨(Nat.le_of_ble_eq_true rfl), (Nat.le_of_ble_eq_true rfl)⟩ ?_
    rcases o14 with ⟨x12 | E15, S13⟩
    · refine xk_i ?_
      replace h := bk_l h
      refine x_aload_n (pc := 22) hC 0 dX10_redoAdd_22 rfl rfl ?_
      obtain ⟨g16, h⟩ := gd_some h
      refine x_getRv (pc := 23) (k := 2) hC fc_16 fl_RX10_22 dX10_redoAdd_23 rfl g16 (fun r17 hr17 => ?_)
      replace h := lt_x hr17 h
      refine x_iload_n (pc := 26) hC 1 dX10_redoAdd_26 rfl rfl ?_
      refine x_iconst (pc := 27) (v := (3 : Int32)) hC dX10_redoAdd_27 (by decide) ?_
      obtain ⟨g18, h⟩ := gd_some h
      obtain ⟨o21, ho21, h⟩ := bd_some h
      refine x_callV (pc := 28) (As := [.int a1, .int (3 : Int32)]) (rest := [.int x12, .int x5, .ref r2]) hC hl (c_X6_numberAt l hls ho21) lk_RX10_460 fc_12 g18 dX10_redoAdd_28 rfl rfl (Nat.le_of_ble_eq_true rfl) ⟨Nat.le_of_ble_eq_true rfl, Nat.le_of_ble_eq_true rfl⟩ ⟨(Nat.le_of_ble_eq_true rfl), (Nat.le_of_ble_eq_true rfl)⟩ ?_
      rcases o21 with ⟨x19 | E22, S20⟩
      · refine xk_i ?_
        replace h := bk_l h
        refine x_aload_n (pc := 31) hC 0 dX10_redoAdd_31 rfl rfl ?_
        obtain ⟨g23, h⟩ := gd_some h
        refine x_getRv (pc := 32) (k := 2) hC fc_16 fl_RX10_22 dX10_redoAdd_32 rfl g23 (fun r24 hr24 => ?_)
        replace h := lt_x hr24 h
        refine x_iload_n (pc := 35) hC 1 dX10_redoAdd_35 rfl rfl ?_
        refine x_iconst (pc := 36) (v := (4 : Int32)) hC dX10_redoAdd_36 (by decide) ?_
        obtain ⟨g25, h⟩ := gd_some h
        obtain ⟨o28, ho28, h⟩ := bd_some h
        refine x_callV (pc := 37) (As := [.int a1, .int (4 : Int32)]) (rest := [.int x19, .int x12, .int x5, .ref r2]) hC hl (c_X6_numberAt l hls ho28) lk_RX10_460 fc_12 g25 dX10_redoAdd_37 rfl rfl (Nat.le_of_ble_eq_true rfl) ⟨Nat.le_of_ble_eq_true rfl, Nat.le_of_ble_eq_true rfl⟩ ⟨(Nat.le_of_ble_eq_true rfl), (Nat.le_of_ble_eq_true rfl)⟩ ?_
        rcases o28 with ⟨x26 | E29, S27⟩
        · refine xk_i ?_
          replace h := bk_l h
          refine x_aload_n (pc := 40) hC 0 dX10_redoAdd_40 rfl rfl ?_
          obtain ⟨g30, h⟩ := gd_some h
          refine x_getRv (pc := 41) (k := 2) hC fc_16 fl_RX10_22 dX10_redoAdd_41 rfl g30 (fun r31 hr31 => ?_)
          replace h := lt_x hr31 h
          refine x_iload_n (pc := 44) hC 1 dX10_redoAdd_44 rfl rfl ?_
          refine x_iconst (pc := 45) (v := (5 : Int32)) hC dX10_redoAdd_45 (by decide) ?_
          obtain ⟨g32, h⟩ := gd_some h
          obtain ⟨o35, ho35, h⟩ := bd_some h
          refine x_callV (pc := 46) (As := [.int a1, .int (5 : Int32)]) (rest := [.int x26, .int x19, .int x12, .int x5, .ref r2]) hC hl (c_X6_numberAt l hls ho35) lk_RX10_460 fc_12 g32 dX10_redoAdd_46 rfl rfl (Nat.le_of_ble_eq_true rfl) ⟨Nat.le_of_ble_eq_true rfl, Nat.le_of_ble_eq_true rfl⟩ ⟨(Nat.le_of_ble_eq_true rfl), (Nat.le_of_ble_eq_true rfl)⟩ ?_
          rcases o35 with ⟨x33 | E36, S34⟩
          · refine xk_i ?_
            replace h := bk_l h
            refine x_aload_n (pc := 49) hC 0 dX10_redoAdd_49 rfl rfl ?_
            obtain ⟨g37, h⟩ := gd_some h
            refine x_getRv (pc := 50) (k := 2) hC fc_16 fl_RX10_22 dX10_redoAdd_50 rfl g37 (fun r38 hr38 => ?_)
            replace h := lt_x hr38 h
            refine x_iload_n (pc := 53) hC 1 dX10_redoAdd_53 rfl rfl ?_
            refine x_bipush (pc := 54) (v := (6 : Int32)) hC dX10_redoAdd_54 (by decide) ?_
            obtain ⟨g39, h⟩ := gd_some h
            obtain ⟨o42, ho42, h⟩ := bd_some h
            refine x_callV (pc := 56) (As := [.int a1, .int (6 : Int32)]) (rest := [.int x33, .int x26, .int x19, .int x12, .int x5, .ref r2]) hC hl (c_X6_numberAt l hls ho42) lk_RX10_460 fc_12 g39 dX10_redoAdd_56 rfl rfl (Nat.le_of_ble_eq_true rfl) ⟨Nat.le_of_ble_eq_true rfl, Nat.le_of_ble_eq_true rfl⟩ ⟨(Nat.le_of_ble_eq_true rfl), (Nat.le_of_ble_eq_true rfl)⟩ ?_
            rcases o42 with ⟨x40 | E43, S41⟩
            · refine xk_i ?_
              replace h := bk_l h
              refine x_aload_n (pc := 59) hC 0 dX10_redoAdd_59 rfl rfl ?_
              obtain ⟨g44, h⟩ := gd_some h
              refine x_getRv (pc := 60) (k := 2) hC fc_16 fl_RX10_22 dX10_redoAdd_60 rfl g44 (fun r45 hr45 => ?_)
              replace h := lt_x hr45 h
              refine x_iload_n (pc := 63) hC 1 dX10_redoAdd_63 rfl rfl ?_
              refine x_bipush (pc := 64) (v := (7 : Int32)) hC dX10_redoAdd_64 (by decide) ?_
              obtain ⟨g46, h⟩ := gd_some h
              obtain ⟨o49, ho49, h⟩ := bd_some h
              refine x_callV (pc := 66) (As := [.int a1, .int (7 : Int32)]) (rest := [.int x40, .int x33, .int x26, .int x19, .int x12, .int x5, .ref r2]) hC hl (c_X6_numberAt l hls ho49) lk_RX10_460 fc_12 g46 dX10_redoAdd_66 rfl rfl (Nat.le_of_ble_eq_true rfl) ⟨Nat.le_of_ble_eq_true rfl, Nat.le_of_ble_eq_true rfl⟩ ⟨(Nat.le_of_ble_eq_true rfl), (Nat.le_of_ble_eq_true rfl)⟩ ?_
              rcases o49 with ⟨x47 | E50, S48⟩
              · refine xk_i ?_
                replace h := bk_l h
                obtain ⟨g51, h⟩ := gd_some h
                obtain ⟨o54, ho54, h⟩ := bd_some h
                refine x_callV (pc := 69) (As := [.int x5, .int x12, .int x19, .int x26, .int x33, .int x40, .int x47]) (rest := []) hC hl (c_X8_addDisc l hls ho54) lk_RX10_77 fc_14 g51 dX10_redoAdd_69 rfl rfl (Nat.le_of_ble_eq_true rfl) ⟨Nat.le_of_ble_eq_true rfl, Nat.le_of_ble_eq_true rfl⟩ ⟨(Nat.le_of_ble_eq_true rfl), (Nat.le_of_ble_eq_true rfl)⟩ ?_
                rcases o54 with ⟨x52 | E55, S53⟩
                · refine xk_i ?_
                  replace h := bk_l h
                  refine x_pop (pc := 72) hC dX10_redoAdd_72 rfl ?_
                  exact x_vreturn (pc := 73) hC hE dX10_redoAdd_73 (so h) (Nat.le_of_ble_eq_true rfl) (Nat.le_of_ble_eq_true rfl)
                · exact xk_r (xt_out hC hE (bk_r h) (Nat.le_of_ble_eq_true rfl) (Nat.le_of_ble_eq_true rfl))
              · exact xk_r (xt_out hC hE (bk_r h) (Nat.le_of_ble_eq_true rfl) (Nat.le_of_ble_eq_true rfl))
            · exact xk_r (xt_out hC hE (bk_r h) (Nat.le_of_ble_eq_true rfl) (Nat.le_of_ble_eq_true rfl))
          · exact xk_r (xt_out hC hE (bk_r h) (Nat.le_of_ble_eq_true rfl) (Nat.le_of_ble_eq_true rfl))
        · exact xk_r (xt_out hC hE (bk_r h) (Nat.le_of_ble_eq_true rfl) (Nat.le_of_ble_eq_true rfl))
      · exact xk_r (xt_out hC hE (bk_r h) (Nat.le_of_ble_eq_true rfl) (Nat.le_of_ble_eq_true rfl))
    · exact xk_r (xt_out hC hE (bk_r h) (Nat.le_of_ble_eq_true rfl) (Nat.le_of_ble_eq_true rfl))
  · exact xk_r (xt_out hC hE (bk_r h) (Nat.le_of_ble_eq_true rfl) (Nat.le_of_ble_eq_true rfl))
theorem c_X10_redoAdd (l : Launch) (hls : l.stackTraces = false) {S : mS} {a0 : Nat} {a1 : Int32} {o : Rs Unit} (h : f_X10_redoAdd S a0 a1 = some o) : CT (fun _ : Unit => none) l yX10_redoAdd (.code yX10_redoAdd cX10_redoAdd 2 (Option.none : Option Jvm.ClassFile.FieldType)) rm_X10_redoAdd S [.ref a0, .int a1] o := ct_of (by decide +kernel) hls (Nat.le_of_ble_eq_true rfl) (fun C hl hC hE => t_X10_redoAdd hls hC hl hE h)
abbrev rm_X10_redoOnDeck : Room := { frames := 12, cells := 0, slots := 0, locals := 242 }
def f_X10_redoOnDeck_399  (S : mS) : Option (Rs Unit) :=
  some (.inl (), S)
set_option maxHeartbeats 2000000 in
set_option maxRecDepth 100000 in
theorem t_X10_redoOnDeck_399 {l : Launch} (hls : l.stackTraces = false) {C : cT} (hC : CX C cX10_redoOnDeck 5 yX10_redoOnDeck rm_X10_redoOnDeck) (hl : C.2.1 = l) {S0 : mS} (hE : CE C S0 (Option.none : Option Jvm.ClassFile.FieldType) []) {o : Rs Unit} {S : mS} (h : f_X10_redoOnDeck_399  S = some o) : XX C 5 (QQ C (fun _ : Unit => none) S0 o) (0) (0) S 399 [] [] := by
  unfold f_X10_redoOnDeck_399 at h
  exact x_vreturn (pc := 399) hC hE dX10_redoOnDeck_399 (so h) (Nat.le_of_ble_eq_true rfl) (Nat.le_of_ble_eq_true rfl)
def f_X10_redoOnDeck_168  (S : mS) (a0 : Nat) (a2 : Nat) (a3 : Int32) : Option (Rs Unit) :=
  gd (gK S a0 = 16) (lt9 (gR S a0 1) fun r2 => gd (gK S r2 = 14) (bd (f_X8_discAt S r2 a3) fun r4 S5 => gd (gK S5 a2 = 7) (bd (f_X1_putOn S5 a2 r4) fun x9 S10 => f_X10_redoOnDeck_399  S10)))
set_option maxHeartbeats 2000000 in
set_option maxRecDepth 100000 in
theorem t_X10_redoOnDeck_168 {l : Launch} (hls : l.stackTraces = false) {C : cT} (hC : CX C cX10_redoOnDeck 5 yX10_redoOnDeck rm_X10_redoOnDeck) (hl : C.2.1 = l) {S0 : mS} (hE : CE C S0 (Option.none : Option Jvm.ClassFile.FieldType) []) {o : Rs Unit} {S : mS} {a0 : Nat} {a2 : Nat} {a3 : Int32} (h : f_X10_redoOnDeck_168  S a0 a2 a3 = some o) : XX C 5 (QQ C (fun _ : Unit => none) S0 o) (0) (0) S 168 [(0, .ref a0), (2, .ref a2), (3, .int a3)] [] := by
  unfold f_X10_redoOnDeck_168 at h
  refine x_aload_n (pc := 168) hC 1 dX10_redoOnDeck_168 rfl rfl ?_
  refine x_aload_n (pc := 169) hC 0 dX10_redoOnDeck_169 rfl rfl ?_
  obtain ⟨g1, h⟩ := gd_some h
  refine x_getRv (pc := 170) (k := 1) hC fc_16 fl_RX10_16 dX10_redoOnDeck_170 rfl g1 (fun r2 hr2 => ?_)
  replace h := lt_x hr2 h
  refine x_iload_n (pc := 173) hC 2 dX10_redoOnDeck_173 rfl rfl ?_
  obtain ⟨g3, h⟩ := gd_some h
  obtain ⟨o6, ho6, h⟩ := bd_some h
  refine x_callV (pc := 174) (As := [.int a3]) (rest := [.ref a2]) hC hl (c_X8_discAt l hls ho6) lk_RX10_443 fc_14 g3 dX10_redoOnDeck_174 rfl rfl (Nat.le_of_ble_eq_true rfl) ⟨Nat.le_of_ble_eq_true rfl, Nat.le_of_ble_eq_true rfl⟩ ⟨(Nat.le_of_ble_eq_true rfl), (Nat.le_of_ble_eq_true rfl)⟩ ?_
  rcases o6 with ⟨r4 | E7, S5⟩
  · refine xk_a ?_
    replace h := bk_l h
    obtain ⟨g8, h⟩ := gd_some h
    obtain ⟨o11, ho11, h⟩ := bd_some h
    refine x_callV (pc := 177) (As := [.ref r4]) (rest := []) hC hl (c_X1_putOn l hls ho11) lk_RX10_131 fc_7 g8 dX10_redoOnDeck_177 rfl rfl (Nat.le_of_ble_eq_true rfl) ⟨Nat.le_of_ble_eq_true rfl, Nat.le_of_ble_eq_true rfl⟩ ⟨(Nat.le_of_ble_eq_true rfl), (Nat.le_of_ble_eq_true rfl)⟩ ?_
    rcases o11 with ⟨x9 | E12, S10⟩
    · refine xk_i ?_
      replace h := bk_l h
      refine x_pop (pc := 180) hC dX10_redoOnDeck_180 rfl ?_
      refine x_goto (pc := 181) hC 399 dX10_redoOnDeck_181 (by decide) ?_
      refine x_pick [] rfl ?_
      exact t_X10_redoOnDeck_399 hls hC hl hE h
    · exact xk_r (xt_out hC hE (bk_r h) (Nat.le_of_ble_eq_true rfl) (Nat.le_of_ble_eq_true rfl))
  · exact xk_r (xt_out hC hE (bk_r h) (Nat.le_of_ble_eq_true rfl) (Nat.le_of_ble_eq_true rfl))
def f_X10_redoOnDeck_184  (S : mS) (a2 : Nat) : Option (Rs Unit) :=
  gd (gK S a2 = 7) (bd (f_X1_start S a2) fun x2 S3 => f_X10_redoOnDeck_399  S3)
set_option maxHeartbeats 2000000 in
set_option maxRecDepth 100000 in
theorem t_X10_redoOnDeck_184 {l : Launch} (hls : l.stackTraces = false) {C : cT} (hC : CX C cX10_redoOnDeck 5 yX10_redoOnDeck rm_X10_redoOnDeck) (hl : C.2.1 = l) {S0 : mS} (hE : CE C S0 (Option.none : Option Jvm.ClassFile.FieldType) []) {o : Rs Unit} {S : mS} {a2 : Nat} (h : f_X10_redoOnDeck_184  S a2 = some o) : XX C 5 (QQ C (fun _ : Unit => none) S0 o) (0) (0) S 184 [(2, .ref a2)] [] := by
  unfold f_X10_redoOnDeck_184 at h
  refine x_aload_n (pc := 184) hC 0 dX10_redoOnDeck_184 rfl rfl ?_
  obtain ⟨g1, h⟩ := gd_some h
  obtain ⟨o4, ho4, h⟩ := bd_some h
  refine x_callV (pc := 185) (As := []) (rest := []) hC hl (c_X1_start l hls ho4) lk_RX10_139 fc_7 g1 dX10_redoOnDeck_185 rfl rfl (Nat.le_of_ble_eq_true rfl) ⟨Nat.le_of_ble_eq_true rfl, Nat.le_of_ble_eq_true rfl⟩ ⟨(Nat.le_of_ble_eq_true rfl), (Nat.le_of_ble_eq_true rfl)⟩ ?_
  rcases o4 with ⟨x2 | E5, S3⟩
  · refine xk_i ?_
    replace h := bk_l h
    refine x_pop (pc := 188) hC dX10_redoOnDeck_188 rfl ?_
    refine x_goto (pc := 189) hC 399 dX10_redoOnDeck_189 (by decide) ?_
    refine x_pick [] rfl ?_
    exact t_X10_redoOnDeck_399 hls hC hl hE h
  · exact xk_r (xt_out hC hE (bk_r h) (Nat.le_of_ble_eq_true rfl) (Nat.le_of_ble_eq_true rfl))
def f_X10_redoOnDeck_192  (S : mS) (a2 : Nat) : Option (Rs Unit) :=
  gd (gK S a2 = 7) (bd (f_X1_halt S a2) fun x2 S3 => f_X10_redoOnDeck_399  S3)
set_option maxHeartbeats 2000000 in
set_option maxRecDepth 100000 in
theorem t_X10_redoOnDeck_192 {l : Launch} (hls : l.stackTraces = false) {C : cT} (hC : CX C cX10_redoOnDeck 5 yX10_redoOnDeck rm_X10_redoOnDeck) (hl : C.2.1 = l) {S0 : mS} (hE : CE C S0 (Option.none : Option Jvm.ClassFile.FieldType) []) {o : Rs Unit} {S : mS} {a2 : Nat} (h : f_X10_redoOnDeck_192  S a2 = some o) : XX C 5 (QQ C (fun _ : Unit => none) S0 o) (0) (0) S 192 [(2, .ref a2)] [] := by
  unfold f_X10_redoOnDeck_192 at h
  refine x_aload_n (pc := 192) hC 0 dX10_redoOnDeck_192 rfl rfl ?_
  obtain ⟨g1, h⟩ := gd_some h
  obtain ⟨o4, ho4, h⟩ := bd_some h
  refine x_callV (pc := 193) (As := []) (rest := []) hC hl (c_X1_halt l hls ho4) lk_RX10_142 fc_7 g1 dX10_redoOnDeck_193 rfl rfl (Nat.le_of_ble_eq_true rfl) ⟨Nat.le_of_ble_eq_true rfl, Nat.le_of_ble_eq_true rfl⟩ ⟨(Nat.le_of_ble_eq_true rfl), (Nat.le_of_ble_eq_true rfl)⟩ ?_
  rcases o4 with ⟨x2 | E5, S3⟩
  · refine xk_i ?_
    replace h := bk_l h
    refine x_pop (pc := 196) hC dX10_redoOnDeck_196 rfl ?_
    refine x_goto (pc := 197) hC 399 dX10_redoOnDeck_197 (by decide) ?_
    refine x_pick [] rfl ?_
    exact t_X10_redoOnDeck_399 hls hC hl hE h
  · exact xk_r (xt_out hC hE (bk_r h) (Nat.le_of_ble_eq_true rfl) (Nat.le_of_ble_eq_true rfl))
def f_X10_redoOnDeck_200  (S : mS) (a2 : Nat) (a3 : Int32) : Option (Rs Unit) :=
  gd (gK S a2 = 7) (bd (f_X1_takePitch S a2 a3) fun x2 S3 => f_X10_redoOnDeck_399  S3)
set_option maxHeartbeats 2000000 in
set_option maxRecDepth 100000 in
theorem t_X10_redoOnDeck_200 {l : Launch} (hls : l.stackTraces = false) {C : cT} (hC : CX C cX10_redoOnDeck 5 yX10_redoOnDeck rm_X10_redoOnDeck) (hl : C.2.1 = l) {S0 : mS} (hE : CE C S0 (Option.none : Option Jvm.ClassFile.FieldType) []) {o : Rs Unit} {S : mS} {a2 : Nat} {a3 : Int32} (h : f_X10_redoOnDeck_200  S a2 a3 = some o) : XX C 5 (QQ C (fun _ : Unit => none) S0 o) (0) (0) S 200 [(2, .ref a2), (3, .int a3)] [] := by
  unfold f_X10_redoOnDeck_200 at h
  refine x_aload_n (pc := 200) hC 0 dX10_redoOnDeck_200 rfl rfl ?_
  refine x_iload_n (pc := 201) hC 1 dX10_redoOnDeck_201 rfl rfl ?_
  obtain ⟨g1, h⟩ := gd_some h
  obtain ⟨o4, ho4, h⟩ := bd_some h
  refine x_callV (pc := 202) (As := [.int a3]) (rest := []) hC hl (c_X1_takePitch l hls ho4) lk_RX10_145 fc_7 g1 dX10_redoOnDeck_202 rfl rfl (Nat.le_of_ble_eq_true rfl) ⟨Nat.le_of_ble_eq_true rfl, Nat.le_of_ble_eq_true rfl⟩ ⟨(Nat.le_of_ble_eq_true rfl), (Nat.le_of_ble_eq_true rfl)⟩ ?_
  rcases o4 with ⟨x2 | E5, S3⟩
  · refine xk_i ?_
    replace h := bk_l h
    refine x_pop (pc := 205) hC dX10_redoOnDeck_205 rfl ?_
    refine x_goto (pc := 206) hC 399 dX10_redoOnDeck_206 (by decide) ?_
    refine x_pick [] rfl ?_
    exact t_X10_redoOnDeck_399 hls hC hl hE h
  · exact xk_r (xt_out hC hE (bk_r h) (Nat.le_of_ble_eq_true rfl) (Nat.le_of_ble_eq_true rfl))
def f_X10_redoOnDeck_209  (S : mS) (a2 : Nat) (a3 : Int32) : Option (Rs Unit) :=
  gd (gK S a2 = 7) (bd (f_X1_push S a2 a3) fun x2 S3 => f_X10_redoOnDeck_399  S3)
set_option maxHeartbeats 2000000 in
set_option maxRecDepth 100000 in
theorem t_X10_redoOnDeck_209 {l : Launch} (hls : l.stackTraces = false) {C : cT} (hC : CX C cX10_redoOnDeck 5 yX10_redoOnDeck rm_X10_redoOnDeck) (hl : C.2.1 = l) {S0 : mS} (hE : CE C S0 (Option.none : Option Jvm.ClassFile.FieldType) []) {o : Rs Unit} {S : mS} {a2 : Nat} {a3 : Int32} (h : f_X10_redoOnDeck_209  S a2 a3 = some o) : XX C 5 (QQ C (fun _ : Unit => none) S0 o) (0) (0) S 209 [(2, .ref a2), (3, .int a3)] [] := by
  unfold f_X10_redoOnDeck_209 at h
  refine x_aload_n (pc := 209) hC 0 dX10_redoOnDeck_209 rfl rfl ?_
  refine x_iload_n (pc := 210) hC 1 dX10_redoOnDeck_210 rfl rfl ?_
  obtain ⟨g1, h⟩ := gd_some h
  obtain ⟨o4, ho4, h⟩ := bd_some h
  refine x_callV (pc := 211) (As := [.int a3]) (rest := []) hC hl (c_X1_push l hls ho4) lk_RX10_148 fc_7 g1 dX10_redoOnDeck_211 rfl rfl (Nat.le_of_ble_eq_true rfl) ⟨Nat.le_of_ble_eq_true rfl, Nat.le_of_ble_eq_true rfl⟩ ⟨(Nat.le_of_ble_eq_true rfl), (Nat.le_of_ble_eq_true rfl)⟩ ?_
  rcases o4 with ⟨x2 | E5, S3⟩
  · refine xk_i ?_
    replace h := bk_l h
    refine x_pop (pc := 214) hC dX10_redoOnDeck_214 rfl ?_
    refine x_goto (pc := 215) hC 399 dX10_redoOnDeck_215 (by decide) ?_
    refine x_pick [] rfl ?_
    exact t_X10_redoOnDeck_399 hls hC hl hE h
  · exact xk_r (xt_out hC hE (bk_r h) (Nat.le_of_ble_eq_true rfl) (Nat.le_of_ble_eq_true rfl))
def f_X10_redoOnDeck_218  (S : mS) (a2 : Nat) : Option (Rs Unit) :=
  gd (gK S a2 = 7) (bd (f_X1_slowDown S a2) fun x2 S3 => f_X10_redoOnDeck_399  S3)
set_option maxHeartbeats 2000000 in
set_option maxRecDepth 100000 in
theorem t_X10_redoOnDeck_218 {l : Launch} (hls : l.stackTraces = false) {C : cT} (hC : CX C cX10_redoOnDeck 5 yX10_redoOnDeck rm_X10_redoOnDeck) (hl : C.2.1 = l) {S0 : mS} (hE : CE C S0 (Option.none : Option Jvm.ClassFile.FieldType) []) {o : Rs Unit} {S : mS} {a2 : Nat} (h : f_X10_redoOnDeck_218  S a2 = some o) : XX C 5 (QQ C (fun _ : Unit => none) S0 o) (0) (0) S 218 [(2, .ref a2)] [] := by
  unfold f_X10_redoOnDeck_218 at h
  refine x_aload_n (pc := 218) hC 0 dX10_redoOnDeck_218 rfl rfl ?_
  obtain ⟨g1, h⟩ := gd_some h
  obtain ⟨o4, ho4, h⟩ := bd_some h
  refine x_callV (pc := 219) (As := []) (rest := []) hC hl (c_X1_slowDown l hls ho4) lk_RX10_151 fc_7 g1 dX10_redoOnDeck_219 rfl rfl (Nat.le_of_ble_eq_true rfl) ⟨Nat.le_of_ble_eq_true rfl, Nat.le_of_ble_eq_true rfl⟩ ⟨(Nat.le_of_ble_eq_true rfl), (Nat.le_of_ble_eq_true rfl)⟩ ?_
  rcases o4 with ⟨x2 | E5, S3⟩
  · refine xk_i ?_
    replace h := bk_l h
    refine x_pop (pc := 222) hC dX10_redoOnDeck_222 rfl ?_
    refine x_goto (pc := 223) hC 399 dX10_redoOnDeck_223 (by decide) ?_
    refine x_pick [] rfl ?_
    exact t_X10_redoOnDeck_399 hls hC hl hE h
  · exact xk_r (xt_out hC hE (bk_r h) (Nat.le_of_ble_eq_true rfl) (Nat.le_of_ble_eq_true rfl))
def f_X10_redoOnDeck_226  (S : mS) (a2 : Nat) (a3 : Int32) : Option (Rs Unit) :=
  gd (gK S a2 = 7) (bd (f_X1_jumpTo S a2 a3) fun x2 S3 => f_X10_redoOnDeck_399  S3)
set_option maxHeartbeats 2000000 in
set_option maxRecDepth 100000 in
theorem t_X10_redoOnDeck_226 {l : Launch} (hls : l.stackTraces = false) {C : cT} (hC : CX C cX10_redoOnDeck 5 yX10_redoOnDeck rm_X10_redoOnDeck) (hl : C.2.1 = l) {S0 : mS} (hE : CE C S0 (Option.none : Option Jvm.ClassFile.FieldType) []) {o : Rs Unit} {S : mS} {a2 : Nat} {a3 : Int32} (h : f_X10_redoOnDeck_226  S a2 a3 = some o) : XX C 5 (QQ C (fun _ : Unit => none) S0 o) (0) (0) S 226 [(2, .ref a2), (3, .int a3)] [] := by
  unfold f_X10_redoOnDeck_226 at h
  refine x_aload_n (pc := 226) hC 0 dX10_redoOnDeck_226 rfl rfl ?_
  refine x_iload_n (pc := 227) hC 1 dX10_redoOnDeck_227 rfl rfl ?_
  obtain ⟨g1, h⟩ := gd_some h
  obtain ⟨o4, ho4, h⟩ := bd_some h
  refine x_callV (pc := 228) (As := [.int a3]) (rest := []) hC hl (c_X1_jumpTo l hls ho4) lk_RX10_157 fc_7 g1 dX10_redoOnDeck_228 rfl rfl (Nat.le_of_ble_eq_true rfl) ⟨Nat.le_of_ble_eq_true rfl, Nat.le_of_ble_eq_true rfl⟩ ⟨(Nat.le_of_ble_eq_true rfl), (Nat.le_of_ble_eq_true rfl)⟩ ?_
  rcases o4 with ⟨x2 | E5, S3⟩
  · refine xk_i ?_
    replace h := bk_l h
    refine x_pop (pc := 231) hC dX10_redoOnDeck_231 rfl ?_
    refine x_goto (pc := 232) hC 399 dX10_redoOnDeck_232 (by decide) ?_
    refine x_pick [] rfl ?_
    exact t_X10_redoOnDeck_399 hls hC hl hE h
  · exact xk_r (xt_out hC hE (bk_r h) (Nat.le_of_ble_eq_true rfl) (Nat.le_of_ble_eq_true rfl))
def f_X10_redoOnDeck_235  (S : mS) (a2 : Nat) (a3 : Int32) : Option (Rs Unit) :=
  gd (gK S a2 = 7) (bd (f_X1_mark S a2 a3) fun x2 S3 => f_X10_redoOnDeck_399  S3)
set_option maxHeartbeats 2000000 in
set_option maxRecDepth 100000 in
theorem t_X10_redoOnDeck_235 {l : Launch} (hls : l.stackTraces = false) {C : cT} (hC : CX C cX10_redoOnDeck 5 yX10_redoOnDeck rm_X10_redoOnDeck) (hl : C.2.1 = l) {S0 : mS} (hE : CE C S0 (Option.none : Option Jvm.ClassFile.FieldType) []) {o : Rs Unit} {S : mS} {a2 : Nat} {a3 : Int32} (h : f_X10_redoOnDeck_235  S a2 a3 = some o) : XX C 5 (QQ C (fun _ : Unit => none) S0 o) (0) (0) S 235 [(2, .ref a2), (3, .int a3)] [] := by
  unfold f_X10_redoOnDeck_235 at h
  refine x_aload_n (pc := 235) hC 0 dX10_redoOnDeck_235 rfl rfl ?_
  refine x_iload_n (pc := 236) hC 1 dX10_redoOnDeck_236 rfl rfl ?_
  obtain ⟨g1, h⟩ := gd_some h
  obtain ⟨o4, ho4, h⟩ := bd_some h
  refine x_callV (pc := 237) (As := [.int a3]) (rest := []) hC hl (c_X1_mark l hls ho4) lk_RX10_160 fc_7 g1 dX10_redoOnDeck_237 rfl rfl (Nat.le_of_ble_eq_true rfl) ⟨Nat.le_of_ble_eq_true rfl, Nat.le_of_ble_eq_true rfl⟩ ⟨(Nat.le_of_ble_eq_true rfl), (Nat.le_of_ble_eq_true rfl)⟩ ?_
  rcases o4 with ⟨x2 | E5, S3⟩
  · refine xk_i ?_
    replace h := bk_l h
    refine x_pop (pc := 240) hC dX10_redoOnDeck_240 rfl ?_
    refine x_goto (pc := 241) hC 399 dX10_redoOnDeck_241 (by decide) ?_
    refine x_pick [] rfl ?_
    exact t_X10_redoOnDeck_399 hls hC hl hE h
  · exact xk_r (xt_out hC hE (bk_r h) (Nat.le_of_ble_eq_true rfl) (Nat.le_of_ble_eq_true rfl))
def f_X10_redoOnDeck_244  (S : mS) (a2 : Nat) (a3 : Int32) : Option (Rs Unit) :=
  gd (gK S a2 = 7) (bd (f_X1_turnRound S a2 a3) fun x2 S3 => f_X10_redoOnDeck_399  S3)
set_option maxHeartbeats 2000000 in
set_option maxRecDepth 100000 in
theorem t_X10_redoOnDeck_244 {l : Launch} (hls : l.stackTraces = false) {C : cT} (hC : CX C cX10_redoOnDeck 5 yX10_redoOnDeck rm_X10_redoOnDeck) (hl : C.2.1 = l) {S0 : mS} (hE : CE C S0 (Option.none : Option Jvm.ClassFile.FieldType) []) {o : Rs Unit} {S : mS} {a2 : Nat} {a3 : Int32} (h : f_X10_redoOnDeck_244  S a2 a3 = some o) : XX C 5 (QQ C (fun _ : Unit => none) S0 o) (0) (0) S 244 [(2, .ref a2), (3, .int a3)] [] := by
  unfold f_X10_redoOnDeck_244 at h
  refine x_aload_n (pc := 244) hC 0 dX10_redoOnDeck_244 rfl rfl ?_
  refine x_iload_n (pc := 245) hC 1 dX10_redoOnDeck_245 rfl rfl ?_
  obtain ⟨g1, h⟩ := gd_some h
  obtain ⟨o4, ho4, h⟩ := bd_some h
  refine x_callV (pc := 246) (As := [.int a3]) (rest := []) hC hl (c_X1_turnRound l hls ho4) lk_RX10_168 fc_7 g1 dX10_redoOnDeck_246 rfl rfl (Nat.le_of_ble_eq_true rfl) ⟨Nat.le_of_ble_eq_true rfl, Nat.le_of_ble_eq_true rfl⟩ ⟨(Nat.le_of_ble_eq_true rfl), (Nat.le_of_ble_eq_true rfl)⟩ ?_
  rcases o4 with ⟨x2 | E5, S3⟩
  · refine xk_i ?_
    replace h := bk_l h
    refine x_pop (pc := 249) hC dX10_redoOnDeck_249 rfl ?_
    refine x_goto (pc := 250) hC 399 dX10_redoOnDeck_250 (by decide) ?_
    refine x_pick [] rfl ?_
    exact t_X10_redoOnDeck_399 hls hC hl hE h
  · exact xk_r (xt_out hC hE (bk_r h) (Nat.le_of_ble_eq_true rfl) (Nat.le_of_ble_eq_true rfl))
def f_X10_redoOnDeck_253  (S : mS) (a2 : Nat) : Option (Rs Unit) :=
  gd (gK S a2 = 7) (bd (f_X1_leaveLoop S a2) fun x2 S3 => f_X10_redoOnDeck_399  S3)
set_option maxHeartbeats 2000000 in
set_option maxRecDepth 100000 in
theorem t_X10_redoOnDeck_253 {l : Launch} (hls : l.stackTraces = false) {C : cT} (hC : CX C cX10_redoOnDeck 5 yX10_redoOnDeck rm_X10_redoOnDeck) (hl : C.2.1 = l) {S0 : mS} (hE : CE C S0 (Option.none : Option Jvm.ClassFile.FieldType) []) {o : Rs Unit} {S : mS} {a2 : Nat} (h : f_X10_redoOnDeck_253  S a2 = some o) : XX C 5 (QQ C (fun _ : Unit => none) S0 o) (0) (0) S 253 [(2, .ref a2)] [] := by
  unfold f_X10_redoOnDeck_253 at h
  refine x_aload_n (pc := 253) hC 0 dX10_redoOnDeck_253 rfl rfl ?_
  obtain ⟨g1, h⟩ := gd_some h
  obtain ⟨o4, ho4, h⟩ := bd_some h
  refine x_callV (pc := 254) (As := []) (rest := []) hC hl (c_X1_leaveLoop l hls ho4) lk_RX10_171 fc_7 g1 dX10_redoOnDeck_254 rfl rfl (Nat.le_of_ble_eq_true rfl) ⟨Nat.le_of_ble_eq_true rfl, Nat.le_of_ble_eq_true rfl⟩ ⟨(Nat.le_of_ble_eq_true rfl), (Nat.le_of_ble_eq_true rfl)⟩ ?_
  rcases o4 with ⟨x2 | E5, S3⟩
  · refine xk_i ?_
    replace h := bk_l h
    refine x_pop (pc := 257) hC dX10_redoOnDeck_257 rfl ?_
    refine x_goto (pc := 258) hC 399 dX10_redoOnDeck_258 (by decide) ?_
    refine x_pick [] rfl ?_
    exact t_X10_redoOnDeck_399 hls hC hl hE h
  · exact xk_r (xt_out hC hE (bk_r h) (Nat.le_of_ble_eq_true rfl) (Nat.le_of_ble_eq_true rfl))
def f_X10_redoOnDeck_272  (S : mS) (s0 : Nat) (s1 : Int32) : Option (Rs Unit) :=
  gd (gK S s0 = 7) (bd (f_X1_turnSlip S s0 s1) fun x2 S3 => f_X10_redoOnDeck_399  S3)
set_option maxHeartbeats 2000000 in
set_option maxRecDepth 100000 in
theorem t_X10_redoOnDeck_272 {l : Launch} (hls : l.stackTraces = false) {C : cT} (hC : CX C cX10_redoOnDeck 5 yX10_redoOnDeck rm_X10_redoOnDeck) (hl : C.2.1 = l) {S0 : mS} (hE : CE C S0 (Option.none : Option Jvm.ClassFile.FieldType) []) {o : Rs Unit} {S : mS} {s0 : Nat} {s1 : Int32} (h : f_X10_redoOnDeck_272  S s0 s1 = some o) : XX C 5 (QQ C (fun _ : Unit => none) S0 o) (0) (0) S 272 [] [.int s1, .ref s0] := by
  unfold f_X10_redoOnDeck_272 at h
  obtain ⟨g1, h⟩ := gd_some h
  obtain ⟨o4, ho4, h⟩ := bd_some h
  refine x_callV (pc := 272) (As := [.int s1]) (rest := []) hC hl (c_X1_turnSlip l hls ho4) lk_RX10_174 fc_7 g1 dX10_redoOnDeck_272 rfl rfl (Nat.le_of_ble_eq_true rfl) ⟨Nat.le_of_ble_eq_true rfl, Nat.le_of_ble_eq_true rfl⟩ ⟨(Nat.le_of_ble_eq_true rfl), (Nat.le_of_ble_eq_true rfl)⟩ ?_
  rcases o4 with ⟨x2 | E5, S3⟩
  · refine xk_i ?_
    replace h := bk_l h
    refine x_pop (pc := 275) hC dX10_redoOnDeck_275 rfl ?_
    refine x_goto (pc := 276) hC 399 dX10_redoOnDeck_276 (by decide) ?_
    refine x_pick [] rfl ?_
    exact t_X10_redoOnDeck_399 hls hC hl hE h
  · exact xk_r (xt_out hC hE (bk_r h) (Nat.le_of_ble_eq_true rfl) (Nat.le_of_ble_eq_true rfl))
def f_X10_redoOnDeck_261  (S : mS) (a2 : Nat) (a3 : Int32) : Option (Rs Unit) :=
  if a3 = (1 : Int32) then (f_X10_redoOnDeck_272  S a2 (1 : Int32)) else (f_X10_redoOnDeck_272  S a2 (0 : Int32))
set_option maxHeartbeats 2000000 in
set_option maxRecDepth 100000 in
theorem t_X10_redoOnDeck_261 {l : Launch} (hls : l.stackTraces = false) {C : cT} (hC : CX C cX10_redoOnDeck 5 yX10_redoOnDeck rm_X10_redoOnDeck) (hl : C.2.1 = l) {S0 : mS} (hE : CE C S0 (Option.none : Option Jvm.ClassFile.FieldType) []) {o : Rs Unit} {S : mS} {a2 : Nat} {a3 : Int32} (h : f_X10_redoOnDeck_261  S a2 a3 = some o) : XX C 5 (QQ C (fun _ : Unit => none) S0 o) (0) (0) S 261 [(2, .ref a2), (3, .int a3)] [] := by
  unfold f_X10_redoOnDeck_261 at h
  refine x_aload_n (pc := 261) hC 0 dX10_redoOnDeck_261 rfl rfl ?_
  refine x_iload_n (pc := 262) hC 1 dX10_redoOnDeck_262 rfl rfl ?_
  refine x_iconst (pc := 263) (v := (1 : Int32)) hC dX10_redoOnDeck_263 (by decide) ?_
  refine x_icmp_ne (pc := 264) hC 271 dX10_redoOnDeck_264 (by decide) (fun c1 => ?_) (fun c1 => ?_)
  · rw [if_neg c1] at h
    refine x_iconst (pc := 271) (v := (0 : Int32)) hC dX10_redoOnDeck_271 (by decide) ?_
    refine x_pick [] rfl ?_
    exact t_X10_redoOnDeck_272 hls hC hl hE h
  · rw [if_pos c1] at h
    refine x_iconst (pc := 267) (v := (1 : Int32)) hC dX10_redoOnDeck_267 (by decide) ?_
    refine x_goto (pc := 268) hC 272 dX10_redoOnDeck_268 (by decide) ?_
    refine x_pick [] rfl ?_
    exact t_X10_redoOnDeck_272 hls hC hl hE h
def f_X10_redoOnDeck_279  (S : mS) (a2 : Nat) (a3 : Int32) : Option (Rs Unit) :=
  gd (gK S a2 = 7) (lt9 (gR S a2 0) fun r2 => gd (gK S r2 = 6) (bd (f_X0_slide S r2 a3) fun x4 S5 => f_X10_redoOnDeck_399  S5))
set_option maxHeartbeats 2000000 in
set_option maxRecDepth 100000 in
theorem t_X10_redoOnDeck_279 {l : Launch} (hls : l.stackTraces = false) {C : cT} (hC : CX C cX10_redoOnDeck 5 yX10_redoOnDeck rm_X10_redoOnDeck) (hl : C.2.1 = l) {S0 : mS} (hE : CE C S0 (Option.none : Option Jvm.ClassFile.FieldType) []) {o : Rs Unit} {S : mS} {a2 : Nat} {a3 : Int32} (h : f_X10_redoOnDeck_279  S a2 a3 = some o) : XX C 5 (QQ C (fun _ : Unit => none) S0 o) (0) (0) S 279 [(2, .ref a2), (3, .int a3)] [] := by
  unfold f_X10_redoOnDeck_279 at h
  refine x_aload_n (pc := 279) hC 0 dX10_redoOnDeck_279 rfl rfl ?_
  obtain ⟨g1, h⟩ := gd_some h
  refine x_getRv (pc := 280) (k := 0) hC fc_7 fl_RX10_197 dX10_redoOnDeck_280 rfl g1 (fun r2 hr2 => ?_)
  replace h := lt_x hr2 h
  refine x_iload_n (pc := 283) hC 1 dX10_redoOnDeck_283 rfl rfl ?_
  obtain ⟨g3, h⟩ := gd_some h
  obtain ⟨o6, ho6, h⟩ := bd_some h
  refine x_callV (pc := 284) (As := [.int a3]) (rest := []) hC hl (c_X0_slide l hls ho6) lk_RX10_201 fc_6 g3 dX10_redoOnDeck_284 rfl rfl (Nat.le_of_ble_eq_true rfl) ⟨Nat.le_of_ble_eq_true rfl, Nat.le_of_ble_eq_true rfl⟩ ⟨(Nat.le_of_ble_eq_true rfl), (Nat.le_of_ble_eq_true rfl)⟩ ?_
  rcases o6 with ⟨x4 | E7, S5⟩
  · refine xk_i ?_
    replace h := bk_l h
    refine x_pop (pc := 287) hC dX10_redoOnDeck_287 rfl ?_
    refine x_goto (pc := 288) hC 399 dX10_redoOnDeck_288 (by decide) ?_
    refine x_pick [] rfl ?_
    exact t_X10_redoOnDeck_399 hls hC hl hE h
  · exact xk_r (xt_out hC hE (bk_r h) (Nat.le_of_ble_eq_true rfl) (Nat.le_of_ble_eq_true rfl))
def f_X10_redoOnDeck_291  (S : mS) (a2 : Nat) (a3 : Int32) (a4 : Int32) : Option (Rs Unit) :=
  gd (gK S a2 = 7) (lt9 (gR S a2 0) fun r2 => gd (gK S r2 = 6) (bd (f_X0_turnBand S r2 a3 a4) fun x4 S5 => f_X10_redoOnDeck_399  S5))
set_option maxHeartbeats 2000000 in
set_option maxRecDepth 100000 in
theorem t_X10_redoOnDeck_291 {l : Launch} (hls : l.stackTraces = false) {C : cT} (hC : CX C cX10_redoOnDeck 5 yX10_redoOnDeck rm_X10_redoOnDeck) (hl : C.2.1 = l) {S0 : mS} (hE : CE C S0 (Option.none : Option Jvm.ClassFile.FieldType) []) {o : Rs Unit} {S : mS} {a2 : Nat} {a3 : Int32} {a4 : Int32} (h : f_X10_redoOnDeck_291  S a2 a3 a4 = some o) : XX C 5 (QQ C (fun _ : Unit => none) S0 o) (0) (0) S 291 [(2, .ref a2), (3, .int a3), (4, .int a4)] [] := by
  unfold f_X10_redoOnDeck_291 at h
  refine x_aload_n (pc := 291) hC 0 dX10_redoOnDeck_291 rfl rfl ?_
  obtain ⟨g1, h⟩ := gd_some h
  refine x_getRv (pc := 292) (k := 0) hC fc_7 fl_RX10_197 dX10_redoOnDeck_292 rfl g1 (fun r2 hr2 => ?_)
  replace h := lt_x hr2 h
  refine x_iload_n (pc := 295) hC 1 dX10_redoOnDeck_295 rfl rfl ?_
  refine x_iload (pc := 296) hC 2 dX10_redoOnDeck_296 rfl ?_
  obtain ⟨g3, h⟩ := gd_some h
  obtain ⟨o6, ho6, h⟩ := bd_some h
  refine x_callV (pc := 298) (As := [.int a3, .int a4]) (rest := []) hC hl (c_X0_turnBand l hls ho6) lk_RX10_206 fc_6 g3 dX10_redoOnDeck_298 rfl rfl (Nat.le_of_ble_eq_true rfl) ⟨Nat.le_of_ble_eq_true rfl, Nat.le_of_ble_eq_true rfl⟩ ⟨(Nat.le_of_ble_eq_true rfl), (Nat.le_of_ble_eq_true rfl)⟩ ?_
  rcases o6 with ⟨x4 | E7, S5⟩
  · refine xk_i ?_
    replace h := bk_l h
    refine x_pop (pc := 301) hC dX10_redoOnDeck_301 rfl ?_
    refine x_goto (pc := 302) hC 399 dX10_redoOnDeck_302 (by decide) ?_
    refine x_pick [] rfl ?_
    exact t_X10_redoOnDeck_399 hls hC hl hE h
  · exact xk_r (xt_out hC hE (bk_r h) (Nat.le_of_ble_eq_true rfl) (Nat.le_of_ble_eq_true rfl))
def f_X10_redoOnDeck_305  (S : mS) (a2 : Nat) (a3 : Int32) : Option (Rs Unit) :=
  gd (gK S a2 = 7) (lt9 (gR S a2 0) fun r2 => lt9 (((a3).toUInt32 % 65536).toInt32) fun x3 => gd (gK S r2 = 6) (bd (f_X0_changeSide S r2 x3) fun x5 S6 => f_X10_redoOnDeck_399  S6))
set_option maxHeartbeats 2000000 in
set_option maxRecDepth 100000 in
theorem t_X10_redoOnDeck_305 {l : Launch} (hls : l.stackTraces = false) {C : cT} (hC : CX C cX10_redoOnDeck 5 yX10_redoOnDeck rm_X10_redoOnDeck) (hl : C.2.1 = l) {S0 : mS} (hE : CE C S0 (Option.none : Option Jvm.ClassFile.FieldType) []) {o : Rs Unit} {S : mS} {a2 : Nat} {a3 : Int32} (h : f_X10_redoOnDeck_305  S a2 a3 = some o) : XX C 5 (QQ C (fun _ : Unit => none) S0 o) (0) (0) S 305 [(2, .ref a2), (3, .int a3)] [] := by
  unfold f_X10_redoOnDeck_305 at h
  refine x_aload_n (pc := 305) hC 0 dX10_redoOnDeck_305 rfl rfl ?_
  obtain ⟨g1, h⟩ := gd_some h
  refine x_getRv (pc := 306) (k := 0) hC fc_7 fl_RX10_197 dX10_redoOnDeck_306 rfl g1 (fun r2 hr2 => ?_)
  replace h := lt_x hr2 h
  refine x_iload_n (pc := 309) hC 1 dX10_redoOnDeck_309 rfl rfl ?_
  refine x_i2cv (pc := 310) hC dX10_redoOnDeck_310 (fun x3 hx3 => ?_)
  replace h := lt_x hx3 h
  obtain ⟨g4, h⟩ := gd_some h
  obtain ⟨o7, ho7, h⟩ := bd_some h
  refine x_callV (pc := 311) (As := [.int x3]) (rest := []) hC hl (c_X0_changeSide l hls ho7) lk_RX10_209 fc_6 g4 dX10_redoOnDeck_311 rfl rfl (Nat.le_of_ble_eq_true rfl) ⟨Nat.le_of_ble_eq_true rfl, Nat.le_of_ble_eq_true rfl⟩ ⟨(Nat.le_of_ble_eq_true rfl), (Nat.le_of_ble_eq_true rfl)⟩ ?_
  rcases o7 with ⟨x5 | E8, S6⟩
  · refine xk_i ?_
    replace h := bk_l h
    refine x_pop (pc := 314) hC dX10_redoOnDeck_314 rfl ?_
    refine x_goto (pc := 315) hC 399 dX10_redoOnDeck_315 (by decide) ?_
    refine x_pick [] rfl ?_
    exact t_X10_redoOnDeck_399 hls hC hl hE h
  · exact xk_r (xt_out hC hE (bk_r h) (Nat.le_of_ble_eq_true rfl) (Nat.le_of_ble_eq_true rfl))
def f_X10_redoOnDeck_318  (S : mS) (a2 : Nat) (a3 : Int32) (a4 : Int32) : Option (Rs Unit) :=
  gd (gK S a2 = 7) (lt9 (gR S a2 0) fun r2 => lt9 (((a3).toUInt32 % 65536).toInt32) fun x3 => gd (gK S r2 = 6) (bd (f_X0_plugIn S r2 x3 a4) fun x5 S6 => f_X10_redoOnDeck_399  S6))
set_option maxHeartbeats 2000000 in
set_option maxRecDepth 100000 in
theorem t_X10_redoOnDeck_318 {l : Launch} (hls : l.stackTraces = false) {C : cT} (hC : CX C cX10_redoOnDeck 5 yX10_redoOnDeck rm_X10_redoOnDeck) (hl : C.2.1 = l) {S0 : mS} (hE : CE C S0 (Option.none : Option Jvm.ClassFile.FieldType) []) {o : Rs Unit} {S : mS} {a2 : Nat} {a3 : Int32} {a4 : Int32} (h : f_X10_redoOnDeck_318  S a2 a3 a4 = some o) : XX C 5 (QQ C (fun _ : Unit => none) S0 o) (0) (0) S 318 [(2, .ref a2), (3, .int a3), (4, .int a4)] [] := by
  unfold f_X10_redoOnDeck_318 at h
  refine x_aload_n (pc := 318) hC 0 dX10_redoOnDeck_318 rfl rfl ?_
  obtain ⟨g1, h⟩ := gd_some h
  refine x_getRv (pc := 319) (k := 0) hC fc_7 fl_RX10_197 dX10_redoOnDeck_319 rfl g1 (fun r2 hr2 => ?_)
  replace h := lt_x hr2 h
  refine x_iload_n (pc := 322) hC 1 dX10_redoOnDeck_322 rfl rfl ?_
  refine x_i2cv (pc := 323) hC dX10_redoOnDeck_323 (fun x3 hx3 => ?_)
  replace h := lt_x hx3 h
  refine x_iload (pc := 324) hC 2 dX10_redoOnDeck_324 rfl ?_
  obtain ⟨g4, h⟩ := gd_some h
  obtain ⟨o7, ho7, h⟩ := bd_some h
  refine x_callV (pc := 326) (As := [.int x3, .int a4]) (rest := []) hC hl (c_X0_plugIn l hls ho7) lk_RX10_231 fc_6 g4 dX10_redoOnDeck_326 rfl rfl (Nat.le_of_ble_eq_true rfl) ⟨Nat.le_of_ble_eq_true rfl, Nat.le_of_ble_eq_true rfl⟩ ⟨(Nat.le_of_ble_eq_true rfl), (Nat.le_of_ble_eq_true rfl)⟩ ?_
  rcases o7 with ⟨x5 | E8, S6⟩
  · refine xk_i ?_
    replace h := bk_l h
    refine x_pop (pc := 329) hC dX10_redoOnDeck_329 rfl ?_
    refine x_goto (pc := 330) hC 399 dX10_redoOnDeck_330 (by decide) ?_
    refine x_pick [] rfl ?_
    exact t_X10_redoOnDeck_399 hls hC hl hE h
  · exact xk_r (xt_out hC hE (bk_r h) (Nat.le_of_ble_eq_true rfl) (Nat.le_of_ble_eq_true rfl))
def f_X10_redoOnDeck_333  (S : mS) (a2 : Nat) : Option (Rs Unit) :=
  gd (gK S a2 = 7) (lt9 (gR S a2 0) fun r2 => gd (gK S r2 = 6) (bd (f_X0_unplug S r2) fun x4 S5 => f_X10_redoOnDeck_399  S5))
set_option maxHeartbeats 2000000 in
set_option maxRecDepth 100000 in
theorem t_X10_redoOnDeck_333 {l : Launch} (hls : l.stackTraces = false) {C : cT} (hC : CX C cX10_redoOnDeck 5 yX10_redoOnDeck rm_X10_redoOnDeck) (hl : C.2.1 = l) {S0 : mS} (hE : CE C S0 (Option.none : Option Jvm.ClassFile.FieldType) []) {o : Rs Unit} {S : mS} {a2 : Nat} (h : f_X10_redoOnDeck_333  S a2 = some o) : XX C 5 (QQ C (fun _ : Unit => none) S0 o) (0) (0) S 333 [(2, .ref a2)] [] := by
  unfold f_X10_redoOnDeck_333 at h
  refine x_aload_n (pc := 333) hC 0 dX10_redoOnDeck_333 rfl rfl ?_
  obtain ⟨g1, h⟩ := gd_some h
  refine x_getRv (pc := 334) (k := 0) hC fc_7 fl_RX10_197 dX10_redoOnDeck_334 rfl g1 (fun r2 hr2 => ?_)
  replace h := lt_x hr2 h
  obtain ⟨g3, h⟩ := gd_some h
  obtain ⟨o6, ho6, h⟩ := bd_some h
  refine x_callV (pc := 337) (As := []) (rest := []) hC hl (c_X0_unplug l hls ho6) lk_RX10_235 fc_6 g3 dX10_redoOnDeck_337 rfl rfl (Nat.le_of_ble_eq_true rfl) ⟨Nat.le_of_ble_eq_true rfl, Nat.le_of_ble_eq_true rfl⟩ ⟨(Nat.le_of_ble_eq_true rfl), (Nat.le_of_ble_eq_true rfl)⟩ ?_
  rcases o6 with ⟨x4 | E7, S5⟩
  · refine xk_i ?_
    replace h := bk_l h
    refine x_pop (pc := 340) hC dX10_redoOnDeck_340 rfl ?_
    refine x_goto (pc := 341) hC 399 dX10_redoOnDeck_341 (by decide) ?_
    refine x_pick [] rfl ?_
    exact t_X10_redoOnDeck_399 hls hC hl hE h
  · exact xk_r (xt_out hC hE (bk_r h) (Nat.le_of_ble_eq_true rfl) (Nat.le_of_ble_eq_true rfl))
def f_X10_redoOnDeck_344  (S : mS) (a0 : Nat) (a2 : Nat) (a3 : Int32) : Option (Rs Unit) :=
  gd (gK S a0 = 16) (lt9 (gR S a0 1) fun r2 => gd (gK S r2 = 14) (bd (f_X8_deckAt S r2 a3) fun r4 S5 => gd (gK S5 a2 = 7) (bd (f_X1_lockTo S5 a2 r4) fun x9 S10 => f_X10_redoOnDeck_399  S10)))
set_option maxHeartbeats 2000000 in
set_option maxRecDepth 100000 in
theorem t_X10_redoOnDeck_344 {l : Launch} (hls : l.stackTraces = false) {C : cT} (hC : CX C cX10_redoOnDeck 5 yX10_redoOnDeck rm_X10_redoOnDeck) (hl : C.2.1 = l) {S0 : mS} (hE : CE C S0 (Option.none : Option Jvm.ClassFile.FieldType) []) {o : Rs Unit} {S : mS} {a0 : Nat} {a2 : Nat} {a3 : Int32} (h : f_X10_redoOnDeck_344  S a0 a2 a3 = some o) : XX C 5 (QQ C (fun _ : Unit => none) S0 o) (0) (0) S 344 [(0, .ref a0), (2, .ref a2), (3, .int a3)] [] := by
  unfold f_X10_redoOnDeck_344 at h
  refine x_aload_n (pc := 344) hC 1 dX10_redoOnDeck_344 rfl rfl ?_
  refine x_aload_n (pc := 345) hC 0 dX10_redoOnDeck_345 rfl rfl ?_
  obtain ⟨g1, h⟩ := gd_some h
  refine x_getRv (pc := 346) (k := 1) hC fc_16 fl_RX10_16 dX10_redoOnDeck_346 rfl g1 (fun r2 hr2 => ?_)
  replace h := lt_x hr2 h
  refine x_iload_n (pc := 349) hC 2 dX10_redoOnDeck_349 rfl rfl ?_
  obtain ⟨g3, h⟩ := gd_some h
  obtain ⟨o6, ho6, h⟩ := bd_some h
  refine x_callV (pc := 350) (As := [.int a3]) (rest := [.ref a2]) hC hl (c_X8_deckAt l hls ho6) lk_RX10_435 fc_14 g3 dX10_redoOnDeck_350 rfl rfl (Nat.le_of_ble_eq_true rfl) ⟨Nat.le_of_ble_eq_true rfl, Nat.le_of_ble_eq_true rfl⟩ ⟨(Nat.le_of_ble_eq_true rfl), (Nat.le_of_ble_eq_true rfl)⟩ ?_
  rcases o6 with ⟨r4 | E7, S5⟩
  · refine xk_a ?_
    replace h := bk_l h
    obtain ⟨g8, h⟩ := gd_some h
    obtain ⟨o11, ho11, h⟩ := bd_some h
    refine x_callV (pc := 353) (As := [.ref r4]) (rest := []) hC hl (c_X1_lockTo l hls ho11) lk_RX10_275 fc_7 g8 dX10_redoOnDeck_353 rfl rfl (Nat.le_of_ble_eq_true rfl) ⟨Nat.le_of_ble_eq_true rfl, Nat.le_of_ble_eq_true rfl⟩ ⟨(Nat.le_of_ble_eq_true rfl), (Nat.le_of_ble_eq_true rfl)⟩ ?_
    rcases o11 with ⟨x9 | E12, S10⟩
    · refine xk_i ?_
      replace h := bk_l h
      refine x_pop (pc := 356) hC dX10_redoOnDeck_356 rfl ?_
      refine x_goto (pc := 357) hC 399 dX10_redoOnDeck_357 (by decide) ?_
      refine x_pick [] rfl ?_
      exact t_X10_redoOnDeck_399 hls hC hl hE h
    · exact xk_r (xt_out hC hE (bk_r h) (Nat.le_of_ble_eq_true rfl) (Nat.le_of_ble_eq_true rfl))
  · exact xk_r (xt_out hC hE (bk_r h) (Nat.le_of_ble_eq_true rfl) (Nat.le_of_ble_eq_true rfl))
def f_X10_redoOnDeck_360  (S : mS) (a0 : Nat) (a2 : Nat) (a3 : Int32) (a4 : Int32) : Option (Rs Unit) :=
  gd (gK S a0 = 16) (lt9 (gR S a0 1) fun r2 => gd (gK S r2 = 14) (bd (f_X8_deckAt S r2 a3) fun r4 S5 => gd (gK S5 a2 = 7) (bd (f_X1_listenTo S5 a2 r4 a4) fun x9 S10 => f_X10_redoOnDeck_399  S10)))
set_option maxHeartbeats 2000000 in
set_option maxRecDepth 100000 in
theorem t_X10_redoOnDeck_360 {l : Launch} (hls : l.stackTraces = false) {C : cT} (hC : CX C cX10_redoOnDeck 5 yX10_redoOnDeck rm_X10_redoOnDeck) (hl : C.2.1 = l) {S0 : mS} (hE : CE C S0 (Option.none : Option Jvm.ClassFile.FieldType) []) {o : Rs Unit} {S : mS} {a0 : Nat} {a2 : Nat} {a3 : Int32} {a4 : Int32} (h : f_X10_redoOnDeck_360  S a0 a2 a3 a4 = some o) : XX C 5 (QQ C (fun _ : Unit => none) S0 o) (0) (0) S 360 [(0, .ref a0), (2, .ref a2), (3, .int a3), (4, .int a4)] [] := by
  unfold f_X10_redoOnDeck_360 at h
  refine x_aload_n (pc := 360) hC 1 dX10_redoOnDeck_360 rfl rfl ?_
  refine x_aload_n (pc := 361) hC 0 dX10_redoOnDeck_361 rfl rfl ?_
  obtain ⟨g1, h⟩ := gd_some h
  refine x_getRv (pc := 362) (k := 1) hC fc_16 fl_RX10_16 dX10_redoOnDeck_362 rfl g1 (fun r2 hr2 => ?_)
  replace h := lt_x hr2 h
  refine x_iload_n (pc := 365) hC 2 dX10_redoOnDeck_365 rfl rfl ?_
  obtain ⟨g3, h⟩ := gd_some h
  obtain ⟨o6, ho6, h⟩ := bd_some h
  refine x_callV (pc := 366) (As := [.int a3]) (rest := [.ref a2]) hC hl (c_X8_deckAt l hls ho6) lk_RX10_435 fc_14 g3 dX10_redoOnDeck_366 rfl rfl (Nat.le_of_ble_eq_true rfl) ⟨Nat.le_of_ble_eq_true rfl, Nat.le_of_ble_eq_true rfl⟩ ⟨(Nat.le_of_ble_eq_true rfl), (Nat.le_of_ble_eq_true rfl)⟩ ?_
  rcases o6 with ⟨r4 | E7, S5⟩
  · refine xk_a ?_
    replace h := bk_l h
    refine x_iload (pc := 369) hC 3 dX10_redoOnDeck_369 rfl ?_
    obtain ⟨g8, h⟩ := gd_some h
    obtain ⟨o11, ho11, h⟩ := bd_some h
    refine x_callV (pc := 371) (As := [.ref r4, .int a4]) (rest := []) hC hl (c_X1_listenTo l hls ho11) lk_RX10_278 fc_7 g8 dX10_redoOnDeck_371 rfl rfl (Nat.le_of_ble_eq_true rfl) ⟨Nat.le_of_ble_eq_true rfl, Nat.le_of_ble_eq_true rfl⟩ ⟨(Nat.le_of_ble_eq_true rfl), (Nat.le_of_ble_eq_true rfl)⟩ ?_
    rcases o11 with ⟨x9 | E12, S10⟩
    · refine xk_i ?_
      replace h := bk_l h
      refine x_pop (pc := 374) hC dX10_redoOnDeck_374 rfl ?_
      refine x_goto (pc := 375) hC 399 dX10_redoOnDeck_375 (by decide) ?_
      refine x_pick [] rfl ?_
      exact t_X10_redoOnDeck_399 hls hC hl hE h
    · exact xk_r (xt_out hC hE (bk_r h) (Nat.le_of_ble_eq_true rfl) (Nat.le_of_ble_eq_true rfl))
  · exact xk_r (xt_out hC hE (bk_r h) (Nat.le_of_ble_eq_true rfl) (Nat.le_of_ble_eq_true rfl))
def f_X10_redoOnDeck_378  (S : mS) (a2 : Nat) (a3 : Int32) : Option (Rs Unit) :=
  gd (gK S a2 = 7) (bd (f_X1_skipBack S a2 a3) fun x2 S3 => f_X10_redoOnDeck_399  S3)
set_option maxHeartbeats 2000000 in
set_option maxRecDepth 100000 in
theorem t_X10_redoOnDeck_378 {l : Launch} (hls : l.stackTraces = false) {C : cT} (hC : CX C cX10_redoOnDeck 5 yX10_redoOnDeck rm_X10_redoOnDeck) (hl : C.2.1 = l) {S0 : mS} (hE : CE C S0 (Option.none : Option Jvm.ClassFile.FieldType) []) {o : Rs Unit} {S : mS} {a2 : Nat} {a3 : Int32} (h : f_X10_redoOnDeck_378  S a2 a3 = some o) : XX C 5 (QQ C (fun _ : Unit => none) S0 o) (0) (0) S 378 [(2, .ref a2), (3, .int a3)] [] := by
  unfold f_X10_redoOnDeck_378 at h
  refine x_aload_n (pc := 378) hC 0 dX10_redoOnDeck_378 rfl rfl ?_
  refine x_iload_n (pc := 379) hC 1 dX10_redoOnDeck_379 rfl rfl ?_
  obtain ⟨g1, h⟩ := gd_some h
  obtain ⟨o4, ho4, h⟩ := bd_some h
  refine x_callV (pc := 380) (As := [.int a3]) (rest := []) hC hl (c_X1_skipBack l hls ho4) lk_RX10_389 fc_7 g1 dX10_redoOnDeck_380 rfl rfl (Nat.le_of_ble_eq_true rfl) ⟨Nat.le_of_ble_eq_true rfl, Nat.le_of_ble_eq_true rfl⟩ ⟨(Nat.le_of_ble_eq_true rfl), (Nat.le_of_ble_eq_true rfl)⟩ ?_
  rcases o4 with ⟨x2 | E5, S3⟩
  · refine xk_j ?_
    replace h := bk_l h
    refine x_pop2 (pc := 383) hC dX10_redoOnDeck_383 rfl ?_
    refine x_goto (pc := 384) hC 399 dX10_redoOnDeck_384 (by decide) ?_
    refine x_pick [] rfl ?_
    exact t_X10_redoOnDeck_399 hls hC hl hE h
  · exact xk_r (xt_out hC hE (bk_r h) (Nat.le_of_ble_eq_true rfl) (Nat.le_of_ble_eq_true rfl))
def f_X10_redoOnDeck_387  (S : mS) (a0 : Nat) (a2 : Nat) : Option (Rs Unit) :=
  gd (gK S a0 = 16) (lt9 (gR S a0 1) fun r2 => gd (gK S r2 = 14) (bd (f_X8_loseDisc S r2 a2) fun x4 S5 => f_X10_redoOnDeck_399  S5))
set_option maxHeartbeats 2000000 in
set_option maxRecDepth 100000 in
theorem t_X10_redoOnDeck_387 {l : Launch} (hls : l.stackTraces = false) {C : cT} (hC : CX C cX10_redoOnDeck 5 yX10_redoOnDeck rm_X10_redoOnDeck) (hl : C.2.1 = l) {S0 : mS} (hE : CE C S0 (Option.none : Option Jvm.ClassFile.FieldType) []) {o : Rs Unit} {S : mS} {a0 : Nat} {a2 : Nat} (h : f_X10_redoOnDeck_387  S a0 a2 = some o) : XX C 5 (QQ C (fun _ : Unit => none) S0 o) (0) (0) S 387 [(0, .ref a0), (2, .ref a2)] [] := by
  unfold f_X10_redoOnDeck_387 at h
  refine x_aload_n (pc := 387) hC 0 dX10_redoOnDeck_387 rfl rfl ?_
  obtain ⟨g1, h⟩ := gd_some h
  refine x_getRv (pc := 388) (k := 1) hC fc_16 fl_RX10_16 dX10_redoOnDeck_388 rfl g1 (fun r2 hr2 => ?_)
  replace h := lt_x hr2 h
  refine x_aload_n (pc := 391) hC 1 dX10_redoOnDeck_391 rfl rfl ?_
  obtain ⟨g3, h⟩ := gd_some h
  obtain ⟨o6, ho6, h⟩ := bd_some h
  refine x_callV (pc := 392) (As := [.ref a2]) (rest := []) hC hl (c_X8_loseDisc l hls ho6) lk_RX10_393 fc_14 g3 dX10_redoOnDeck_392 rfl rfl (Nat.le_of_ble_eq_true rfl) ⟨Nat.le_of_ble_eq_true rfl, Nat.le_of_ble_eq_true rfl⟩ ⟨(Nat.le_of_ble_eq_true rfl), (Nat.le_of_ble_eq_true rfl)⟩ ?_
  rcases o6 with ⟨x4 | E7, S5⟩
  · refine xk_i ?_
    replace h := bk_l h
    refine x_pop (pc := 395) hC dX10_redoOnDeck_395 rfl ?_
    refine x_goto (pc := 396) hC 399 dX10_redoOnDeck_396 (by decide) ?_
    refine x_pick [] rfl ?_
    exact t_X10_redoOnDeck_399 hls hC hl hE h
  · exact xk_r (xt_out hC hE (bk_r h) (Nat.le_of_ble_eq_true rfl) (Nat.le_of_ble_eq_true rfl))
def f_X10_redoOnDeck (S : mS) (a0 : Nat) (a1 : Int32) : Option (Rs Unit) :=
  gd (gK S a0 = 16) (lt9 (gR S a0 1) fun r2 => lt9 (gR S a0 2) fun r3 => gd (gK S r3 = 12) (bd (f_X6_numberAt S r3 a1 (1 : Int32)) fun x5 S6 => gd (gK S6 r2 = 14) (bd (f_X8_deckAt S6 r2 x5) fun r10 S11 => gd (gK S11 a0 = 16) (lt9 (gR S11 a0 2) fun r15 => gd (gK S11 r15 = 12) (bd (f_X6_numberAt S11 r15 a1 (2 : Int32)) fun x17 S18 => gd (gK S18 a0 = 16) (lt9 (gR S18 a0 2) fun r22 => gd (gK S18 r22 = 12) (bd (f_X6_numberAt S18 r22 a1 (3 : Int32)) fun x24 S25 => if r10 = 0 then (some (.inl (), S25)) else (gd (gK S25 a0 = 16) (lt9 (gR S25 a0 2) fun r29 => gd (gK S25 r29 = 12) (bd (f_X6_numberAt S25 r29 a1 (0 : Int32)) fun x31 S32 => if x31 = (5 : Int32) then (f_X10_redoOnDeck_168  S32 a0 r10 x17) else if x31 = (6 : Int32) then (f_X10_redoOnDeck_184  S32 r10) else if x31 = (7 : Int32) then (f_X10_redoOnDeck_192  S32 r10) else if x31 = (8 : Int32) then (f_X10_redoOnDeck_200  S32 r10 x17) else if x31 = (9 : Int32) then (f_X10_redoOnDeck_209  S32 r10 x17) else if x31 = (10 : Int32) then (f_X10_redoOnDeck_218  S32 r10) else if x31 = (11 : Int32) then (f_X10_redoOnDeck_226  S32 r10 x17) else if x31 = (12 : Int32) then (f_X10_redoOnDeck_235  S32 r10 x17) else if x31 = (13 : Int32) then (f_X10_redoOnDeck_244  S32 r10 x17) else if x31 = (14 : Int32) then (f_X10_redoOnDeck_253  S32 r10) else if x31 = (15 : Int32) then (f_X10_redoOnDeck_261  S32 r10 x17) else if x31 = (16 : Int32) then (f_X10_redoOnDeck_279  S32 r10 x17) else if x31 = (17 : Int32) then (f_X10_redoOnDeck_291  S32 r10 x17 x24) else if x31 = (18 : Int32) then (f_X10_redoOnDeck_305  S32 r10 x17) else if x31 = (20 : Int32) then (f_X10_redoOnDeck_318  S32 r10 x17 x24) else if x31 = (21 : Int32) then (f_X10_redoOnDeck_333  S32 r10) else if x31 = (23 : Int32) then (f_X10_redoOnDeck_344  S32 a0 r10 x17) else if x31 = (24 : Int32) then (f_X10_redoOnDeck_360  S32 a0 r10 x17 x24) else if x31 = (28 : Int32) then (f_X10_redoOnDeck_378  S32 r10 x17) else if x31 = (29 : Int32) then (f_X10_redoOnDeck_387  S32 a0 r10) else (f_X10_redoOnDeck_399  S32)))))))))))
set_option maxHeartbeats 2000000 in
set_option maxRecDepth 100000 in
theorem t_X10_redoOnDeck {l : Launch} (hls : l.stackTraces = false) {C : cT} (hC : CX C cX10_redoOnDeck 5 yX10_redoOnDeck rm_X10_redoOnDeck) (hl : C.2.1 = l) {S0 : mS} (hE : CE C S0 (Option.none : Option Jvm.ClassFile.FieldType) []) {o : Rs Unit} {S : mS} {a0 : Nat} {a1 : Int32} (h : f_X10_redoOnDeck S a0 a1 = some o) : XX C 5 (QQ C (fun _ : Unit => none) S0 o) 0 0 S 0 [(0, .ref a0), (1, .int a1)] [] := by
  unfold f_X10_redoOnDeck at h
  refine x_aload_n (pc := 0) hC 0 dX10_redoOnDeck_0 rfl rfl ?_
  obtain ⟨g1, h⟩ := gd_some h
  refine x_getRv (pc := 1) (k := 1) hC fc_16 fl_RX10_16 dX10_redoOnDeck_1 rfl g1 (fun r2 hr2 => ?_)
  replace h := lt_x hr2 h
  refine x_aload_n (pc := 4) hC 0 dX10_redoOnDeck_4 rfl rfl ?_
  refine x_getRv (pc := 5) (k := 2) hC fc_16 fl_RX10_22 dX10_redoOnDeck_5 rfl g1 (fun r3 hr3 => ?_)
  replace h := lt_x hr3 h
  refine x_iload_n (pc := 8) hC 1 dX10_redoOnDeck_8 rfl rfl ?_
  refine x_iconst (pc := 9) (v := (1 : Int32)) hC dX10_redoOnDeck_9 (by decide) ?_
  obtain ⟨g4, h⟩ := gd_some h
  obtain ⟨o7, ho7, h⟩ := bd_some h
  refine x_callV (pc := 10) (As := [.int a1, .int (1 : Int32)]) (rest := [.ref r2]) hC hl (c_X6_numberAt l hls ho7) lk_RX10_460 fc_12 g4 dX10_redoOnDeck_10 rfl rfl (Nat.le_of_ble_eq_true rfl) ⟨Nat.le_of_ble_eq_true rfl, Nat.le_of_ble_eq_true rfl⟩ ⟨(Nat.le_of_ble_eq_true rfl), (Nat.le_of_ble_eq_true rfl)⟩ ?_
  rcases o7 with ⟨x5 | E8, S6⟩
  · refine xk_i ?_
    replace h := bk_l h
    obtain ⟨g9, h⟩ := gd_some h
    obtain ⟨o12, ho12, h⟩ := bd_some h
    refine x_callV (pc := 13) (As := [.int x5]) (rest := []) hC hl (c_X8_deckAt l hls ho12) lk_RX10_435 fc_14 g9 dX10_redoOnDeck_13 rfl rfl (Nat.le_of_ble_eq_true rfl) ⟨Nat.le_of_ble_eq_true rfl, Nat.le_of_ble_eq_true rfl⟩ ⟨(Nat.le_of_ble_eq_true rfl), (Nat.le_of_ble_eq_true rfl)⟩ ?_
    rcases o12 with ⟨r10 | E13, S11⟩
    · refine xk_a ?_
      replace h := bk_l h
      refine x_astore_n (pc := 16) hC dX10_redoOnDeck_16 rfl (by decide) (by decide) rfl ?_
      refine x_aload_n (pc := 17) hC 1 dX10_redoOnDeck_17 rfl rfl ?_
      obtain ⟨g14, h⟩ := gd_some h
      refine x_getRv (pc := 18) (k := 2) hC fc_16 fl_RX10_22 dX10_redoOnDeck_18 rfl g14 (fun r15 hr15 => ?_)
      replace h := lt_x hr15 h
      refine x_iload_n (pc := 21) hC 2 dX10_redoOnDeck_21 rfl rfl ?_
      refine x_iconst (pc := 22) (v := (2 : Int32)) hC dX10_redoOnDeck_22 (by decide) ?_
      obtain ⟨g16, h⟩ := gd_some h
      obtain ⟨o19, ho19, h⟩ := bd_some h
      refine x_callV (pc := 23) (As := [.int a1, .int (2 : Int32)]) (rest := []) hC hl (c_X6_numberAt l hls ho19) lk_RX10_460 fc_12 g16 dX10_redoOnDeck_23 rfl rfl (Nat.le_of_ble_eq_true rfl) ⟨Nat.le_of_ble_eq_true rfl, Nat.le_of_ble_eq_true rfl⟩ ⟨(Nat.le_of_ble_eq_true rfl), (Nat.le_of_ble_eq_true rfl)⟩ ?_
      rcases o19 with ⟨x17 | E20, S18⟩
      · refine xk_i ?_
        replace h := bk_l h
        refine x_istore_n (pc := 26) hC dX10_redoOnDeck_26 rfl (by decide) (by decide) rfl ?_
        refine x_aload_n (pc := 27) hC 2 dX10_redoOnDeck_27 rfl rfl ?_
        obtain ⟨g21, h⟩ := gd_some h
        refine x_getRv (pc := 28) (k := 2) hC fc_16 fl_RX10_22 dX10_redoOnDeck_28 rfl g21 (fun r22 hr22 => ?_)
        replace h := lt_x hr22 h
        refine x_iload_n (pc := 31) hC 3 dX10_redoOnDeck_31 rfl rfl ?_
        refine x_iconst (pc := 32) (v := (3 : Int32)) hC dX10_redoOnDeck_32 (by decide) ?_
        obtain ⟨g23, h⟩ := gd_some h
        obtain ⟨o26, ho26, h⟩ := bd_some h
        refine x_callV (pc := 33) (As := [.int a1, .int (3 : Int32)]) (rest := []) hC hl (c_X6_numberAt l hls ho26) lk_RX10_460 fc_12 g23 dX10_redoOnDeck_33 rfl rfl (Nat.le_of_ble_eq_true rfl) ⟨Nat.le_of_ble_eq_true rfl, Nat.le_of_ble_eq_true rfl⟩ ⟨(Nat.le_of_ble_eq_true rfl), (Nat.le_of_ble_eq_true rfl)⟩ ?_
        rcases o26 with ⟨x24 | E27, S25⟩
        · refine xk_i ?_
          replace h := bk_l h
          refine x_istore (pc := 36) hC dX10_redoOnDeck_36 (by decide) (by decide) rfl ?_
          refine x_aload_n (pc := 38) hC 2 dX10_redoOnDeck_38 rfl rfl ?_
          refine x_ifnonnull (pc := 39) hC 43 dX10_redoOnDeck_39 (by decide) (fun c55 => ?_) (fun c55 => ?_)
          · rw [if_neg c55] at h
            refine x_aload_n (pc := 43) hC 3 dX10_redoOnDeck_43 rfl rfl ?_
            obtain ⟨g28, h⟩ := gd_some h
            refine x_getRv (pc := 44) (k := 2) hC fc_16 fl_RX10_22 dX10_redoOnDeck_44 rfl g28 (fun r29 hr29 => ?_)
            replace h := lt_x hr29 h
            refine x_iload_n (pc := 47) hC 4 dX10_redoOnDeck_47 rfl rfl ?_
            refine x_iconst (pc := 48) (v := (0 : Int32)) hC dX10_redoOnDeck_48 (by decide) ?_
            obtain ⟨g30, h⟩ := gd_some h
            obtain ⟨o33, ho33, h⟩ := bd_some h
            refine x_callV (pc := 49) (As := [.int a1, .int (0 : Int32)]) (rest := []) hC hl (c_X6_numberAt l hls ho33) lk_RX10_460 fc_12 g30 dX10_redoOnDeck_49 rfl rfl (Nat.le_of_ble_eq_true rfl) ⟨Nat.le_of_ble_eq_true rfl, Nat.le_of_ble_eq_true rfl⟩ ⟨(Nat.le_of_ble_eq_true rfl), (Nat.le_of_ble_eq_true rfl)⟩ ?_
            rcases o33 with ⟨x31 | E34, S32⟩
            · refine xk_i ?_
              replace h := bk_l h
              by_cases c35 : x31 = (5 : Int32)
              · rw [if_pos c35] at h
                rw [c35]
                refine x_tableIn (pc := 52) hC 168 dX10_redoOnDeck_52 (by decide) (by decide) rfl (by decide) ?_
                refine x_pick [3, 2, 1] rfl ?_
                exact t_X10_redoOnDeck_168 hls hC hl hE h
              rw [if_neg c35] at h
              by_cases c36 : x31 = (6 : Int32)
              · rw [if_pos c36] at h
                rw [c36]
                refine x_tableIn (pc := 52) hC 184 dX10_redoOnDeck_52 (by decide) (by decide) rfl (by decide) ?_
                refine x_pick [2] rfl ?_
                exact t_X10_redoOnDeck_184 hls hC hl hE h
              rw [if_neg c36] at h
              by_cases c37 : x31 = (7 : Int32)
              · rw [if_pos c37] at h
                rw [c37]
                refine x_tableIn (pc := 52) hC 192 dX10_redoOnDeck_52 (by decide) (by decide) rfl (by decide) ?_
                refine x_pick [2] rfl ?_
                exact t_X10_redoOnDeck_192 hls hC hl hE h
              rw [if_neg c37] at h
              by_cases c38 : x31 = (8 : Int32)
              · rw [if_pos c38] at h
                rw [c38]
                refine x_tableIn (pc := 52) hC 200 dX10_redoOnDeck_52 (by decide) (by decide) rfl (by decide) ?_
                refine x_pick [2, 1] rfl ?_
                exact t_X10_redoOnDeck_200 hls hC hl hE h
              rw [if_neg c38] at h
              by_cases c39 : x31 = (9 : Int32)
              · rw [if_pos c39] at h
                rw [c39]
                refine x_tableIn (pc := 52) hC 209 dX10_redoOnDeck_52 (by decide) (by decide) rfl (by decide) ?_
                refine x_pick [2, 1] rfl ?_
                exact t_X10_redoOnDeck_209 hls hC hl hE h
              rw [if_neg c39] at h
              by_cases c40 : x31 = (10 : Int32)
              · rw [if_pos c40] at h
                rw [c40]
                refine x_tableIn (pc := 52) hC 218 dX10_redoOnDeck_52 (by decide) (by decide) rfl (by decide) ?_
                refine x_pick [2] rfl ?_
                exact t_X10_redoOnDeck_218 hls hC hl hE h
              rw [if_neg c40] at h
              by_cases c41 : x31 = (11 : Int32)
              · rw [if_pos c41] at h
                rw [c41]
                refine x_tableIn (pc := 52) hC 226 dX10_redoOnDeck_52 (by decide) (by decide) rfl (by decide) ?_
                refine x_pick [2, 1] rfl ?_
                exact t_X10_redoOnDeck_226 hls hC hl hE h
              rw [if_neg c41] at h
              by_cases c42 : x31 = (12 : Int32)
              · rw [if_pos c42] at h
                rw [c42]
                refine x_tableIn (pc := 52) hC 235 dX10_redoOnDeck_52 (by decide) (by decide) rfl (by decide) ?_
                refine x_pick [2, 1] rfl ?_
                exact t_X10_redoOnDeck_235 hls hC hl hE h
              rw [if_neg c42] at h
              by_cases c43 : x31 = (13 : Int32)
              · rw [if_pos c43] at h
                rw [c43]
                refine x_tableIn (pc := 52) hC 244 dX10_redoOnDeck_52 (by decide) (by decide) rfl (by decide) ?_
                refine x_pick [2, 1] rfl ?_
                exact t_X10_redoOnDeck_244 hls hC hl hE h
              rw [if_neg c43] at h
              by_cases c44 : x31 = (14 : Int32)
              · rw [if_pos c44] at h
                rw [c44]
                refine x_tableIn (pc := 52) hC 253 dX10_redoOnDeck_52 (by decide) (by decide) rfl (by decide) ?_
                refine x_pick [2] rfl ?_
                exact t_X10_redoOnDeck_253 hls hC hl hE h
              rw [if_neg c44] at h
              by_cases c45 : x31 = (15 : Int32)
              · rw [if_pos c45] at h
                rw [c45]
                refine x_tableIn (pc := 52) hC 261 dX10_redoOnDeck_52 (by decide) (by decide) rfl (by decide) ?_
                refine x_pick [2, 1] rfl ?_
                exact t_X10_redoOnDeck_261 hls hC hl hE h
              rw [if_neg c45] at h
              by_cases c46 : x31 = (16 : Int32)
              · rw [if_pos c46] at h
                rw [c46]
                refine x_tableIn (pc := 52) hC 279 dX10_redoOnDeck_52 (by decide) (by decide) rfl (by decide) ?_
                refine x_pick [2, 1] rfl ?_
                exact t_X10_redoOnDeck_279 hls hC hl hE h
              rw [if_neg c46] at h
              by_cases c47 : x31 = (17 : Int32)
              · rw [if_pos c47] at h
                rw [c47]
                refine x_tableIn (pc := 52) hC 291 dX10_redoOnDeck_52 (by decide) (by decide) rfl (by decide) ?_
                refine x_pick [2, 1, 0] rfl ?_
                exact t_X10_redoOnDeck_291 hls hC hl hE h
              rw [if_neg c47] at h
              by_cases c48 : x31 = (18 : Int32)
              · rw [if_pos c48] at h
                rw [c48]
                refine x_tableIn (pc := 52) hC 305 dX10_redoOnDeck_52 (by decide) (by decide) rfl (by decide) ?_
                refine x_pick [2, 1] rfl ?_
                exact t_X10_redoOnDeck_305 hls hC hl hE h
              rw [if_neg c48] at h
              by_cases c49 : x31 = (20 : Int32)
              · rw [if_pos c49] at h
                rw [c49]
                refine x_tableIn (pc := 52) hC 318 dX10_redoOnDeck_52 (by decide) (by decide) rfl (by decide) ?_
                refine x_pick [2, 1, 0] rfl ?_
                exact t_X10_redoOnDeck_318 hls hC hl hE h
              rw [if_neg c49] at h
              by_cases c50 : x31 = (21 : Int32)
              · rw [if_pos c50] at h
                rw [c50]
                refine x_tableIn (pc := 52) hC 333 dX10_redoOnDeck_52 (by decide) (by decide) rfl (by decide) ?_
                refine x_pick [2] rfl ?_
                exact t_X10_redoOnDeck_333 hls hC hl hE h
              rw [if_neg c50] at h
              by_cases c51 : x31 = (23 : Int32)
              · rw [if_pos c51] at h
                rw [c51]
                refine x_tableIn (pc := 52) hC 344 dX10_redoOnDeck_52 (by decide) (by decide) rfl (by decide) ?_
                refine x_pick [3, 2, 1] rfl ?_
                exact t_X10_redoOnDeck_344 hls hC hl hE h
              rw [if_neg c51] at h
              by_cases c52 : x31 = (24 : Int32)
              · rw [if_pos c52] at h
                rw [c52]
                refine x_tableIn (pc := 52) hC 360 dX10_redoOnDeck_52 (by decide) (by decide) rfl (by decide) ?_
                refine x_pick [3, 2, 1, 0] rfl ?_
                exact t_X10_redoOnDeck_360 hls hC hl hE h
              rw [if_neg c52] at h
              by_cases c53 : x31 = (28 : Int32)
              · rw [if_pos c53] at h
                rw [c53]
                refine x_tableIn (pc := 52) hC 378 dX10_redoOnDeck_52 (by decide) (by decide) rfl (by decide) ?_
                refine x_pick [2, 1] rfl ?_
                exact t_X10_redoOnDeck_378 hls hC hl hE h
              rw [if_neg c53] at h
              by_cases c54 : x31 = (29 : Int32)
              · rw [if_pos c54] at h
                rw [c54]
                refine x_tableIn (pc := 52) hC 387 dX10_redoOnDeck_52 (by decide) (by decide) rfl (by decide) ?_
                refine x_pick [3, 2] rfl ?_
                exact t_X10_redoOnDeck_387 hls hC hl hE h
              rw [if_neg c54] at h
              have n0 : ¬ x31.toInt = (5 : Int) := lv_neT c35 (by decide)
              have n1 : ¬ x31.toInt = (6 : Int) := lv_neT c36 (by decide)
              have n2 : ¬ x31.toInt = (7 : Int) := lv_neT c37 (by decide)
              have n3 : ¬ x31.toInt = (8 : Int) := lv_neT c38 (by decide)
              have n4 : ¬ x31.toInt = (9 : Int) := lv_neT c39 (by decide)
              have n5 : ¬ x31.toInt = (10 : Int) := lv_neT c40 (by decide)
              have n6 : ¬ x31.toInt = (11 : Int) := lv_neT c41 (by decide)
              have n7 : ¬ x31.toInt = (12 : Int) := lv_neT c42 (by decide)
              have n8 : ¬ x31.toInt = (13 : Int) := lv_neT c43 (by decide)
              have n9 : ¬ x31.toInt = (14 : Int) := lv_neT c44 (by decide)
              have n10 : ¬ x31.toInt = (15 : Int) := lv_neT c45 (by decide)
              have n11 : ¬ x31.toInt = (16 : Int) := lv_neT c46 (by decide)
              have n12 : ¬ x31.toInt = (17 : Int) := lv_neT c47 (by decide)
              have n13 : ¬ x31.toInt = (18 : Int) := lv_neT c48 (by decide)
              have n14 : ¬ x31.toInt = (20 : Int) := lv_neT c49 (by decide)
              have n15 : ¬ x31.toInt = (21 : Int) := lv_neT c50 (by decide)
              have n16 : ¬ x31.toInt = (23 : Int) := lv_neT c51 (by decide)
              have n17 : ¬ x31.toInt = (24 : Int) := lv_neT c52 (by decide)
              have n18 : ¬ x31.toInt = (28 : Int) := lv_neT c53 (by decide)
              have n19 : ¬ x31.toInt = (29 : Int) := lv_neT c54 (by decide)
              by_cases hlo : x31.toInt < 5 ∨ 29 < x31.toInt
              · refine x_tableOut (pc := 52) hC 399 dX10_redoOnDeck_52 hlo (by decide) ?_
                refine x_pick [] rfl ?_
                exact t_X10_redoOnDeck_399 hls hC hl hE h
              have hin : x31.toInt = 19 ∨ x31.toInt = 22 ∨ x31.toInt = 25 ∨ x31.toInt = 26 ∨ x31.toInt = 27 := by omega
              rcases hin with hk | hk | hk | hk | hk
              · refine x_tableIn (pc := 52) hC 399 dX10_redoOnDeck_52 (by omega) (by omega) (by rw [hk]; rfl) (by decide) ?_
                refine x_pick [] rfl ?_
                exact t_X10_redoOnDeck_399 hls hC hl hE h
              · refine x_tableIn (pc := 52) hC 399 dX10_redoOnDeck_52 (by omega) (by omega) (by rw [hk]; rfl) (by decide) ?_
                refine x_pick [] rfl ?_
                exact t_X10_redoOnDeck_399 hls hC hl hE h
              · refine x_tableIn (pc := 52) hC 399 dX10_redoOnDeck_52 (by omega) (by omega) (by rw [hk]; rfl) (by decide) ?_
                refine x_pick [] rfl ?_
                exact t_X10_redoOnDeck_399 hls hC hl hE h
              · refine x_tableIn (pc := 52) hC 399 dX10_redoOnDeck_52 (by omega) (by omega) (by rw [hk]; rfl) (by decide) ?_
                refine x_pick [] rfl ?_
                exact t_X10_redoOnDeck_399 hls hC hl hE h
              · refine x_tableIn (pc := 52) hC 399 dX10_redoOnDeck_52 (by omega) (by omega) (by rw [hk]; rfl) (by decide) ?_
                refine x_pick [] rfl ?_
                exact t_X10_redoOnDeck_399 hls hC hl hE h
            · exact xk_r (xt_out hC hE (bk_r h) (Nat.le_of_ble_eq_true rfl) (Nat.le_of_ble_eq_true rfl))
          · rw [if_pos c55] at h
            exact x_vreturn (pc := 42) hC hE dX10_redoOnDeck_42 (so h) (Nat.le_of_ble_eq_true rfl) (Nat.le_of_ble_eq_true rfl)
        · exact xk_r (xt_out hC hE (bk_r h) (Nat.le_of_ble_eq_true rfl) (Nat.le_of_ble_eq_true rfl))
      · exact xk_r (xt_out hC hE (bk_r h) (Nat.le_of_ble_eq_true rfl) (Nat.le_of_ble_eq_true rfl))
    · exact xk_r (xt_out hC hE (bk_r h) (Nat.le_of_ble_eq_true rfl) (Nat.le_of_ble_eq_true rfl))
  · exact xk_r (xt_out hC hE (bk_r h) (Nat.le_of_ble_eq_true rfl) (Nat.le_of_ble_eq_true rfl))
theorem c_X10_redoOnDeck (l : Launch) (hls : l.stackTraces = false) {S : mS} {a0 : Nat} {a1 : Int32} {o : Rs Unit} (h : f_X10_redoOnDeck S a0 a1 = some o) : CT (fun _ : Unit => none) l yX10_redoOnDeck (.code yX10_redoOnDeck cX10_redoOnDeck 5 (Option.none : Option Jvm.ClassFile.FieldType)) rm_X10_redoOnDeck S [.ref a0, .int a1] o := ct_of (by decide +kernel) hls (Nat.le_of_ble_eq_true rfl) (fun C hl hC hE => t_X10_redoOnDeck hls hC hl hE h)
abbrev rm_X10_redoOnDisc : Room := { frames := 9, cells := 0, slots := 0, locals := 173 }
def f_X10_redoOnDisc_103  (S : mS) : Option (Rs Unit) :=
  some (.inl (), S)
set_option maxHeartbeats 2000000 in
set_option maxRecDepth 100000 in
theorem t_X10_redoOnDisc_103 {l : Launch} (hls : l.stackTraces = false) {C : cT} (hC : CX C cX10_redoOnDisc 4 yX10_redoOnDisc rm_X10_redoOnDisc) (hl : C.2.1 = l) {S0 : mS} (hE : CE C S0 (Option.none : Option Jvm.ClassFile.FieldType) []) {o : Rs Unit} {S : mS} (h : f_X10_redoOnDisc_103  S = some o) : XX C 4 (QQ C (fun _ : Unit => none) S0 o) (0) (0) S 103 [] [] := by
  unfold f_X10_redoOnDisc_103 at h
  exact x_vreturn (pc := 103) hC hE dX10_redoOnDisc_103 (so h) (Nat.le_of_ble_eq_true rfl) (Nat.le_of_ble_eq_true rfl)
def f_X10_redoOnDisc_68  (S : mS) (a2 : Nat) (a3 : Int32) : Option (Rs Unit) :=
  gd (gK S a2 = 8) (bd (f_X2_retune S a2 a3) fun x2 S3 => f_X10_redoOnDisc_103  S3)
set_option maxHeartbeats 2000000 in
set_option maxRecDepth 100000 in
theorem t_X10_redoOnDisc_68 {l : Launch} (hls : l.stackTraces = false) {C : cT} (hC : CX C cX10_redoOnDisc 4 yX10_redoOnDisc rm_X10_redoOnDisc) (hl : C.2.1 = l) {S0 : mS} (hE : CE C S0 (Option.none : Option Jvm.ClassFile.FieldType) []) {o : Rs Unit} {S : mS} {a2 : Nat} {a3 : Int32} (h : f_X10_redoOnDisc_68  S a2 a3 = some o) : XX C 4 (QQ C (fun _ : Unit => none) S0 o) (0) (0) S 68 [(2, .ref a2), (3, .int a3)] [] := by
  unfold f_X10_redoOnDisc_68 at h
  refine x_aload_n (pc := 68) hC 0 dX10_redoOnDisc_68 rfl rfl ?_
  refine x_iload_n (pc := 69) hC 1 dX10_redoOnDisc_69 rfl rfl ?_
  obtain ⟨g1, h⟩ := gd_some h
  obtain ⟨o4, ho4, h⟩ := bd_some h
  refine x_callV (pc := 70) (As := [.int a3]) (rest := []) hC hl (c_X2_retune l hls ho4) lk_RX10_98 fc_8 g1 dX10_redoOnDisc_70 rfl rfl (Nat.le_of_ble_eq_true rfl) ⟨Nat.le_of_ble_eq_true rfl, Nat.le_of_ble_eq_true rfl⟩ ⟨(Nat.le_of_ble_eq_true rfl), (Nat.le_of_ble_eq_true rfl)⟩ ?_
  rcases o4 with ⟨x2 | E5, S3⟩
  · refine xk_i ?_
    replace h := bk_l h
    refine x_pop (pc := 73) hC dX10_redoOnDisc_73 rfl ?_
    refine x_goto (pc := 74) hC 103 dX10_redoOnDisc_74 (by decide) ?_
    refine x_pick [] rfl ?_
    exact t_X10_redoOnDisc_103 hls hC hl hE h
  · exact xk_r (xt_out hC hE (bk_r h) (Nat.le_of_ble_eq_true rfl) (Nat.le_of_ble_eq_true rfl))
def f_X10_redoOnDisc_88  (S : mS) (s0 : Nat) (s1 : Int32) : Option (Rs Unit) :=
  gd (gK S s0 = 8) (bd (f_X2_forbid S s0 s1) fun x2 S3 => f_X10_redoOnDisc_103  S3)
set_option maxHeartbeats 2000000 in
set_option maxRecDepth 100000 in
theorem t_X10_redoOnDisc_88 {l : Launch} (hls : l.stackTraces = false) {C : cT} (hC : CX C cX10_redoOnDisc 4 yX10_redoOnDisc rm_X10_redoOnDisc) (hl : C.2.1 = l) {S0 : mS} (hE : CE C S0 (Option.none : Option Jvm.ClassFile.FieldType) []) {o : Rs Unit} {S : mS} {s0 : Nat} {s1 : Int32} (h : f_X10_redoOnDisc_88  S s0 s1 = some o) : XX C 4 (QQ C (fun _ : Unit => none) S0 o) (0) (0) S 88 [] [.int s1, .ref s0] := by
  unfold f_X10_redoOnDisc_88 at h
  obtain ⟨g1, h⟩ := gd_some h
  obtain ⟨o4, ho4, h⟩ := bd_some h
  refine x_callV (pc := 88) (As := [.int s1]) (rest := []) hC hl (c_X2_forbid l hls ho4) lk_RX10_111 fc_8 g1 dX10_redoOnDisc_88 rfl rfl (Nat.le_of_ble_eq_true rfl) ⟨Nat.le_of_ble_eq_true rfl, Nat.le_of_ble_eq_true rfl⟩ ⟨(Nat.le_of_ble_eq_true rfl), (Nat.le_of_ble_eq_true rfl)⟩ ?_
  rcases o4 with ⟨x2 | E5, S3⟩
  · refine xk_i ?_
    replace h := bk_l h
    refine x_pop (pc := 91) hC dX10_redoOnDisc_91 rfl ?_
    refine x_goto (pc := 92) hC 103 dX10_redoOnDisc_92 (by decide) ?_
    refine x_pick [] rfl ?_
    exact t_X10_redoOnDisc_103 hls hC hl hE h
  · exact xk_r (xt_out hC hE (bk_r h) (Nat.le_of_ble_eq_true rfl) (Nat.le_of_ble_eq_true rfl))
def f_X10_redoOnDisc_77  (S : mS) (a2 : Nat) (a3 : Int32) : Option (Rs Unit) :=
  if a3 = (1 : Int32) then (f_X10_redoOnDisc_88  S a2 (1 : Int32)) else (f_X10_redoOnDisc_88  S a2 (0 : Int32))
set_option maxHeartbeats 2000000 in
set_option maxRecDepth 100000 in
theorem t_X10_redoOnDisc_77 {l : Launch} (hls : l.stackTraces = false) {C : cT} (hC : CX C cX10_redoOnDisc 4 yX10_redoOnDisc rm_X10_redoOnDisc) (hl : C.2.1 = l) {S0 : mS} (hE : CE C S0 (Option.none : Option Jvm.ClassFile.FieldType) []) {o : Rs Unit} {S : mS} {a2 : Nat} {a3 : Int32} (h : f_X10_redoOnDisc_77  S a2 a3 = some o) : XX C 4 (QQ C (fun _ : Unit => none) S0 o) (0) (0) S 77 [(2, .ref a2), (3, .int a3)] [] := by
  unfold f_X10_redoOnDisc_77 at h
  refine x_aload_n (pc := 77) hC 0 dX10_redoOnDisc_77 rfl rfl ?_
  refine x_iload_n (pc := 78) hC 1 dX10_redoOnDisc_78 rfl rfl ?_
  refine x_iconst (pc := 79) (v := (1 : Int32)) hC dX10_redoOnDisc_79 (by decide) ?_
  refine x_icmp_ne (pc := 80) hC 87 dX10_redoOnDisc_80 (by decide) (fun c1 => ?_) (fun c1 => ?_)
  · rw [if_neg c1] at h
    refine x_iconst (pc := 87) (v := (0 : Int32)) hC dX10_redoOnDisc_87 (by decide) ?_
    refine x_pick [] rfl ?_
    exact t_X10_redoOnDisc_88 hls hC hl hE h
  · rw [if_pos c1] at h
    refine x_iconst (pc := 83) (v := (1 : Int32)) hC dX10_redoOnDisc_83 (by decide) ?_
    refine x_goto (pc := 84) hC 88 dX10_redoOnDisc_84 (by decide) ?_
    refine x_pick [] rfl ?_
    exact t_X10_redoOnDisc_88 hls hC hl hE h
def f_X10_redoOnDisc_95  (S : mS) (a2 : Nat) : Option (Rs Unit) :=
  gd (gK S a2 = 8) (bd (f_X2_wish S a2) fun x2 S3 => f_X10_redoOnDisc_103  S3)
set_option maxHeartbeats 2000000 in
set_option maxRecDepth 100000 in
theorem t_X10_redoOnDisc_95 {l : Launch} (hls : l.stackTraces = false) {C : cT} (hC : CX C cX10_redoOnDisc 4 yX10_redoOnDisc rm_X10_redoOnDisc) (hl : C.2.1 = l) {S0 : mS} (hE : CE C S0 (Option.none : Option Jvm.ClassFile.FieldType) []) {o : Rs Unit} {S : mS} {a2 : Nat} (h : f_X10_redoOnDisc_95  S a2 = some o) : XX C 4 (QQ C (fun _ : Unit => none) S0 o) (0) (0) S 95 [(2, .ref a2)] [] := by
  unfold f_X10_redoOnDisc_95 at h
  refine x_aload_n (pc := 95) hC 0 dX10_redoOnDisc_95 rfl rfl ?_
  obtain ⟨g1, h⟩ := gd_some h
  obtain ⟨o4, ho4, h⟩ := bd_some h
  refine x_callV (pc := 96) (As := []) (rest := []) hC hl (c_X2_wish l hls ho4) lk_RX10_115 fc_8 g1 dX10_redoOnDisc_96 rfl rfl (Nat.le_of_ble_eq_true rfl) ⟨Nat.le_of_ble_eq_true rfl, Nat.le_of_ble_eq_true rfl⟩ ⟨(Nat.le_of_ble_eq_true rfl), (Nat.le_of_ble_eq_true rfl)⟩ ?_
  rcases o4 with ⟨x2 | E5, S3⟩
  · refine xk_i ?_
    replace h := bk_l h
    refine x_pop (pc := 99) hC dX10_redoOnDisc_99 rfl ?_
    refine x_goto (pc := 100) hC 103 dX10_redoOnDisc_100 (by decide) ?_
    refine x_pick [] rfl ?_
    exact t_X10_redoOnDisc_103 hls hC hl hE h
  · exact xk_r (xt_out hC hE (bk_r h) (Nat.le_of_ble_eq_true rfl) (Nat.le_of_ble_eq_true rfl))
def f_X10_redoOnDisc (S : mS) (a0 : Nat) (a1 : Int32) : Option (Rs Unit) :=
  gd (gK S a0 = 16) (lt9 (gR S a0 1) fun r2 => lt9 (gR S a0 2) fun r3 => gd (gK S r3 = 12) (bd (f_X6_numberAt S r3 a1 (1 : Int32)) fun x5 S6 => gd (gK S6 r2 = 14) (bd (f_X8_discAt S6 r2 x5) fun r10 S11 => gd (gK S11 a0 = 16) (lt9 (gR S11 a0 2) fun r15 => gd (gK S11 r15 = 12) (bd (f_X6_numberAt S11 r15 a1 (2 : Int32)) fun x17 S18 => if r10 = 0 then (some (.inl (), S18)) else (gd (gK S18 a0 = 16) (lt9 (gR S18 a0 2) fun r22 => gd (gK S18 r22 = 12) (bd (f_X6_numberAt S18 r22 a1 (0 : Int32)) fun x24 S25 => if x24 = (2 : Int32) then (f_X10_redoOnDisc_68  S25 r10 x17) else if x24 = (3 : Int32) then (f_X10_redoOnDisc_77  S25 r10 x17) else if x24 = (4 : Int32) then (f_X10_redoOnDisc_95  S25 r10) else (f_X10_redoOnDisc_103  S25)))))))))
set_option maxHeartbeats 2000000 in
set_option maxRecDepth 100000 in
theorem t_X10_redoOnDisc {l : Launch} (hls : l.stackTraces = false) {C : cT} (hC : CX C cX10_redoOnDisc 4 yX10_redoOnDisc rm_X10_redoOnDisc) (hl : C.2.1 = l) {S0 : mS} (hE : CE C S0 (Option.none : Option Jvm.ClassFile.FieldType) []) {o : Rs Unit} {S : mS} {a0 : Nat} {a1 : Int32} (h : f_X10_redoOnDisc S a0 a1 = some o) : XX C 4 (QQ C (fun _ : Unit => none) S0 o) 0 0 S 0 [(0, .ref a0), (1, .int a1)] [] := by
  unfold f_X10_redoOnDisc at h
  refine x_aload_n (pc := 0) hC 0 dX10_redoOnDisc_0 rfl rfl ?_
  obtain ⟨g1, h⟩ := gd_some h
  refine x_getRv (pc := 1) (k := 1) hC fc_16 fl_RX10_16 dX10_redoOnDisc_1 rfl g1 (fun r2 hr2 => ?_)
  replace h := lt_x hr2 h
  refine x_aload_n (pc := 4) hC 0 dX10_redoOnDisc_4 rfl rfl ?_
  refine x_getRv (pc := 5) (k := 2) hC fc_16 fl_RX10_22 dX10_redoOnDisc_5 rfl g1 (fun r3 hr3 => ?_)
  replace h := lt_x hr3 h
  refine x_iload_n (pc := 8) hC 1 dX10_redoOnDisc_8 rfl rfl ?_
  refine x_iconst (pc := 9) (v := (1 : Int32)) hC dX10_redoOnDisc_9 (by decide) ?_
  obtain ⟨g4, h⟩ := gd_some h
  obtain ⟨o7, ho7, h⟩ := bd_some h
  refine x_callV (pc := 10) (As := [.int a1, .int (1 : Int32)]) (rest := [.ref r2]) hC hl (c_X6_numberAt l hls ho7) lk_RX10_460 fc_12 g4 dX10_redoOnDisc_10 rfl rfl (Nat.le_of_ble_eq_true rfl) ⟨Nat.le_of_ble_eq_true rfl, Nat.le_of_ble_eq_true rfl⟩ ⟨(Nat.le_of_ble_eq_true rfl), (Nat.le_of_ble_eq_true rfl)⟩ ?_
  rcases o7 with ⟨x5 | E8, S6⟩
  · refine xk_i ?_
    replace h := bk_l h
    obtain ⟨g9, h⟩ := gd_some h
    obtain ⟨o12, ho12, h⟩ := bd_some h
    refine x_callV (pc := 13) (As := [.int x5]) (rest := []) hC hl (c_X8_discAt l hls ho12) lk_RX10_443 fc_14 g9 dX10_redoOnDisc_13 rfl rfl (Nat.le_of_ble_eq_true rfl) ⟨Nat.le_of_ble_eq_true rfl, Nat.le_of_ble_eq_true rfl⟩ ⟨(Nat.le_of_ble_eq_true rfl), (Nat.le_of_ble_eq_true rfl)⟩ ?_
    rcases o12 with ⟨r10 | E13, S11⟩
    · refine xk_a ?_
      replace h := bk_l h
      refine x_astore_n (pc := 16) hC dX10_redoOnDisc_16 rfl (by decide) (by decide) rfl ?_
      refine x_aload_n (pc := 17) hC 1 dX10_redoOnDisc_17 rfl rfl ?_
      obtain ⟨g14, h⟩ := gd_some h
      refine x_getRv (pc := 18) (k := 2) hC fc_16 fl_RX10_22 dX10_redoOnDisc_18 rfl g14 (fun r15 hr15 => ?_)
      replace h := lt_x hr15 h
      refine x_iload_n (pc := 21) hC 2 dX10_redoOnDisc_21 rfl rfl ?_
      refine x_iconst (pc := 22) (v := (2 : Int32)) hC dX10_redoOnDisc_22 (by decide) ?_
      obtain ⟨g16, h⟩ := gd_some h
      obtain ⟨o19, ho19, h⟩ := bd_some h
      refine x_callV (pc := 23) (As := [.int a1, .int (2 : Int32)]) (rest := []) hC hl (c_X6_numberAt l hls ho19) lk_RX10_460 fc_12 g16 dX10_redoOnDisc_23 rfl rfl (Nat.le_of_ble_eq_true rfl) ⟨Nat.le_of_ble_eq_true rfl, Nat.le_of_ble_eq_true rfl⟩ ⟨(Nat.le_of_ble_eq_true rfl), (Nat.le_of_ble_eq_true rfl)⟩ ?_
      rcases o19 with ⟨x17 | E20, S18⟩
      · refine xk_i ?_
        replace h := bk_l h
        refine x_istore_n (pc := 26) hC dX10_redoOnDisc_26 rfl (by decide) (by decide) rfl ?_
        refine x_aload_n (pc := 27) hC 1 dX10_redoOnDisc_27 rfl rfl ?_
        refine x_ifnonnull (pc := 28) hC 32 dX10_redoOnDisc_28 (by decide) (fun c31 => ?_) (fun c31 => ?_)
        · rw [if_neg c31] at h
          refine x_aload_n (pc := 32) hC 2 dX10_redoOnDisc_32 rfl rfl ?_
          obtain ⟨g21, h⟩ := gd_some h
          refine x_getRv (pc := 33) (k := 2) hC fc_16 fl_RX10_22 dX10_redoOnDisc_33 rfl g21 (fun r22 hr22 => ?_)
          replace h := lt_x hr22 h
          refine x_iload_n (pc := 36) hC 3 dX10_redoOnDisc_36 rfl rfl ?_
          refine x_iconst (pc := 37) (v := (0 : Int32)) hC dX10_redoOnDisc_37 (by decide) ?_
          obtain ⟨g23, h⟩ := gd_some h
          obtain ⟨o26, ho26, h⟩ := bd_some h
          refine x_callV (pc := 38) (As := [.int a1, .int (0 : Int32)]) (rest := []) hC hl (c_X6_numberAt l hls ho26) lk_RX10_460 fc_12 g23 dX10_redoOnDisc_38 rfl rfl (Nat.le_of_ble_eq_true rfl) ⟨Nat.le_of_ble_eq_true rfl, Nat.le_of_ble_eq_true rfl⟩ ⟨(Nat.le_of_ble_eq_true rfl), (Nat.le_of_ble_eq_true rfl)⟩ ?_
          rcases o26 with ⟨x24 | E27, S25⟩
          · refine xk_i ?_
            replace h := bk_l h
            by_cases c28 : x24 = (2 : Int32)
            · rw [if_pos c28] at h
              rw [c28]
              refine x_tableIn (pc := 41) hC 68 dX10_redoOnDisc_41 (by decide) (by decide) rfl (by decide) ?_
              refine x_pick [1, 0] rfl ?_
              exact t_X10_redoOnDisc_68 hls hC hl hE h
            rw [if_neg c28] at h
            by_cases c29 : x24 = (3 : Int32)
            · rw [if_pos c29] at h
              rw [c29]
              refine x_tableIn (pc := 41) hC 77 dX10_redoOnDisc_41 (by decide) (by decide) rfl (by decide) ?_
              refine x_pick [1, 0] rfl ?_
              exact t_X10_redoOnDisc_77 hls hC hl hE h
            rw [if_neg c29] at h
            by_cases c30 : x24 = (4 : Int32)
            · rw [if_pos c30] at h
              rw [c30]
              refine x_tableIn (pc := 41) hC 95 dX10_redoOnDisc_41 (by decide) (by decide) rfl (by decide) ?_
              refine x_pick [1] rfl ?_
              exact t_X10_redoOnDisc_95 hls hC hl hE h
            rw [if_neg c30] at h
            have n0 : ¬ x24.toInt = (2 : Int) := lv_neT c28 (by decide)
            have n1 : ¬ x24.toInt = (3 : Int) := lv_neT c29 (by decide)
            have n2 : ¬ x24.toInt = (4 : Int) := lv_neT c30 (by decide)
            by_cases hlo : x24.toInt < 2 ∨ 4 < x24.toInt
            · refine x_tableOut (pc := 41) hC 103 dX10_redoOnDisc_41 hlo (by decide) ?_
              refine x_pick [] rfl ?_
              exact t_X10_redoOnDisc_103 hls hC hl hE h
            · omega
          · exact xk_r (xt_out hC hE (bk_r h) (Nat.le_of_ble_eq_true rfl) (Nat.le_of_ble_eq_true rfl))
        · rw [if_pos c31] at h
          exact x_vreturn (pc := 31) hC hE dX10_redoOnDisc_31 (so h) (Nat.le_of_ble_eq_true rfl) (Nat.le_of_ble_eq_true rfl)
      · exact xk_r (xt_out hC hE (bk_r h) (Nat.le_of_ble_eq_true rfl) (Nat.le_of_ble_eq_true rfl))
    · exact xk_r (xt_out hC hE (bk_r h) (Nat.le_of_ble_eq_true rfl) (Nat.le_of_ble_eq_true rfl))
  · exact xk_r (xt_out hC hE (bk_r h) (Nat.le_of_ble_eq_true rfl) (Nat.le_of_ble_eq_true rfl))
theorem c_X10_redoOnDisc (l : Launch) (hls : l.stackTraces = false) {S : mS} {a0 : Nat} {a1 : Int32} {o : Rs Unit} (h : f_X10_redoOnDisc S a0 a1 = some o) : CT (fun _ : Unit => none) l yX10_redoOnDisc (.code yX10_redoOnDisc cX10_redoOnDisc 4 (Option.none : Option Jvm.ClassFile.FieldType)) rm_X10_redoOnDisc S [.ref a0, .int a1] o := ct_of (by decide +kernel) hls (Nat.le_of_ble_eq_true rfl) (fun C hl hC hE => t_X10_redoOnDisc hls hC hl hE h)
abbrev rm_X10_redoLog : Room := { frames := 13, cells := 0, slots := 0, locals := 269 }
def f_X10_redoLog_308 (rc0 : mS → Nat → Option (Rs Unit)) (S : mS) (a0 : Nat) : Option (Rs Unit) :=
  gd (gK S a0 = 16) (lt9 (gI S a0 5) fun x2 => lt9 (x2 + (1 : Int32)) fun x3 => zI (sI S a0 5 x3) fun S4 => rc0 S4 a0)
set_option maxHeartbeats 2000000 in
set_option maxRecDepth 100000 in
theorem t_X10_redoLog_308 {l : Launch} (hls : l.stackTraces = false) {C : cT} (hC : CX C cX10_redoLog 3 yX10_redoLog rm_X10_redoLog) (hl : C.2.1 = l) {S0 : mS} (hE : CE C S0 (Option.none : Option Jvm.ClassFile.FieldType) []) {o : Rs Unit} {rc0 : mS → Nat → Option (Rs Unit)} (hrc0 : ∀ (S : mS) (a0 : Nat), rc0 S a0 = some o → XX C 3 (QQ C (fun _ : Unit => none) S0 o) (0) (0) S 0 [(0, .ref a0)] []) {S : mS} {a0 : Nat} (h : f_X10_redoLog_308 rc0 S a0 = some o) : XX C 3 (QQ C (fun _ : Unit => none) S0 o) (0) (0) S 308 [(0, .ref a0)] [] := by
  unfold f_X10_redoLog_308 at h
  refine x_aload_n (pc := 308) hC 0 dX10_redoLog_308 rfl rfl ?_
  refine x_dup (pc := 309) hC dX10_redoLog_309 rfl ?_
  obtain ⟨g1, h⟩ := gd_some h
  refine x_getIv (pc := 310) (k := 5) hC fc_16 fl_RX10_457 dX10_redoLog_310 rfl g1 (fun x2 hx2 => ?_)
  replace h := lt_x hx2 h
  refine x_iconst (pc := 313) (v := (1 : Int32)) hC dX10_redoLog_313 (by decide) ?_
  refine x_iaddv (pc := 314) hC dX10_redoLog_314 (fun x3 hx3 => ?_)
  replace h := lt_x hx3 h
  refine x_putIv (pc := 315) (k := 5) hC fc_16 fl_RX10_457 dX10_redoLog_315 rfl rfl (nf_int _) g1 (fun S4 hS4 => ?_)
  replace h := zI_x hS4 h
  have g5 : gK S4 a0 = 16 := by rw [hS4]; exact g1
  refine x_goto (pc := 318) hC 0 dX10_redoLog_318 (by decide) ?_
  refine x_pick [0] rfl ?_
  exact hrc0 _ _ h
def f_X10_redoLog_176 (rc0 : mS → Nat → Option (Rs Unit)) (S : mS) (a0 : Nat) : Option (Rs Unit) :=
  gd (gK S a0 = 16) (lt9 (gI S a0 5) fun x2 => bd (f_X10_redoAdd S a0 x2) fun _ S4 => f_X10_redoLog_308 (rc0) S4 a0)
set_option maxHeartbeats 2000000 in
set_option maxRecDepth 100000 in
theorem t_X10_redoLog_176 {l : Launch} (hls : l.stackTraces = false) {C : cT} (hC : CX C cX10_redoLog 3 yX10_redoLog rm_X10_redoLog) (hl : C.2.1 = l) {S0 : mS} (hE : CE C S0 (Option.none : Option Jvm.ClassFile.FieldType) []) {o : Rs Unit} {rc0 : mS → Nat → Option (Rs Unit)} (hrc0 : ∀ (S : mS) (a0 : Nat), rc0 S a0 = some o → XX C 3 (QQ C (fun _ : Unit => none) S0 o) (0) (0) S 0 [(0, .ref a0)] []) {S : mS} {a0 : Nat} (h : f_X10_redoLog_176 rc0 S a0 = some o) : XX C 3 (QQ C (fun _ : Unit => none) S0 o) (0) (0) S 176 [(0, .ref a0)] [] := by
  unfold f_X10_redoLog_176 at h
  refine x_aload_n (pc := 176) hC 0 dX10_redoLog_176 rfl rfl ?_
  refine x_aload_n (pc := 177) hC 0 dX10_redoLog_177 rfl rfl ?_
  obtain ⟨g1, h⟩ := gd_some h
  refine x_getIv (pc := 178) (k := 5) hC fc_16 fl_RX10_457 dX10_redoLog_178 rfl g1 (fun x2 hx2 => ?_)
  replace h := lt_x hx2 h
  obtain ⟨o5, ho5, h⟩ := bd_some h
  refine x_callV (pc := 181) (As := [.int x2]) (rest := []) hC hl (c_X10_redoAdd l hls ho5) lk_RX10_463 fc_16 g1 dX10_redoLog_181 rfl rfl (Nat.le_of_ble_eq_true rfl) ⟨Nat.le_of_ble_eq_true rfl, Nat.le_of_ble_eq_true rfl⟩ ⟨(Nat.le_of_ble_eq_true rfl), (Nat.le_of_ble_eq_true rfl)⟩ ?_
  rcases o5 with ⟨_ | E6, S4⟩
  · refine xk_v ?_
    replace h := bk_l h
    refine x_goto (pc := 184) hC 308 dX10_redoLog_184 (by decide) ?_
    refine x_pick [0] rfl ?_
    exact t_X10_redoLog_308 hls hC hl hE hrc0 h
  · exact xk_r (xt_out hC hE (bk_r h) (Nat.le_of_ble_eq_true rfl) (Nat.le_of_ble_eq_true rfl))
def f_X10_redoLog_187 (rc0 : mS → Nat → Option (Rs Unit)) (S : mS) (a0 : Nat) : Option (Rs Unit) :=
  gd (gK S a0 = 16) (lt9 (gI S a0 5) fun x2 => bd (f_X10_redoOnDisc S a0 x2) fun _ S4 => f_X10_redoLog_308 (rc0) S4 a0)
set_option maxHeartbeats 2000000 in
set_option maxRecDepth 100000 in
theorem t_X10_redoLog_187 {l : Launch} (hls : l.stackTraces = false) {C : cT} (hC : CX C cX10_redoLog 3 yX10_redoLog rm_X10_redoLog) (hl : C.2.1 = l) {S0 : mS} (hE : CE C S0 (Option.none : Option Jvm.ClassFile.FieldType) []) {o : Rs Unit} {rc0 : mS → Nat → Option (Rs Unit)} (hrc0 : ∀ (S : mS) (a0 : Nat), rc0 S a0 = some o → XX C 3 (QQ C (fun _ : Unit => none) S0 o) (0) (0) S 0 [(0, .ref a0)] []) {S : mS} {a0 : Nat} (h : f_X10_redoLog_187 rc0 S a0 = some o) : XX C 3 (QQ C (fun _ : Unit => none) S0 o) (0) (0) S 187 [(0, .ref a0)] [] := by
  unfold f_X10_redoLog_187 at h
  refine x_aload_n (pc := 187) hC 0 dX10_redoLog_187 rfl rfl ?_
  refine x_aload_n (pc := 188) hC 0 dX10_redoLog_188 rfl rfl ?_
  obtain ⟨g1, h⟩ := gd_some h
  refine x_getIv (pc := 189) (k := 5) hC fc_16 fl_RX10_457 dX10_redoLog_189 rfl g1 (fun x2 hx2 => ?_)
  replace h := lt_x hx2 h
  obtain ⟨o5, ho5, h⟩ := bd_some h
  refine x_callV (pc := 192) (As := [.int x2]) (rest := []) hC hl (c_X10_redoOnDisc l hls ho5) lk_RX10_466 fc_16 g1 dX10_redoLog_192 rfl rfl (Nat.le_of_ble_eq_true rfl) ⟨Nat.le_of_ble_eq_true rfl, Nat.le_of_ble_eq_true rfl⟩ ⟨(Nat.le_of_ble_eq_true rfl), (Nat.le_of_ble_eq_true rfl)⟩ ?_
  rcases o5 with ⟨_ | E6, S4⟩
  · refine xk_v ?_
    replace h := bk_l h
    refine x_goto (pc := 195) hC 308 dX10_redoLog_195 (by decide) ?_
    refine x_pick [0] rfl ?_
    exact t_X10_redoLog_308 hls hC hl hE hrc0 h
  · exact xk_r (xt_out hC hE (bk_r h) (Nat.le_of_ble_eq_true rfl) (Nat.le_of_ble_eq_true rfl))
def f_X10_redoLog_198 (rc0 : mS → Nat → Option (Rs Unit)) (S : mS) (a0 : Nat) : Option (Rs Unit) :=
  gd (gK S a0 = 16) (lt9 (gI S a0 5) fun x2 => bd (f_X10_redoOnDisc S a0 x2) fun _ S4 => f_X10_redoLog_308 (rc0) S4 a0)
set_option maxHeartbeats 2000000 in
set_option maxRecDepth 100000 in
theorem t_X10_redoLog_198 {l : Launch} (hls : l.stackTraces = false) {C : cT} (hC : CX C cX10_redoLog 3 yX10_redoLog rm_X10_redoLog) (hl : C.2.1 = l) {S0 : mS} (hE : CE C S0 (Option.none : Option Jvm.ClassFile.FieldType) []) {o : Rs Unit} {rc0 : mS → Nat → Option (Rs Unit)} (hrc0 : ∀ (S : mS) (a0 : Nat), rc0 S a0 = some o → XX C 3 (QQ C (fun _ : Unit => none) S0 o) (0) (0) S 0 [(0, .ref a0)] []) {S : mS} {a0 : Nat} (h : f_X10_redoLog_198 rc0 S a0 = some o) : XX C 3 (QQ C (fun _ : Unit => none) S0 o) (0) (0) S 198 [(0, .ref a0)] [] := by
  unfold f_X10_redoLog_198 at h
  refine x_aload_n (pc := 198) hC 0 dX10_redoLog_198 rfl rfl ?_
  refine x_aload_n (pc := 199) hC 0 dX10_redoLog_199 rfl rfl ?_
  obtain ⟨g1, h⟩ := gd_some h
  refine x_getIv (pc := 200) (k := 5) hC fc_16 fl_RX10_457 dX10_redoLog_200 rfl g1 (fun x2 hx2 => ?_)
  replace h := lt_x hx2 h
  obtain ⟨o5, ho5, h⟩ := bd_some h
  refine x_callV (pc := 203) (As := [.int x2]) (rest := []) hC hl (c_X10_redoOnDisc l hls ho5) lk_RX10_466 fc_16 g1 dX10_redoLog_203 rfl rfl (Nat.le_of_ble_eq_true rfl) ⟨Nat.le_of_ble_eq_true rfl, Nat.le_of_ble_eq_true rfl⟩ ⟨(Nat.le_of_ble_eq_true rfl), (Nat.le_of_ble_eq_true rfl)⟩ ?_
  rcases o5 with ⟨_ | E6, S4⟩
  · refine xk_v ?_
    replace h := bk_l h
    refine x_goto (pc := 206) hC 308 dX10_redoLog_206 (by decide) ?_
    refine x_pick [0] rfl ?_
    exact t_X10_redoLog_308 hls hC hl hE hrc0 h
  · exact xk_r (xt_out hC hE (bk_r h) (Nat.le_of_ble_eq_true rfl) (Nat.le_of_ble_eq_true rfl))
def f_X10_redoLog_209 (rc0 : mS → Nat → Option (Rs Unit)) (S : mS) (a0 : Nat) : Option (Rs Unit) :=
  gd (gK S a0 = 16) (lt9 (gI S a0 5) fun x2 => bd (f_X10_redoOnDisc S a0 x2) fun _ S4 => f_X10_redoLog_308 (rc0) S4 a0)
set_option maxHeartbeats 2000000 in
set_option maxRecDepth 100000 in
theorem t_X10_redoLog_209 {l : Launch} (hls : l.stackTraces = false) {C : cT} (hC : CX C cX10_redoLog 3 yX10_redoLog rm_X10_redoLog) (hl : C.2.1 = l) {S0 : mS} (hE : CE C S0 (Option.none : Option Jvm.ClassFile.FieldType) []) {o : Rs Unit} {rc0 : mS → Nat → Option (Rs Unit)} (hrc0 : ∀ (S : mS) (a0 : Nat), rc0 S a0 = some o → XX C 3 (QQ C (fun _ : Unit => none) S0 o) (0) (0) S 0 [(0, .ref a0)] []) {S : mS} {a0 : Nat} (h : f_X10_redoLog_209 rc0 S a0 = some o) : XX C 3 (QQ C (fun _ : Unit => none) S0 o) (0) (0) S 209 [(0, .ref a0)] [] := by
  unfold f_X10_redoLog_209 at h
  refine x_aload_n (pc := 209) hC 0 dX10_redoLog_209 rfl rfl ?_
  refine x_aload_n (pc := 210) hC 0 dX10_redoLog_210 rfl rfl ?_
  obtain ⟨g1, h⟩ := gd_some h
  refine x_getIv (pc := 211) (k := 5) hC fc_16 fl_RX10_457 dX10_redoLog_211 rfl g1 (fun x2 hx2 => ?_)
  replace h := lt_x hx2 h
  obtain ⟨o5, ho5, h⟩ := bd_some h
  refine x_callV (pc := 214) (As := [.int x2]) (rest := []) hC hl (c_X10_redoOnDisc l hls ho5) lk_RX10_466 fc_16 g1 dX10_redoLog_214 rfl rfl (Nat.le_of_ble_eq_true rfl) ⟨Nat.le_of_ble_eq_true rfl, Nat.le_of_ble_eq_true rfl⟩ ⟨(Nat.le_of_ble_eq_true rfl), (Nat.le_of_ble_eq_true rfl)⟩ ?_
  rcases o5 with ⟨_ | E6, S4⟩
  · refine xk_v ?_
    replace h := bk_l h
    refine x_goto (pc := 217) hC 308 dX10_redoLog_217 (by decide) ?_
    refine x_pick [0] rfl ?_
    exact t_X10_redoLog_308 hls hC hl hE hrc0 h
  · exact xk_r (xt_out hC hE (bk_r h) (Nat.le_of_ble_eq_true rfl) (Nat.le_of_ble_eq_true rfl))
def f_X10_redoLog_220 (rc0 : mS → Nat → Option (Rs Unit)) (S : mS) (a0 : Nat) (a1 : Int32) : Option (Rs Unit) :=
  gd (gK S a0 = 16) (lt9 (gR S a0 1) fun r2 => gd (gK S r2 = 14) (bd (f_X8_slideCross S r2 a1) fun x4 S5 => f_X10_redoLog_308 (rc0) S5 a0))
set_option maxHeartbeats 2000000 in
set_option maxRecDepth 100000 in
theorem t_X10_redoLog_220 {l : Launch} (hls : l.stackTraces = false) {C : cT} (hC : CX C cX10_redoLog 3 yX10_redoLog rm_X10_redoLog) (hl : C.2.1 = l) {S0 : mS} (hE : CE C S0 (Option.none : Option Jvm.ClassFile.FieldType) []) {o : Rs Unit} {rc0 : mS → Nat → Option (Rs Unit)} (hrc0 : ∀ (S : mS) (a0 : Nat), rc0 S a0 = some o → XX C 3 (QQ C (fun _ : Unit => none) S0 o) (0) (0) S 0 [(0, .ref a0)] []) {S : mS} {a0 : Nat} {a1 : Int32} (h : f_X10_redoLog_220 rc0 S a0 a1 = some o) : XX C 3 (QQ C (fun _ : Unit => none) S0 o) (0) (0) S 220 [(0, .ref a0), (1, .int a1)] [] := by
  unfold f_X10_redoLog_220 at h
  refine x_aload_n (pc := 220) hC 0 dX10_redoLog_220 rfl rfl ?_
  obtain ⟨g1, h⟩ := gd_some h
  refine x_getRv (pc := 221) (k := 1) hC fc_16 fl_RX10_16 dX10_redoLog_221 rfl g1 (fun r2 hr2 => ?_)
  replace h := lt_x hr2 h
  refine x_iload_n (pc := 224) hC 1 dX10_redoLog_224 rfl rfl ?_
  obtain ⟨g3, h⟩ := gd_some h
  obtain ⟨o6, ho6, h⟩ := bd_some h
  refine x_callV (pc := 225) (As := [.int a1]) (rest := []) hC hl (c_X8_slideCross l hls ho6) lk_RX10_213 fc_14 g3 dX10_redoLog_225 rfl rfl (Nat.le_of_ble_eq_true rfl) ⟨Nat.le_of_ble_eq_true rfl, Nat.le_of_ble_eq_true rfl⟩ ⟨(Nat.le_of_ble_eq_true rfl), (Nat.le_of_ble_eq_true rfl)⟩ ?_
  rcases o6 with ⟨x4 | E7, S5⟩
  · refine xk_i ?_
    replace h := bk_l h
    refine x_pop (pc := 228) hC dX10_redoLog_228 rfl ?_
    refine x_goto (pc := 229) hC 308 dX10_redoLog_229 (by decide) ?_
    refine x_pick [0] rfl ?_
    exact t_X10_redoLog_308 hls hC hl hE hrc0 h
  · exact xk_r (xt_out hC hE (bk_r h) (Nat.le_of_ble_eq_true rfl) (Nat.le_of_ble_eq_true rfl))
def f_X10_redoLog_232 (rc0 : mS → Nat → Option (Rs Unit)) (S : mS) (a0 : Nat) (a1 : Int32) : Option (Rs Unit) :=
  gd (gK S a0 = 16) (lt9 (gR S a0 1) fun r2 => gd (gK S r2 = 14) (bd (f_X8_run S r2 a1) fun x4 S5 => f_X10_redoLog_308 (rc0) S5 a0))
set_option maxHeartbeats 2000000 in
set_option maxRecDepth 100000 in
theorem t_X10_redoLog_232 {l : Launch} (hls : l.stackTraces = false) {C : cT} (hC : CX C cX10_redoLog 3 yX10_redoLog rm_X10_redoLog) (hl : C.2.1 = l) {S0 : mS} (hE : CE C S0 (Option.none : Option Jvm.ClassFile.FieldType) []) {o : Rs Unit} {rc0 : mS → Nat → Option (Rs Unit)} (hrc0 : ∀ (S : mS) (a0 : Nat), rc0 S a0 = some o → XX C 3 (QQ C (fun _ : Unit => none) S0 o) (0) (0) S 0 [(0, .ref a0)] []) {S : mS} {a0 : Nat} {a1 : Int32} (h : f_X10_redoLog_232 rc0 S a0 a1 = some o) : XX C 3 (QQ C (fun _ : Unit => none) S0 o) (0) (0) S 232 [(0, .ref a0), (1, .int a1)] [] := by
  unfold f_X10_redoLog_232 at h
  refine x_aload_n (pc := 232) hC 0 dX10_redoLog_232 rfl rfl ?_
  obtain ⟨g1, h⟩ := gd_some h
  refine x_getRv (pc := 233) (k := 1) hC fc_16 fl_RX10_16 dX10_redoLog_233 rfl g1 (fun r2 hr2 => ?_)
  replace h := lt_x hr2 h
  refine x_iload_n (pc := 236) hC 1 dX10_redoLog_236 rfl rfl ?_
  obtain ⟨g3, h⟩ := gd_some h
  obtain ⟨o6, ho6, h⟩ := bd_some h
  refine x_callV (pc := 237) (As := [.int a1]) (rest := []) hC hl (c_X8_run l hls ho6) lk_RX10_249 fc_14 g3 dX10_redoLog_237 rfl rfl (Nat.le_of_ble_eq_true rfl) ⟨Nat.le_of_ble_eq_true rfl, Nat.le_of_ble_eq_true rfl⟩ ⟨(Nat.le_of_ble_eq_true rfl), (Nat.le_of_ble_eq_true rfl)⟩ ?_
  rcases o6 with ⟨x4 | E7, S5⟩
  · refine xk_i ?_
    replace h := bk_l h
    refine x_pop (pc := 240) hC dX10_redoLog_240 rfl ?_
    refine x_goto (pc := 241) hC 308 dX10_redoLog_241 (by decide) ?_
    refine x_pick [0] rfl ?_
    exact t_X10_redoLog_308 hls hC hl hE hrc0 h
  · exact xk_r (xt_out hC hE (bk_r h) (Nat.le_of_ble_eq_true rfl) (Nat.le_of_ble_eq_true rfl))
def f_X10_redoLog_244 (rc0 : mS → Nat → Option (Rs Unit)) (S : mS) (a0 : Nat) (a1 : Int32) (a2 : Int32) : Option (Rs Unit) :=
  gd (gK S a0 = 16) (lt9 (gR S a0 1) fun r2 => gd (gK S r2 = 14) (lt9 (gR S r2 3) fun r4 => gd (gK S r4 = 11) (bd (f_X5_change S r4 a1 a2) fun x6 S7 => f_X10_redoLog_308 (rc0) S7 a0)))
set_option maxHeartbeats 2000000 in
set_option maxRecDepth 100000 in
theorem t_X10_redoLog_244 {l : Launch} (hls : l.stackTraces = false) {C : cT} (hC : CX C cX10_redoLog 3 yX10_redoLog rm_X10_redoLog) (hl : C.2.1 = l) {S0 : mS} (hE : CE C S0 (Option.none : Option Jvm.ClassFile.FieldType) []) {o : Rs Unit} {rc0 : mS → Nat → Option (Rs Unit)} (hrc0 : ∀ (S : mS) (a0 : Nat), rc0 S a0 = some o → XX C 3 (QQ C (fun _ : Unit => none) S0 o) (0) (0) S 0 [(0, .ref a0)] []) {S : mS} {a0 : Nat} {a1 : Int32} {a2 : Int32} (h : f_X10_redoLog_244 rc0 S a0 a1 a2 = some o) : XX C 3 (QQ C (fun _ : Unit => none) S0 o) (0) (0) S 244 [(0, .ref a0), (1, .int a1), (2, .int a2)] [] := by
  unfold f_X10_redoLog_244 at h
  refine x_aload_n (pc := 244) hC 0 dX10_redoLog_244 rfl rfl ?_
  obtain ⟨g1, h⟩ := gd_some h
  refine x_getRv (pc := 245) (k := 1) hC fc_16 fl_RX10_16 dX10_redoLog_245 rfl g1 (fun r2 hr2 => ?_)
  replace h := lt_x hr2 h
  obtain ⟨g3, h⟩ := gd_some h
  refine x_getRv (pc := 248) (k := 3) hC fc_14 fl_RX10_300 dX10_redoLog_248 rfl g3 (fun r4 hr4 => ?_)
  replace h := lt_x hr4 h
  refine x_iload_n (pc := 251) hC 1 dX10_redoLog_251 rfl rfl ?_
  refine x_iload_n (pc := 252) hC 2 dX10_redoLog_252 rfl rfl ?_
  obtain ⟨g5, h⟩ := gd_some h
  obtain ⟨o8, ho8, h⟩ := bd_some h
  refine x_callV (pc := 253) (As := [.int a1, .int a2]) (rest := []) hC hl (c_X5_change l hls ho8) lk_RX10_304 fc_11 g5 dX10_redoLog_253 rfl rfl (Nat.le_of_ble_eq_true rfl) ⟨Nat.le_of_ble_eq_true rfl, Nat.le_of_ble_eq_true rfl⟩ ⟨(Nat.le_of_ble_eq_true rfl), (Nat.le_of_ble_eq_true rfl)⟩ ?_
  rcases o8 with ⟨x6 | E9, S7⟩
  · refine xk_i ?_
    replace h := bk_l h
    refine x_pop (pc := 256) hC dX10_redoLog_256 rfl ?_
    refine x_goto (pc := 257) hC 308 dX10_redoLog_257 (by decide) ?_
    refine x_pick [0] rfl ?_
    exact t_X10_redoLog_308 hls hC hl hE hrc0 h
  · exact xk_r (xt_out hC hE (bk_r h) (Nat.le_of_ble_eq_true rfl) (Nat.le_of_ble_eq_true rfl))
def f_X10_redoLog_260 (rc0 : mS → Nat → Option (Rs Unit)) (S : mS) (a0 : Nat) (a1 : Int32) (a2 : Int32) : Option (Rs Unit) :=
  gd (gK S a0 = 16) (lt9 (gR S a0 1) fun r2 => gd (gK S r2 = 14) (bd (f_X8_setLights S r2 a1 a2) fun x4 S5 => f_X10_redoLog_308 (rc0) S5 a0))
set_option maxHeartbeats 2000000 in
set_option maxRecDepth 100000 in
theorem t_X10_redoLog_260 {l : Launch} (hls : l.stackTraces = false) {C : cT} (hC : CX C cX10_redoLog 3 yX10_redoLog rm_X10_redoLog) (hl : C.2.1 = l) {S0 : mS} (hE : CE C S0 (Option.none : Option Jvm.ClassFile.FieldType) []) {o : Rs Unit} {rc0 : mS → Nat → Option (Rs Unit)} (hrc0 : ∀ (S : mS) (a0 : Nat), rc0 S a0 = some o → XX C 3 (QQ C (fun _ : Unit => none) S0 o) (0) (0) S 0 [(0, .ref a0)] []) {S : mS} {a0 : Nat} {a1 : Int32} {a2 : Int32} (h : f_X10_redoLog_260 rc0 S a0 a1 a2 = some o) : XX C 3 (QQ C (fun _ : Unit => none) S0 o) (0) (0) S 260 [(0, .ref a0), (1, .int a1), (2, .int a2)] [] := by
  unfold f_X10_redoLog_260 at h
  refine x_aload_n (pc := 260) hC 0 dX10_redoLog_260 rfl rfl ?_
  obtain ⟨g1, h⟩ := gd_some h
  refine x_getRv (pc := 261) (k := 1) hC fc_16 fl_RX10_16 dX10_redoLog_261 rfl g1 (fun r2 hr2 => ?_)
  replace h := lt_x hr2 h
  refine x_iload_n (pc := 264) hC 1 dX10_redoLog_264 rfl rfl ?_
  refine x_iload_n (pc := 265) hC 2 dX10_redoLog_265 rfl rfl ?_
  obtain ⟨g3, h⟩ := gd_some h
  obtain ⟨o6, ho6, h⟩ := bd_some h
  refine x_callV (pc := 266) (As := [.int a1, .int a2]) (rest := []) hC hl (c_X8_setLights l hls ho6) lk_RX10_312 fc_14 g3 dX10_redoLog_266 rfl rfl (Nat.le_of_ble_eq_true rfl) ⟨Nat.le_of_ble_eq_true rfl, Nat.le_of_ble_eq_true rfl⟩ ⟨(Nat.le_of_ble_eq_true rfl), (Nat.le_of_ble_eq_true rfl)⟩ ?_
  rcases o6 with ⟨x4 | E7, S5⟩
  · refine xk_i ?_
    replace h := bk_l h
    refine x_pop (pc := 269) hC dX10_redoLog_269 rfl ?_
    refine x_goto (pc := 270) hC 308 dX10_redoLog_270 (by decide) ?_
    refine x_pick [0] rfl ?_
    exact t_X10_redoLog_308 hls hC hl hE hrc0 h
  · exact xk_r (xt_out hC hE (bk_r h) (Nat.le_of_ble_eq_true rfl) (Nat.le_of_ble_eq_true rfl))
def f_X10_redoLog_273 (rc0 : mS → Nat → Option (Rs Unit)) (S : mS) (a0 : Nat) (a1 : Int32) (a2 : Int32) : Option (Rs Unit) :=
  gd (gK S a0 = 16) (lt9 (gR S a0 3) fun r2 => lt9 (gR S a0 1) fun r3 => gd (gK S r3 = 14) (lt9 (gR S r3 1) fun r5 => lt9 (gR S a0 2) fun r6 => gd (gK S r6 = 12) (lt9 (gR S r6 1) fun r8 => gd (gK S r2 = 13) (bd (f_X7_doAll S r2 r5 r8 a1 a2) fun x10 S11 => f_X10_redoLog_308 (rc0) S11 a0))))
set_option maxHeartbeats 2000000 in
set_option maxRecDepth 100000 in
theorem t_X10_redoLog_273 {l : Launch} (hls : l.stackTraces = false) {C : cT} (hC : CX C cX10_redoLog 3 yX10_redoLog rm_X10_redoLog) (hl : C.2.1 = l) {S0 : mS} (hE : CE C S0 (Option.none : Option Jvm.ClassFile.FieldType) []) {o : Rs Unit} {rc0 : mS → Nat → Option (Rs Unit)} (hrc0 : ∀ (S : mS) (a0 : Nat), rc0 S a0 = some o → XX C 3 (QQ C (fun _ : Unit => none) S0 o) (0) (0) S 0 [(0, .ref a0)] []) {S : mS} {a0 : Nat} {a1 : Int32} {a2 : Int32} (h : f_X10_redoLog_273 rc0 S a0 a1 a2 = some o) : XX C 3 (QQ C (fun _ : Unit => none) S0 o) (0) (0) S 273 [(0, .ref a0), (1, .int a1), (2, .int a2)] [] := by
  unfold f_X10_redoLog_273 at h
  refine x_aload_n (pc := 273) hC 0 dX10_redoLog_273 rfl rfl ?_
  obtain ⟨g1, h⟩ := gd_some h
  refine x_getRv (pc := 274) (k := 3) hC fc_16 fl_RX10_29 dX10_redoLog_274 rfl g1 (fun r2 hr2 => ?_)
  replace h := lt_x hr2 h
  refine x_aload_n (pc := 277) hC 0 dX10_redoLog_277 rfl rfl ?_
  refine x_getRv (pc := 278) (k := 1) hC fc_16 fl_RX10_16 dX10_redoLog_278 rfl g1 (fun r3 hr3 => ?_)
  replace h := lt_x hr3 h
  obtain ⟨g4, h⟩ := gd_some h
  refine x_getRv (pc := 281) (k := 1) hC fc_14 fl_RX10_361 dX10_redoLog_281 rfl g4 (fun r5 hr5 => ?_)
  replace h := lt_x hr5 h
  refine x_aload_n (pc := 284) hC 0 dX10_redoLog_284 rfl rfl ?_
  refine x_getRv (pc := 285) (k := 2) hC fc_16 fl_RX10_22 dX10_redoLog_285 rfl g1 (fun r6 hr6 => ?_)
  replace h := lt_x hr6 h
  obtain ⟨g7, h⟩ := gd_some h
  refine x_getRv (pc := 288) (k := 1) hC fc_12 fl_RX10_469 dX10_redoLog_288 rfl g7 (fun r8 hr8 => ?_)
  replace h := lt_x hr8 h
  refine x_iload_n (pc := 291) hC 1 dX10_redoLog_291 rfl rfl ?_
  refine x_iload_n (pc := 292) hC 2 dX10_redoLog_292 rfl rfl ?_
  obtain ⟨g9, h⟩ := gd_some h
  obtain ⟨o12, ho12, h⟩ := bd_some h
  refine x_callV (pc := 293) (As := [.ref r5, .ref r8, .int a1, .int a2]) (rest := []) hC hl (c_X7_doAll l hls ho12) lk_RX10_375 fc_13 g9 dX10_redoLog_293 rfl rfl (Nat.le_of_ble_eq_true rfl) ⟨Nat.le_of_ble_eq_true rfl, Nat.le_of_ble_eq_true rfl⟩ ⟨(Nat.le_of_ble_eq_true rfl), (Nat.le_of_ble_eq_true rfl)⟩ ?_
  rcases o12 with ⟨x10 | E13, S11⟩
  · refine xk_i ?_
    replace h := bk_l h
    refine x_pop (pc := 296) hC dX10_redoLog_296 rfl ?_
    refine x_goto (pc := 297) hC 308 dX10_redoLog_297 (by decide) ?_
    refine x_pick [0] rfl ?_
    exact t_X10_redoLog_308 hls hC hl hE hrc0 h
  · exact xk_r (xt_out hC hE (bk_r h) (Nat.le_of_ble_eq_true rfl) (Nat.le_of_ble_eq_true rfl))
def f_X10_redoLog_300 (rc0 : mS → Nat → Option (Rs Unit)) (S : mS) (a0 : Nat) : Option (Rs Unit) :=
  gd (gK S a0 = 16) (lt9 (gI S a0 5) fun x2 => bd (f_X10_redoOnDeck S a0 x2) fun _ S4 => f_X10_redoLog_308 (rc0) S4 a0)
set_option maxHeartbeats 2000000 in
set_option maxRecDepth 100000 in
theorem t_X10_redoLog_300 {l : Launch} (hls : l.stackTraces = false) {C : cT} (hC : CX C cX10_redoLog 3 yX10_redoLog rm_X10_redoLog) (hl : C.2.1 = l) {S0 : mS} (hE : CE C S0 (Option.none : Option Jvm.ClassFile.FieldType) []) {o : Rs Unit} {rc0 : mS → Nat → Option (Rs Unit)} (hrc0 : ∀ (S : mS) (a0 : Nat), rc0 S a0 = some o → XX C 3 (QQ C (fun _ : Unit => none) S0 o) (0) (0) S 0 [(0, .ref a0)] []) {S : mS} {a0 : Nat} (h : f_X10_redoLog_300 rc0 S a0 = some o) : XX C 3 (QQ C (fun _ : Unit => none) S0 o) (0) (0) S 300 [(0, .ref a0)] [] := by
  unfold f_X10_redoLog_300 at h
  refine x_aload_n (pc := 300) hC 0 dX10_redoLog_300 rfl rfl ?_
  refine x_aload_n (pc := 301) hC 0 dX10_redoLog_301 rfl rfl ?_
  obtain ⟨g1, h⟩ := gd_some h
  refine x_getIv (pc := 302) (k := 5) hC fc_16 fl_RX10_457 dX10_redoLog_302 rfl g1 (fun x2 hx2 => ?_)
  replace h := lt_x hx2 h
  obtain ⟨o5, ho5, h⟩ := bd_some h
  refine x_callV (pc := 305) (As := [.int x2]) (rest := []) hC hl (c_X10_redoOnDeck l hls ho5) lk_RX10_472 fc_16 g1 dX10_redoLog_305 rfl rfl (Nat.le_of_ble_eq_true rfl) ⟨Nat.le_of_ble_eq_true rfl, Nat.le_of_ble_eq_true rfl⟩ ⟨(Nat.le_of_ble_eq_true rfl), (Nat.le_of_ble_eq_true rfl)⟩ ?_
  rcases o5 with ⟨_ | E6, S4⟩
  · refine xk_v ?_
    replace h := bk_l h
    refine x_pick [0] rfl ?_
    exact t_X10_redoLog_308 hls hC hl hE hrc0 h
  · exact xk_r (xt_out hC hE (bk_r h) (Nat.le_of_ble_eq_true rfl) (Nat.le_of_ble_eq_true rfl))
def f_X10_redoLog_0  : Nat → mS → Nat → Option (Rs Unit)
  | 0, _, _ => none
  | k + 1, S, a0 => gd (gK S a0 = 16) (lt9 (gI S a0 5) fun x2 => lt9 (gR S a0 2) fun r3 => gd (gK S r3 = 12) (lt9 (gI S r3 2) fun x5 => if x5 ≤ x2 then (some (.inl (), S)) else (lt9 (gR S a0 2) fun r6 => lt9 (gI S a0 5) fun x7 => gd (gK S r6 = 12) (bd (f_X6_numberAt S r6 x7 (1 : Int32)) fun x9 S10 => gd (gK S10 a0 = 16) (lt9 (gR S10 a0 2) fun r14 => lt9 (gI S10 a0 5) fun x15 => gd (gK S10 r14 = 12) (bd (f_X6_numberAt S10 r14 x15 (2 : Int32)) fun x17 S18 => gd (gK S18 a0 = 16) (lt9 (gR S18 a0 2) fun r22 => lt9 (gI S18 a0 5) fun x23 => gd (gK S18 r22 = 12) (bd (f_X6_numberAt S18 r22 x23 (0 : Int32)) fun x25 S26 => if x25 = (1 : Int32) then (f_X10_redoLog_176 (f_X10_redoLog_0 k) S26 a0) else if x25 = (2 : Int32) then (f_X10_redoLog_187 (f_X10_redoLog_0 k) S26 a0) else if x25 = (3 : Int32) then (f_X10_redoLog_198 (f_X10_redoLog_0 k) S26 a0) else if x25 = (4 : Int32) then (f_X10_redoLog_209 (f_X10_redoLog_0 k) S26 a0) else if x25 = (19 : Int32) then (f_X10_redoLog_220 (f_X10_redoLog_0 k) S26 a0 x9) else if x25 = (22 : Int32) then (f_X10_redoLog_232 (f_X10_redoLog_0 k) S26 a0 x9) else if x25 = (25 : Int32) then (f_X10_redoLog_244 (f_X10_redoLog_0 k) S26 a0 x9 x17) else if x25 = (26 : Int32) then (f_X10_redoLog_260 (f_X10_redoLog_0 k) S26 a0 x9 x17) else if x25 = (27 : Int32) then (f_X10_redoLog_273 (f_X10_redoLog_0 k) S26 a0 x9 x17) else (f_X10_redoLog_300 (f_X10_redoLog_0 k) S26 a0)))))))))
set_option maxHeartbeats 2000000 in
set_option maxRecDepth 100000 in
theorem t_X10_redoLog_0 {l : Launch} (hls : l.stackTraces = false) {C : cT} (hC : CX C cX10_redoLog 3 yX10_redoLog rm_X10_redoLog) (hl : C.2.1 = l) {S0 : mS} (hE : CE C S0 (Option.none : Option Jvm.ClassFile.FieldType) []) {o : Rs Unit} : ∀ (k : Nat) (S : mS) (a0 : Nat), f_X10_redoLog_0  k S a0 = some o → XX C 3 (QQ C (fun _ : Unit => none) S0 o) (0) (0) S 0 [(0, .ref a0)] [] := by
  intro k
  induction k with
  | zero => intro S a0 h; cases h
  | succ k ih =>
    intro S a0 h
    unfold f_X10_redoLog_0 at h
    refine x_aload_n (pc := 0) hC 0 dX10_redoLog_0 rfl rfl ?_
    obtain ⟨g1, h⟩ := gd_some h
    refine x_getIv (pc := 1) (k := 5) hC fc_16 fl_RX10_457 dX10_redoLog_1 rfl g1 (fun x2 hx2 => ?_)
    replace h := lt_x hx2 h
    refine x_aload_n (pc := 4) hC 0 dX10_redoLog_4 rfl rfl ?_
    refine x_getRv (pc := 5) (k := 2) hC fc_16 fl_RX10_22 dX10_redoLog_5 rfl g1 (fun r3 hr3 => ?_)
    replace h := lt_x hr3 h
    obtain ⟨g4, h⟩ := gd_some h
    refine x_getIv (pc := 8) (k := 2) hC fc_12 fl_RX10_396 dX10_redoLog_8 rfl g4 (fun x5 hx5 => ?_)
    replace h := lt_x hx5 h
    refine x_icmp_ge (pc := 11) hC 321 dX10_redoLog_11 (by decide) (fun c38 => ?_) (fun c38 => ?_)
    · rw [if_pos c38] at h
      exact x_vreturn (pc := 321) hC hE dX10_redoLog_321 (so h) (Nat.le_of_ble_eq_true rfl) (Nat.le_of_ble_eq_true rfl)
    · rw [if_neg c38] at h
      refine x_aload_n (pc := 14) hC 0 dX10_redoLog_14 rfl rfl ?_
      refine x_getRv (pc := 15) (k := 2) hC fc_16 fl_RX10_22 dX10_redoLog_15 rfl g1 (fun r6 hr6 => ?_)
      replace h := lt_x hr6 h
      refine x_aload_n (pc := 18) hC 0 dX10_redoLog_18 rfl rfl ?_
      refine x_getIv (pc := 19) (k := 5) hC fc_16 fl_RX10_457 dX10_redoLog_19 rfl g1 (fun x7 hx7 => ?_)
      replace h := lt_x hx7 h
      refine x_iconst (pc := 22) (v := (1 : Int32)) hC dX10_redoLog_22 (by decide) ?_
      obtain ⟨g8, h⟩ := gd_some h
      obtain ⟨o11, ho11, h⟩ := bd_some h
      refine x_callV (pc := 23) (As := [.int x7, .int (1 : Int32)]) (rest := []) hC hl (c_X6_numberAt l hls ho11) lk_RX10_460 fc_12 g8 dX10_redoLog_23 rfl rfl (Nat.le_of_ble_eq_true rfl) ⟨Nat.le_of_ble_eq_true rfl, Nat.le_of_ble_eq_true rfl⟩ ⟨(Nat.le_of_ble_eq_true rfl), (Nat.le_of_ble_eq_true rfl)⟩ ?_
      rcases o11 with ⟨x9 | E12, S10⟩
      · refine xk_i ?_
        replace h := bk_l h
        refine x_istore_n (pc := 26) hC dX10_redoLog_26 rfl (by decide) (by decide) rfl ?_
        refine x_aload_n (pc := 27) hC 1 dX10_redoLog_27 rfl rfl ?_
        obtain ⟨g13, h⟩ := gd_some h
        refine x_getRv (pc := 28) (k := 2) hC fc_16 fl_RX10_22 dX10_redoLog_28 rfl g13 (fun r14 hr14 => ?_)
        replace h := lt_x hr14 h
        refine x_aload_n (pc := 31) hC 1 dX10_redoLog_31 rfl rfl ?_
        refine x_getIv (pc := 32) (k := 5) hC fc_16 fl_RX10_457 dX10_redoLog_32 rfl g13 (fun x15 hx15 => ?_)
        replace h := lt_x hx15 h
        refine x_iconst (pc := 35) (v := (2 : Int32)) hC dX10_redoLog_35 (by decide) ?_
        obtain ⟨g16, h⟩ := gd_some h
        obtain ⟨o19, ho19, h⟩ := bd_some h
        refine x_callV (pc := 36) (As := [.int x15, .int (2 : Int32)]) (rest := []) hC hl (c_X6_numberAt l hls ho19) lk_RX10_460 fc_12 g16 dX10_redoLog_36 rfl rfl (Nat.le_of_ble_eq_true rfl) ⟨Nat.le_of_ble_eq_true rfl, Nat.le_of_ble_eq_true rfl⟩ ⟨(Nat.le_of_ble_eq_true rfl), (Nat.le_of_ble_eq_true rfl)⟩ ?_
        rcases o19 with ⟨x17 | E20, S18⟩
        · refine xk_i ?_
          replace h := bk_l h
          refine x_istore_n (pc := 39) hC dX10_redoLog_39 rfl (by decide) (by decide) rfl ?_
          refine x_aload_n (pc := 40) hC 2 dX10_redoLog_40 rfl rfl ?_
          obtain ⟨g21, h⟩ := gd_some h
          refine x_getRv (pc := 41) (k := 2) hC fc_16 fl_RX10_22 dX10_redoLog_41 rfl g21 (fun r22 hr22 => ?_)
          replace h := lt_x hr22 h
          refine x_aload_n (pc := 44) hC 2 dX10_redoLog_44 rfl rfl ?_
          refine x_getIv (pc := 45) (k := 5) hC fc_16 fl_RX10_457 dX10_redoLog_45 rfl g21 (fun x23 hx23 => ?_)
          replace h := lt_x hx23 h
          refine x_iconst (pc := 48) (v := (0 : Int32)) hC dX10_redoLog_48 (by decide) ?_
          obtain ⟨g24, h⟩ := gd_some h
          obtain ⟨o27, ho27, h⟩ := bd_some h
          refine x_callV (pc := 49) (As := [.int x23, .int (0 : Int32)]) (rest := []) hC hl (c_X6_numberAt l hls ho27) lk_RX10_460 fc_12 g24 dX10_redoLog_49 rfl rfl (Nat.le_of_ble_eq_true rfl) ⟨Nat.le_of_ble_eq_true rfl, Nat.le_of_ble_eq_true rfl⟩ ⟨(Nat.le_of_ble_eq_true rfl), (Nat.le_of_ble_eq_true rfl)⟩ ?_
          rcases o27 with ⟨x25 | E28, S26⟩
          · refine xk_i ?_
            replace h := bk_l h
            by_cases c29 : x25 = (1 : Int32)
            · rw [if_pos c29] at h
              rw [c29]
              refine x_tableIn (pc := 52) hC 176 dX10_redoLog_52 (by decide) (by decide) rfl (by decide) ?_
              refine x_pick [2] rfl ?_
              exact t_X10_redoLog_176 hls hC hl hE (fun z0 z1 hz => ih z0 z1 hz) h
            rw [if_neg c29] at h
            by_cases c30 : x25 = (2 : Int32)
            · rw [if_pos c30] at h
              rw [c30]
              refine x_tableIn (pc := 52) hC 187 dX10_redoLog_52 (by decide) (by decide) rfl (by decide) ?_
              refine x_pick [2] rfl ?_
              exact t_X10_redoLog_187 hls hC hl hE (fun z0 z1 hz => ih z0 z1 hz) h
            rw [if_neg c30] at h
            by_cases c31 : x25 = (3 : Int32)
            · rw [if_pos c31] at h
              rw [c31]
              refine x_tableIn (pc := 52) hC 198 dX10_redoLog_52 (by decide) (by decide) rfl (by decide) ?_
              refine x_pick [2] rfl ?_
              exact t_X10_redoLog_198 hls hC hl hE (fun z0 z1 hz => ih z0 z1 hz) h
            rw [if_neg c31] at h
            by_cases c32 : x25 = (4 : Int32)
            · rw [if_pos c32] at h
              rw [c32]
              refine x_tableIn (pc := 52) hC 209 dX10_redoLog_52 (by decide) (by decide) rfl (by decide) ?_
              refine x_pick [2] rfl ?_
              exact t_X10_redoLog_209 hls hC hl hE (fun z0 z1 hz => ih z0 z1 hz) h
            rw [if_neg c32] at h
            by_cases c33 : x25 = (19 : Int32)
            · rw [if_pos c33] at h
              rw [c33]
              refine x_tableIn (pc := 52) hC 220 dX10_redoLog_52 (by decide) (by decide) rfl (by decide) ?_
              refine x_pick [2, 1] rfl ?_
              exact t_X10_redoLog_220 hls hC hl hE (fun z0 z1 hz => ih z0 z1 hz) h
            rw [if_neg c33] at h
            by_cases c34 : x25 = (22 : Int32)
            · rw [if_pos c34] at h
              rw [c34]
              refine x_tableIn (pc := 52) hC 232 dX10_redoLog_52 (by decide) (by decide) rfl (by decide) ?_
              refine x_pick [2, 1] rfl ?_
              exact t_X10_redoLog_232 hls hC hl hE (fun z0 z1 hz => ih z0 z1 hz) h
            rw [if_neg c34] at h
            by_cases c35 : x25 = (25 : Int32)
            · rw [if_pos c35] at h
              rw [c35]
              refine x_tableIn (pc := 52) hC 244 dX10_redoLog_52 (by decide) (by decide) rfl (by decide) ?_
              refine x_pick [2, 1, 0] rfl ?_
              exact t_X10_redoLog_244 hls hC hl hE (fun z0 z1 hz => ih z0 z1 hz) h
            rw [if_neg c35] at h
            by_cases c36 : x25 = (26 : Int32)
            · rw [if_pos c36] at h
              rw [c36]
              refine x_tableIn (pc := 52) hC 260 dX10_redoLog_52 (by decide) (by decide) rfl (by decide) ?_
              refine x_pick [2, 1, 0] rfl ?_
              exact t_X10_redoLog_260 hls hC hl hE (fun z0 z1 hz => ih z0 z1 hz) h
            rw [if_neg c36] at h
            by_cases c37 : x25 = (27 : Int32)
            · rw [if_pos c37] at h
              rw [c37]
              refine x_tableIn (pc := 52) hC 273 dX10_redoLog_52 (by decide) (by decide) rfl (by decide) ?_
              refine x_pick [2, 1, 0] rfl ?_
              exact t_X10_redoLog_273 hls hC hl hE (fun z0 z1 hz => ih z0 z1 hz) h
            rw [if_neg c37] at h
            have n0 : ¬ x25.toInt = (1 : Int) := lv_neT c29 (by decide)
            have n1 : ¬ x25.toInt = (2 : Int) := lv_neT c30 (by decide)
            have n2 : ¬ x25.toInt = (3 : Int) := lv_neT c31 (by decide)
            have n3 : ¬ x25.toInt = (4 : Int) := lv_neT c32 (by decide)
            have n4 : ¬ x25.toInt = (19 : Int) := lv_neT c33 (by decide)
            have n5 : ¬ x25.toInt = (22 : Int) := lv_neT c34 (by decide)
            have n6 : ¬ x25.toInt = (25 : Int) := lv_neT c35 (by decide)
            have n7 : ¬ x25.toInt = (26 : Int) := lv_neT c36 (by decide)
            have n8 : ¬ x25.toInt = (27 : Int) := lv_neT c37 (by decide)
            by_cases hlo : x25.toInt < 1 ∨ 27 < x25.toInt
            · refine x_tableOut (pc := 52) hC 300 dX10_redoLog_52 hlo (by decide) ?_
              refine x_pick [2] rfl ?_
              exact t_X10_redoLog_300 hls hC hl hE (fun z0 z1 hz => ih z0 z1 hz) h
            have hin : x25.toInt = 5 ∨ x25.toInt = 6 ∨ x25.toInt = 7 ∨ x25.toInt = 8 ∨ x25.toInt = 9 ∨ x25.toInt = 10 ∨ x25.toInt = 11 ∨ x25.toInt = 12 ∨ x25.toInt = 13 ∨ x25.toInt = 14 ∨ x25.toInt = 15 ∨ x25.toInt = 16 ∨ x25.toInt = 17 ∨ x25.toInt = 18 ∨ x25.toInt = 20 ∨ x25.toInt = 21 ∨ x25.toInt = 23 ∨ x25.toInt = 24 := by omega
            rcases hin with hk | hk | hk | hk | hk | hk | hk | hk | hk | hk | hk | hk | hk | hk | hk | hk | hk | hk
            · refine x_tableIn (pc := 52) hC 300 dX10_redoLog_52 (by omega) (by omega) (by rw [hk]; rfl) (by decide) ?_
              refine x_pick [2] rfl ?_
              exact t_X10_redoLog_300 hls hC hl hE (fun z0 z1 hz => ih z0 z1 hz) h
            · refine x_tableIn (pc := 52) hC 300 dX10_redoLog_52 (by omega) (by omega) (by rw [hk]; rfl) (by decide) ?_
              refine x_pick [2] rfl ?_
              exact t_X10_redoLog_300 hls hC hl hE (fun z0 z1 hz => ih z0 z1 hz) h
            · refine x_tableIn (pc := 52) hC 300 dX10_redoLog_52 (by omega) (by omega) (by rw [hk]; rfl) (by decide) ?_
              refine x_pick [2] rfl ?_
              exact t_X10_redoLog_300 hls hC hl hE (fun z0 z1 hz => ih z0 z1 hz) h
            · refine x_tableIn (pc := 52) hC 300 dX10_redoLog_52 (by omega) (by omega) (by rw [hk]; rfl) (by decide) ?_
              refine x_pick [2] rfl ?_
              exact t_X10_redoLog_300 hls hC hl hE (fun z0 z1 hz => ih z0 z1 hz) h
            · refine x_tableIn (pc := 52) hC 300 dX10_redoLog_52 (by omega) (by omega) (by rw [hk]; rfl) (by decide) ?_
              refine x_pick [2] rfl ?_
              exact t_X10_redoLog_300 hls hC hl hE (fun z0 z1 hz => ih z0 z1 hz) h
            · refine x_tableIn (pc := 52) hC 300 dX10_redoLog_52 (by omega) (by omega) (by rw [hk]; rfl) (by decide) ?_
              refine x_pick [2] rfl ?_
              exact t_X10_redoLog_300 hls hC hl hE (fun z0 z1 hz => ih z0 z1 hz) h
            · refine x_tableIn (pc := 52) hC 300 dX10_redoLog_52 (by omega) (by omega) (by rw [hk]; rfl) (by decide) ?_
              refine x_pick [2] rfl ?_
              exact t_X10_redoLog_300 hls hC hl hE (fun z0 z1 hz => ih z0 z1 hz) h
            · refine x_tableIn (pc := 52) hC 300 dX10_redoLog_52 (by omega) (by omega) (by rw [hk]; rfl) (by decide) ?_
              refine x_pick [2] rfl ?_
              exact t_X10_redoLog_300 hls hC hl hE (fun z0 z1 hz => ih z0 z1 hz) h
            · refine x_tableIn (pc := 52) hC 300 dX10_redoLog_52 (by omega) (by omega) (by rw [hk]; rfl) (by decide) ?_
              refine x_pick [2] rfl ?_
              exact t_X10_redoLog_300 hls hC hl hE (fun z0 z1 hz => ih z0 z1 hz) h
            · refine x_tableIn (pc := 52) hC 300 dX10_redoLog_52 (by omega) (by omega) (by rw [hk]; rfl) (by decide) ?_
              refine x_pick [2] rfl ?_
              exact t_X10_redoLog_300 hls hC hl hE (fun z0 z1 hz => ih z0 z1 hz) h
            · refine x_tableIn (pc := 52) hC 300 dX10_redoLog_52 (by omega) (by omega) (by rw [hk]; rfl) (by decide) ?_
              refine x_pick [2] rfl ?_
              exact t_X10_redoLog_300 hls hC hl hE (fun z0 z1 hz => ih z0 z1 hz) h
            · refine x_tableIn (pc := 52) hC 300 dX10_redoLog_52 (by omega) (by omega) (by rw [hk]; rfl) (by decide) ?_
              refine x_pick [2] rfl ?_
              exact t_X10_redoLog_300 hls hC hl hE (fun z0 z1 hz => ih z0 z1 hz) h
            · refine x_tableIn (pc := 52) hC 300 dX10_redoLog_52 (by omega) (by omega) (by rw [hk]; rfl) (by decide) ?_
              refine x_pick [2] rfl ?_
              exact t_X10_redoLog_300 hls hC hl hE (fun z0 z1 hz => ih z0 z1 hz) h
            · refine x_tableIn (pc := 52) hC 300 dX10_redoLog_52 (by omega) (by omega) (by rw [hk]; rfl) (by decide) ?_
              refine x_pick [2] rfl ?_
              exact t_X10_redoLog_300 hls hC hl hE (fun z0 z1 hz => ih z0 z1 hz) h
            · refine x_tableIn (pc := 52) hC 300 dX10_redoLog_52 (by omega) (by omega) (by rw [hk]; rfl) (by decide) ?_
              refine x_pick [2] rfl ?_
              exact t_X10_redoLog_300 hls hC hl hE (fun z0 z1 hz => ih z0 z1 hz) h
            · refine x_tableIn (pc := 52) hC 300 dX10_redoLog_52 (by omega) (by omega) (by rw [hk]; rfl) (by decide) ?_
              refine x_pick [2] rfl ?_
              exact t_X10_redoLog_300 hls hC hl hE (fun z0 z1 hz => ih z0 z1 hz) h
            · refine x_tableIn (pc := 52) hC 300 dX10_redoLog_52 (by omega) (by omega) (by rw [hk]; rfl) (by decide) ?_
              refine x_pick [2] rfl ?_
              exact t_X10_redoLog_300 hls hC hl hE (fun z0 z1 hz => ih z0 z1 hz) h
            · refine x_tableIn (pc := 52) hC 300 dX10_redoLog_52 (by omega) (by omega) (by rw [hk]; rfl) (by decide) ?_
              refine x_pick [2] rfl ?_
              exact t_X10_redoLog_300 hls hC hl hE (fun z0 z1 hz => ih z0 z1 hz) h
          · exact xk_r (xt_out hC hE (bk_r h) (Nat.le_of_ble_eq_true rfl) (Nat.le_of_ble_eq_true rfl))
        · exact xk_r (xt_out hC hE (bk_r h) (Nat.le_of_ble_eq_true rfl) (Nat.le_of_ble_eq_true rfl))
      · exact xk_r (xt_out hC hE (bk_r h) (Nat.le_of_ble_eq_true rfl) (Nat.le_of_ble_eq_true rfl))
def f_X10_redoLog (S : mS) (a0 : Nat) : Option (Rs Unit) :=
  f_X10_redoLog_0  16 S a0
set_option maxHeartbeats 2000000 in
set_option maxRecDepth 100000 in
theorem t_X10_redoLog {l : Launch} (hls : l.stackTraces = false) {C : cT} (hC : CX C cX10_redoLog 3 yX10_redoLog rm_X10_redoLog) (hl : C.2.1 = l) {S0 : mS} (hE : CE C S0 (Option.none : Option Jvm.ClassFile.FieldType) []) {o : Rs Unit} {S : mS} {a0 : Nat} (h : f_X10_redoLog S a0 = some o) : XX C 3 (QQ C (fun _ : Unit => none) S0 o) 0 0 S 0 [(0, .ref a0)] [] := by
  unfold f_X10_redoLog at h
  refine x_pick [0] rfl ?_
  exact t_X10_redoLog_0 hls hC hl hE 16 _ _ h
theorem c_X10_redoLog (l : Launch) (hls : l.stackTraces = false) {S : mS} {a0 : Nat} {o : Rs Unit} (h : f_X10_redoLog S a0 = some o) : CT (fun _ : Unit => none) l yX10_redoLog (.code yX10_redoLog cX10_redoLog 3 (Option.none : Option Jvm.ClassFile.FieldType)) rm_X10_redoLog S [.ref a0] o := ct_of (by decide +kernel) hls (Nat.le_of_ble_eq_true rfl) (fun C hl hC hE => t_X10_redoLog hls hC hl hE h)
abbrev rm_X10_printAgain : Room := { frames := 14, cells := 0, slots := 0, locals := 291 }
def f_X10_printAgain (S : mS) (a0 : Nat) : Option (Rs Int64) :=
  gd (gK S a0 = 16) (bd (f_X10_redoLog S a0) fun _ S3 => gd (gK S3 a0 = 16) (lt9 (gR S3 a0 1) fun r7 => gd (gK S3 r7 = 14) (bd (f_X8_fingerprint S3 r7) fun x9 S10 => some (.inl x9, S10))))
set_option maxHeartbeats 2000000 in
set_option maxRecDepth 100000 in
theorem t_X10_printAgain {l : Launch} (hls : l.stackTraces = false) {C : cT} (hC : CX C cX10_printAgain 1 yX10_printAgain rm_X10_printAgain) (hl : C.2.1 = l) {S0 : mS} (hE : CE C S0 (Option.some Jvm.ClassFile.FieldType.long) []) {o : Rs Int64} {S : mS} {a0 : Nat} (h : f_X10_printAgain S a0 = some o) : XX C 1 (QQ C (fun r : Int64 => some (.long r)) S0 o) 0 0 S 0 [(0, .ref a0)] [] := by
  unfold f_X10_printAgain at h
  refine x_aload_n (pc := 0) hC 0 dX10_printAgain_0 rfl rfl ?_
  obtain ⟨g1, h⟩ := gd_some h
  obtain ⟨o4, ho4, h⟩ := bd_some h
  refine x_callV (pc := 1) (As := []) (rest := []) hC hl (c_X10_redoLog l hls ho4) lk_RX10_403 fc_16 g1 dX10_printAgain_1 rfl rfl (Nat.le_of_ble_eq_true rfl) ⟨Nat.le_of_ble_eq_true rfl, Nat.le_of_ble_eq_true rfl⟩ ⟨(Nat.le_of_ble_eq_true rfl), (Nat.le_of_ble_eq_true rfl)⟩ ?_
  rcases o4 with ⟨_ | E5, S3⟩
  · refine xk_v ?_
    replace h := bk_l h
    refine x_aload_n (pc := 4) hC 0 dX10_printAgain_4 rfl rfl ?_
    obtain ⟨g6, h⟩ := gd_some h
    refine x_getRv (pc := 5) (k := 1) hC fc_16 fl_RX10_16 dX10_printAgain_5 rfl g6 (fun r7 hr7 => ?_)
    replace h := lt_x hr7 h
    obtain ⟨g8, h⟩ := gd_some h
    obtain ⟨o11, ho11, h⟩ := bd_some h
    refine x_callV (pc := 8) (As := []) (rest := []) hC hl (c_X8_fingerprint l hls ho11) lk_RX10_399 fc_14 g8 dX10_printAgain_8 rfl rfl (Nat.le_of_ble_eq_true rfl) ⟨Nat.le_of_ble_eq_true rfl, Nat.le_of_ble_eq_true rfl⟩ ⟨(Nat.le_of_ble_eq_true rfl), (Nat.le_of_ble_eq_true rfl)⟩ ?_
    rcases o11 with ⟨x9 | E12, S10⟩
    · refine xk_j ?_
      replace h := bk_l h
      exact x_lreturn (pc := 11) hC hE dX10_printAgain_11 (so h) (Nat.le_of_ble_eq_true rfl) (Nat.le_of_ble_eq_true rfl)
    · exact xk_r (xt_out hC hE (bk_r h) (Nat.le_of_ble_eq_true rfl) (Nat.le_of_ble_eq_true rfl))
  · exact xk_r (xt_out hC hE (bk_r h) (Nat.le_of_ble_eq_true rfl) (Nat.le_of_ble_eq_true rfl))
theorem c_X10_printAgain (l : Launch) (hls : l.stackTraces = false) {S : mS} {a0 : Nat} {o : Rs Int64} (h : f_X10_printAgain S a0 = some o) : CT (fun r : Int64 => some (.long r)) l yX10_printAgain (.code yX10_printAgain cX10_printAgain 1 (Option.some Jvm.ClassFile.FieldType.long)) rm_X10_printAgain S [.ref a0] o := ct_of (by decide +kernel) hls (Nat.le_of_ble_eq_true rfl) (fun C hl hC hE => t_X10_printAgain hls hC hl hE h)
abbrev rm_X10_demandTicks : Room := { frames := 8, cells := 1, slots := 6, locals := 150 }
def f_X10_demandTicks (S : mS) (a0 : Nat) : Option (Rs Unit) :=
  gd (gK S a0 = 16) (lt9 (gR S a0 0) fun r2 => gd (gK S r2 = 14) (lt9 (gI S r2 7) fun x4 => if x4 = 0 then (some (.inr "java/lang/ArithmeticException", S)) else (some (.inl (), S))))
set_option maxHeartbeats 2000000 in
set_option maxRecDepth 100000 in
theorem t_X10_demandTicks {l : Launch} (hls : l.stackTraces = false) {C : cT} (hC : CX C cX10_demandTicks 1 yX10_demandTicks rm_X10_demandTicks) (hl : C.2.1 = l) {S0 : mS} (hE : CE C S0 (Option.none : Option Jvm.ClassFile.FieldType) []) {o : Rs Unit} {S : mS} {a0 : Nat} (h : f_X10_demandTicks S a0 = some o) : XX C 1 (QQ C (fun _ : Unit => none) S0 o) 0 0 S 0 [(0, .ref a0)] [] := by
  unfold f_X10_demandTicks at h
  refine x_aload_n (pc := 0) hC 0 dX10_demandTicks_0 rfl rfl ?_
  obtain ⟨g1, h⟩ := gd_some h
  refine x_getRv (pc := 1) (k := 0) hC fc_16 fl_RX10_10 dX10_demandTicks_1 rfl g1 (fun r2 hr2 => ?_)
  replace h := lt_x hr2 h
  obtain ⟨g3, h⟩ := gd_some h
  refine x_getIv (pc := 4) (k := 7) hC fc_14 fl_RX10_252 dX10_demandTicks_4 rfl g3 (fun x4 hx4 => ?_)
  replace h := lt_x hx4 h
  refine x_if_ne (pc := 7) hC 21 dX10_demandTicks_7 (by decide) (fun c5 => ?_) (fun c5 => ?_)
  · rw [if_neg c5] at h
    exact x_vreturn (pc := 21) hC hE dX10_demandTicks_21 (so h) (Nat.le_of_ble_eq_true rfl) (Nat.le_of_ble_eq_true rfl)
  · rw [if_pos c5] at h
    exact x_throwSW (pc := 10) hC hE th_RX10_425_429_427 dX10_demandTicks_10 dX10_demandTicks_13 dX10_demandTicks_14 dX10_demandTicks_17 dX10_demandTicks_20 (so h) (Nat.le_of_ble_eq_true rfl) (Nat.le_of_ble_eq_true rfl) (Nat.le_of_ble_eq_true rfl) (Nat.le_of_ble_eq_true rfl)
theorem c_X10_demandTicks (l : Launch) (hls : l.stackTraces = false) {S : mS} {a0 : Nat} {o : Rs Unit} (h : f_X10_demandTicks S a0 = some o) : CT (fun _ : Unit => none) l yX10_demandTicks (.code yX10_demandTicks cX10_demandTicks 1 (Option.none : Option Jvm.ClassFile.FieldType)) rm_X10_demandTicks S [.ref a0] o := ct_of (by decide +kernel) hls (Nat.le_of_ble_eq_true rfl) (fun C hl hC hE => t_X10_demandTicks hls hC hl hE h)
abbrev rm_X10_silentShare : Room := { frames := 9, cells := 1, slots := 6, locals := 170 }
def f_X10_silentShare (S : mS) (a0 : Nat) : Option (Rs UInt32) :=
  gd (gK S a0 = 16) (bd (f_X10_demandTicks S a0) fun _ S3 => gd (gK S3 a0 = 16) (lt9 (gR S3 a0 0) fun r7 => gd (gK S3 r7 = 14) (lt9 (gI S3 r7 8) fun x9 => none)))
set_option maxHeartbeats 2000000 in
set_option maxRecDepth 100000 in
theorem t_X10_silentShare {l : Launch} (hls : l.stackTraces = false) {C : cT} (hC : CX C cX10_silentShare 1 yX10_silentShare rm_X10_silentShare) (hl : C.2.1 = l) {S0 : mS} (hE : CE C S0 (Option.some Jvm.ClassFile.FieldType.float) []) {o : Rs UInt32} {S : mS} {a0 : Nat} (h : f_X10_silentShare S a0 = some o) : XX C 1 (QQ C (fun r : UInt32 => some (.float r)) S0 o) 0 0 S 0 [(0, .ref a0)] [] := by
  unfold f_X10_silentShare at h
  refine x_aload_n (pc := 0) hC 0 dX10_silentShare_0 rfl rfl ?_
  obtain ⟨g1, h⟩ := gd_some h
  obtain ⟨o4, ho4, h⟩ := bd_some h
  refine x_callV (pc := 1) (As := []) (rest := []) hC hl (c_X10_demandTicks l hls ho4) lk_RX10_406 fc_16 g1 dX10_silentShare_1 rfl rfl (Nat.le_of_ble_eq_true rfl) ⟨Nat.le_of_ble_eq_true rfl, Nat.le_of_ble_eq_true rfl⟩ ⟨(Nat.le_of_ble_eq_true rfl), (Nat.le_of_ble_eq_true rfl)⟩ ?_
  rcases o4 with ⟨_ | E5, S3⟩
  · refine xk_v ?_
    replace h := bk_l h
    refine x_aload_n (pc := 4) hC 0 dX10_silentShare_4 rfl rfl ?_
    obtain ⟨g6, h⟩ := gd_some h
    refine x_getRv (pc := 5) (k := 0) hC fc_16 fl_RX10_10 dX10_silentShare_5 rfl g6 (fun r7 hr7 => ?_)
    replace h := lt_x hr7 h
    obtain ⟨g8, h⟩ := gd_some h
    refine x_getIv (pc := 8) (k := 8) hC fc_14 fl_RX10_258 dX10_silentShare_8 rfl g8 (fun x9 hx9 => ?_)
    replace h := lt_x hx9 h
    cases h
  · exact xk_r (xt_out hC hE (bk_r h) (Nat.le_of_ble_eq_true rfl) (Nat.le_of_ble_eq_true rfl))
theorem c_X10_silentShare (l : Launch) (hls : l.stackTraces = false) {S : mS} {a0 : Nat} {o : Rs UInt32} (h : f_X10_silentShare S a0 = some o) : CT (fun r : UInt32 => some (.float r)) l yX10_silentShare (.code yX10_silentShare cX10_silentShare 1 (Option.some Jvm.ClassFile.FieldType.float)) rm_X10_silentShare S [.ref a0] o := ct_of (by decide +kernel) hls (Nat.le_of_ble_eq_true rfl) (fun C hl hC hE => t_X10_silentShare hls hC hl hE h)
abbrev rm_X10_meanLoudness : Room := { frames := 9, cells := 1, slots := 6, locals := 170 }
def f_X10_meanLoudness (S : mS) (a0 : Nat) : Option (Rs UInt64) :=
  gd (gK S a0 = 16) (bd (f_X10_demandTicks S a0) fun _ S3 => gd (gK S3 a0 = 16) (lt9 (gR S3 a0 0) fun r7 => gd (gK S3 r7 = 14) (lt9 (gL S3 r7 12) fun x9 => none)))
set_option maxHeartbeats 2000000 in
set_option maxRecDepth 100000 in
theorem t_X10_meanLoudness {l : Launch} (hls : l.stackTraces = false) {C : cT} (hC : CX C cX10_meanLoudness 1 yX10_meanLoudness rm_X10_meanLoudness) (hl : C.2.1 = l) {S0 : mS} (hE : CE C S0 (Option.some Jvm.ClassFile.FieldType.double) []) {o : Rs UInt64} {S : mS} {a0 : Nat} (h : f_X10_meanLoudness S a0 = some o) : XX C 1 (QQ C (fun r : UInt64 => some (.double r)) S0 o) 0 0 S 0 [(0, .ref a0)] [] := by
  unfold f_X10_meanLoudness at h
  refine x_aload_n (pc := 0) hC 0 dX10_meanLoudness_0 rfl rfl ?_
  obtain ⟨g1, h⟩ := gd_some h
  obtain ⟨o4, ho4, h⟩ := bd_some h
  refine x_callV (pc := 1) (As := []) (rest := []) hC hl (c_X10_demandTicks l hls ho4) lk_RX10_406 fc_16 g1 dX10_meanLoudness_1 rfl rfl (Nat.le_of_ble_eq_true rfl) ⟨Nat.le_of_ble_eq_true rfl, Nat.le_of_ble_eq_true rfl⟩ ⟨(Nat.le_of_ble_eq_true rfl), (Nat.le_of_ble_eq_true rfl)⟩ ?_
  rcases o4 with ⟨_ | E5, S3⟩
  · refine xk_v ?_
    replace h := bk_l h
    refine x_aload_n (pc := 4) hC 0 dX10_meanLoudness_4 rfl rfl ?_
    obtain ⟨g6, h⟩ := gd_some h
    refine x_getRv (pc := 5) (k := 0) hC fc_16 fl_RX10_10 dX10_meanLoudness_5 rfl g6 (fun r7 hr7 => ?_)
    replace h := lt_x hr7 h
    obtain ⟨g8, h⟩ := gd_some h
    refine x_getLv (pc := 8) (k := 12) hC fc_14 fl_RX10_409 dX10_meanLoudness_8 rfl g8 (fun x9 hx9 => ?_)
    replace h := lt_x hx9 h
    cases h
  · exact xk_r (xt_out hC hE (bk_r h) (Nat.le_of_ble_eq_true rfl) (Nat.le_of_ble_eq_true rfl))
theorem c_X10_meanLoudness (l : Launch) (hls : l.stackTraces = false) {S : mS} {a0 : Nat} {o : Rs UInt64} (h : f_X10_meanLoudness S a0 = some o) : CT (fun r : UInt64 => some (.double r)) l yX10_meanLoudness (.code yX10_meanLoudness cX10_meanLoudness 1 (Option.some Jvm.ClassFile.FieldType.double)) rm_X10_meanLoudness S [.ref a0] o := ct_of (by decide +kernel) hls (Nat.le_of_ble_eq_true rfl) (fun C hl hC hE => t_X10_meanLoudness hls hC hl hE h)
abbrev rm_X10_rowsAreSound : Room := { frames := 12, cells := 0, slots := 0, locals := 243 }
def f_X10_rowsAreSound_76 (rc2 : mS → Nat → Int32 → Option (Rs Int32)) (S : mS) (a0 : Nat) (a1 : Int32) : Option (Rs Int32) :=
  lt9 (a1 + Int32.ofInt (1)) fun x1 => rc2 S a0 x1
set_option maxHeartbeats 2000000 in
set_option maxRecDepth 100000 in
theorem t_X10_rowsAreSound_76 {l : Launch} (hls : l.stackTraces = false) {C : cT} (hC : CX C cX10_rowsAreSound 4 yX10_rowsAreSound rm_X10_rowsAreSound) (hl : C.2.1 = l) {S0 : mS} (hE : CE C S0 (Option.some Jvm.ClassFile.FieldType.boolean) []) {o : Rs Int32} {rc2 : mS → Nat → Int32 → Option (Rs Int32)} (hrc2 : ∀ (S : mS) (a0 : Nat) (a1 : Int32), rc2 S a0 a1 = some o → XX C 4 (QQ C (fun r : Int32 => some (.int r)) S0 o) (0) (0) S 2 [(0, .ref a0), (1, .int a1)] []) {S : mS} {a0 : Nat} {a1 : Int32} (h : f_X10_rowsAreSound_76 rc2 S a0 a1 = some o) : XX C 4 (QQ C (fun r : Int32 => some (.int r)) S0 o) (0) (0) S 76 [(0, .ref a0), (1, .int a1)] [] := by
  unfold f_X10_rowsAreSound_76 at h
  obtain ⟨x1, hx1⟩ : ∃ z, z = (a1 + Int32.ofInt (1)) := ⟨_, rfl⟩
  replace h := lt_x hx1 h
  refine x_iinc (pc := 76) hC 1 dX10_rowsAreSound_76 rfl hx1.symm (by decide) (by decide) rfl ?_
  refine x_goto (pc := 79) hC 2 dX10_rowsAreSound_79 (by decide) ?_
  refine x_pick [1, 0] rfl ?_
  exact hrc2 _ _ _ h
def f_X10_rowsAreSound_70 (rc2 : mS → Nat → Int32 → Option (Rs Int32)) (rc29 : mS → Nat → Int32 → Nat → Int32 → Option (Rs Int32)) (S : mS) (a0 : Nat) (a1 : Int32) (a2 : Nat) (a3 : Int32) : Option (Rs Int32) :=
  lt9 (a3 + Int32.ofInt (1)) fun x1 => rc29 S a0 a1 a2 x1
set_option maxHeartbeats 2000000 in
set_option maxRecDepth 100000 in
theorem t_X10_rowsAreSound_70 {l : Launch} (hls : l.stackTraces = false) {C : cT} (hC : CX C cX10_rowsAreSound 4 yX10_rowsAreSound rm_X10_rowsAreSound) (hl : C.2.1 = l) {S0 : mS} (hE : CE C S0 (Option.some Jvm.ClassFile.FieldType.boolean) []) {o : Rs Int32} {rc2 : mS → Nat → Int32 → Option (Rs Int32)} (hrc2 : ∀ (S : mS) (a0 : Nat) (a1 : Int32), rc2 S a0 a1 = some o → XX C 4 (QQ C (fun r : Int32 => some (.int r)) S0 o) (0) (0) S 2 [(0, .ref a0), (1, .int a1)] []) {rc29 : mS → Nat → Int32 → Nat → Int32 → Option (Rs Int32)} (hrc29 : ∀ (S : mS) (a0 : Nat) (a1 : Int32) (a2 : Nat) (a3 : Int32), rc29 S a0 a1 a2 a3 = some o → XX C 4 (QQ C (fun r : Int32 => some (.int r)) S0 o) (0) (0) S 29 [(0, .ref a0), (1, .int a1), (2, .ref a2), (3, .int a3)] []) {S : mS} {a0 : Nat} {a1 : Int32} {a2 : Nat} {a3 : Int32} (h : f_X10_rowsAreSound_70 rc2 rc29 S a0 a1 a2 a3 = some o) : XX C 4 (QQ C (fun r : Int32 => some (.int r)) S0 o) (0) (0) S 70 [(0, .ref a0), (1, .int a1), (2, .ref a2), (3, .int a3)] [] := by
  unfold f_X10_rowsAreSound_70 at h
  obtain ⟨x1, hx1⟩ : ∃ z, z = (a3 + Int32.ofInt (1)) := ⟨_, rfl⟩
  replace h := lt_x hx1 h
  refine x_iinc (pc := 70) hC 3 dX10_rowsAreSound_70 rfl hx1.symm (by decide) (by decide) rfl ?_
  refine x_goto (pc := 73) hC 29 dX10_rowsAreSound_73 (by decide) ?_
  refine x_pick [1, 2, 3, 0] rfl ?_
  exact hrc29 _ _ _ _ _ h
def f_X10_rowsAreSound_29 (rc2 : mS → Nat → Int32 → Option (Rs Int32)) : Nat → mS → Nat → Int32 → Nat → Int32 → Option (Rs Int32)
  | 0, _, _, _, _, _ => none
  | k + 1, S, a0, a1, a2, a3 => if a2 = 0 then (f_X10_rowsAreSound_76 (rc2) S a0 a1) else (if (4 : Int32) < a3 then (f_X10_rowsAreSound_76 (rc2) S a0 a1) else (gd (gK S a0 = 16) (lt9 (gR S a0 4) fun r2 => gd (gK S r2 = 15) (bd (f_X9_look S r2 a2 a3) fun x4 S5 => if x4 = 0 then (f_X10_rowsAreSound_70 (rc2) (f_X10_rowsAreSound_29 rc2 k) S5 a0 a1 a2 a3) else (gd (gK S5 a0 = 16) (lt9 (gR S5 a0 4) fun r9 => gd (gK S5 r9 = 15) (lt9 (gI S5 r9 5) fun x11 => lt9 (gR S5 a0 4) fun r12 => gd (gK S5 r12 = 15) (bd (f_X9_costOfRow S5 r12 a2) fun x14 S15 => if x11 = x14 then (f_X10_rowsAreSound_70 (rc2) (f_X10_rowsAreSound_29 rc2 k) S15 a0 a1 a2 a3) else (some (.inl (0 : Int32), S15))))))))))
set_option maxHeartbeats 2000000 in
set_option maxRecDepth 100000 in
theorem t_X10_rowsAreSound_29 {l : Launch} (hls : l.stackTraces = false) {C : cT} (hC : CX C cX10_rowsAreSound 4 yX10_rowsAreSound rm_X10_rowsAreSound) (hl : C.2.1 = l) {S0 : mS} (hE : CE C S0 (Option.some Jvm.ClassFile.FieldType.boolean) []) {o : Rs Int32} {rc2 : mS → Nat → Int32 → Option (Rs Int32)} (hrc2 : ∀ (S : mS) (a0 : Nat) (a1 : Int32), rc2 S a0 a1 = some o → XX C 4 (QQ C (fun r : Int32 => some (.int r)) S0 o) (0) (0) S 2 [(0, .ref a0), (1, .int a1)] []) : ∀ (k : Nat) (S : mS) (a0 : Nat) (a1 : Int32) (a2 : Nat) (a3 : Int32), f_X10_rowsAreSound_29 rc2 k S a0 a1 a2 a3 = some o → XX C 4 (QQ C (fun r : Int32 => some (.int r)) S0 o) (0) (0) S 29 [(0, .ref a0), (1, .int a1), (2, .ref a2), (3, .int a3)] [] := by
  intro k
  induction k with
  | zero => intro S a0 a1 a2 a3 h; cases h
  | succ k ih =>
    intro S a0 a1 a2 a3 h
    unfold f_X10_rowsAreSound_29 at h
    refine x_aload_n (pc := 29) hC 2 dX10_rowsAreSound_29 rfl rfl ?_
    refine x_ifnull (pc := 30) hC 76 dX10_rowsAreSound_30 (by decide) (fun c21 => ?_) (fun c21 => ?_)
    · rw [if_pos c21] at h
      refine x_pick [0, 1] rfl ?_
      exact t_X10_rowsAreSound_76 hls hC hl hE hrc2 h
    · rw [if_neg c21] at h
      refine x_iload_n (pc := 33) hC 3 dX10_rowsAreSound_33 rfl rfl ?_
      refine x_iconst (pc := 34) (v := (4 : Int32)) hC dX10_rowsAreSound_34 (by decide) ?_
      refine x_icmp_gt (pc := 35) hC 76 dX10_rowsAreSound_35 (by decide) (fun c20 => ?_) (fun c20 => ?_)
      · rw [if_pos c20] at h
        refine x_pick [0, 1] rfl ?_
        exact t_X10_rowsAreSound_76 hls hC hl hE hrc2 h
      · rw [if_neg c20] at h
        refine x_aload_n (pc := 38) hC 0 dX10_rowsAreSound_38 rfl rfl ?_
        obtain ⟨g1, h⟩ := gd_some h
        refine x_getRv (pc := 39) (k := 4) hC fc_16 fl_RX10_38 dX10_rowsAreSound_39 rfl g1 (fun r2 hr2 => ?_)
        replace h := lt_x hr2 h
        refine x_aload_n (pc := 42) hC 2 dX10_rowsAreSound_42 rfl rfl ?_
        refine x_iload_n (pc := 43) hC 3 dX10_rowsAreSound_43 rfl rfl ?_
        obtain ⟨g3, h⟩ := gd_some h
        obtain ⟨o6, ho6, h⟩ := bd_some h
        refine x_callV (pc := 44) (As := [.ref a2, .int a3]) (rest := []) hC hl (c_X9_look l hls ho6) lk_RX10_448 fc_15 g3 dX10_rowsAreSound_44 rfl rfl (Nat.le_of_ble_eq_true rfl) ⟨Nat.le_of_ble_eq_true rfl, Nat.le_of_ble_eq_true rfl⟩ ⟨(Nat.le_of_ble_eq_true rfl), (Nat.le_of_ble_eq_true rfl)⟩ ?_
        rcases o6 with ⟨x4 | E7, S5⟩
        · refine xk_i ?_
          replace h := bk_l h
          refine x_if_eq (pc := 47) hC 70 dX10_rowsAreSound_47 (by decide) (fun c19 => ?_) (fun c19 => ?_)
          · rw [if_pos c19] at h
            refine x_pick [0, 1, 2, 3] rfl ?_
            exact t_X10_rowsAreSound_70 hls hC hl hE hrc2 (fun z0 z1 z2 z3 z4 hz => ih z0 z1 z2 z3 z4 hz) h
          · rw [if_neg c19] at h
            refine x_aload_n (pc := 50) hC 0 dX10_rowsAreSound_50 rfl rfl ?_
            obtain ⟨g8, h⟩ := gd_some h
            refine x_getRv (pc := 51) (k := 4) hC fc_16 fl_RX10_38 dX10_rowsAreSound_51 rfl g8 (fun r9 hr9 => ?_)
            replace h := lt_x hr9 h
            obtain ⟨g10, h⟩ := gd_some h
            refine x_getIv (pc := 54) (k := 5) hC fc_15 fl_RX10_334 dX10_rowsAreSound_54 rfl g10 (fun x11 hx11 => ?_)
            replace h := lt_x hx11 h
            refine x_aload_n (pc := 57) hC 0 dX10_rowsAreSound_57 rfl rfl ?_
            refine x_getRv (pc := 58) (k := 4) hC fc_16 fl_RX10_38 dX10_rowsAreSound_58 rfl g8 (fun r12 hr12 => ?_)
            replace h := lt_x hr12 h
            refine x_aload_n (pc := 61) hC 2 dX10_rowsAreSound_61 rfl rfl ?_
            obtain ⟨g13, h⟩ := gd_some h
            obtain ⟨o16, ho16, h⟩ := bd_some h
            refine x_callV (pc := 62) (As := [.ref a2]) (rest := [.int x11]) hC hl (c_X9_costOfRow l hls ho16) lk_RX10_454 fc_15 g13 dX10_rowsAreSound_62 rfl rfl (Nat.le_of_ble_eq_true rfl) ⟨Nat.le_of_ble_eq_true rfl, Nat.le_of_ble_eq_true rfl⟩ ⟨(Nat.le_of_ble_eq_true rfl), (Nat.le_of_ble_eq_true rfl)⟩ ?_
            rcases o16 with ⟨x14 | E17, S15⟩
            · refine xk_i ?_
              replace h := bk_l h
              refine x_icmp_eq (pc := 65) hC 70 dX10_rowsAreSound_65 (by decide) (fun c18 => ?_) (fun c18 => ?_)
              · rw [if_pos c18] at h
                refine x_pick [0, 1, 2, 3] rfl ?_
                exact t_X10_rowsAreSound_70 hls hC hl hE hrc2 (fun z0 z1 z2 z3 z4 hz => ih z0 z1 z2 z3 z4 hz) h
              · rw [if_neg c18] at h
                refine x_iconst (pc := 68) (v := (0 : Int32)) hC dX10_rowsAreSound_68 (by decide) ?_
                exact x_zreturn (pc := 69) hC hE dX10_rowsAreSound_69 (show NF .boolean _ from ⟨rfl, rfl⟩).1 (so h) (Nat.le_of_ble_eq_true rfl) (Nat.le_of_ble_eq_true rfl)
            · exact xk_r (xt_out hC hE (bk_r h) (Nat.le_of_ble_eq_true rfl) (Nat.le_of_ble_eq_true rfl))
        · exact xk_r (xt_out hC hE (bk_r h) (Nat.le_of_ble_eq_true rfl) (Nat.le_of_ble_eq_true rfl))
def f_X10_rowsAreSound_2  : Nat → mS → Nat → Int32 → Option (Rs Int32)
  | 0, _, _, _ => none
  | k + 1, S, a0, a1 => gd (gK S a0 = 16) (lt9 (gR S a0 0) fun r2 => gd (gK S r2 = 14) (lt9 (gR S r2 1) fun r4 => gd (gK S r4 = 34) (lt9 (Int32.ofNat (gZ S r4)) fun x6 => if x6 ≤ a1 then (some (.inl (1 : Int32), S)) else (lt9 (gR S a0 0) fun r7 => gd (gK S r7 = 14) (lt9 (gR S r7 1) fun r9 => gd (gK S r9 = 34) (gd (¬ (a1 < 0 ∨ gZ S r9 ≤ (a1).toNatClampNeg)) (lt9 (gR S r9 (a1).toNatClampNeg) fun r13 => gd (gK S r13 = 7) (lt9 (gR S r13 2) fun r15 => f_X10_rowsAreSound_29 (f_X10_rowsAreSound_2 k) 16 S a0 a1 r15 (1 : Int32)))))))))
set_option maxHeartbeats 2000000 in
set_option maxRecDepth 100000 in
theorem t_X10_rowsAreSound_2 {l : Launch} (hls : l.stackTraces = false) {C : cT} (hC : CX C cX10_rowsAreSound 4 yX10_rowsAreSound rm_X10_rowsAreSound) (hl : C.2.1 = l) {S0 : mS} (hE : CE C S0 (Option.some Jvm.ClassFile.FieldType.boolean) []) {o : Rs Int32} : ∀ (k : Nat) (S : mS) (a0 : Nat) (a1 : Int32), f_X10_rowsAreSound_2  k S a0 a1 = some o → XX C 4 (QQ C (fun r : Int32 => some (.int r)) S0 o) (0) (0) S 2 [(0, .ref a0), (1, .int a1)] [] := by
  intro k
  induction k with
  | zero => intro S a0 a1 h; cases h
  | succ k ih =>
    intro S a0 a1 h
    unfold f_X10_rowsAreSound_2 at h
    refine x_iload_n (pc := 2) hC 1 dX10_rowsAreSound_2 rfl rfl ?_
    refine x_aload_n (pc := 3) hC 0 dX10_rowsAreSound_3 rfl rfl ?_
    obtain ⟨g1, h⟩ := gd_some h
    refine x_getRv (pc := 4) (k := 0) hC fc_16 fl_RX10_10 dX10_rowsAreSound_4 rfl g1 (fun r2 hr2 => ?_)
    replace h := lt_x hr2 h
    obtain ⟨g3, h⟩ := gd_some h
    refine x_getRv (pc := 7) (k := 1) hC fc_14 fl_RX10_361 dX10_rowsAreSound_7 rfl g3 (fun r4 hr4 => ?_)
    replace h := lt_x hr4 h
    obtain ⟨g5, h⟩ := gd_some h
    refine x_alenv (pc := 10) (t0 := 4) hC dX10_rowsAreSound_10 g5 (by decide) (fun _ => rfl) (fun x6 hx6 => ?_)
    replace h := lt_x hx6 h
    refine x_icmp_ge (pc := 11) hC 82 dX10_rowsAreSound_11 (by decide) (fun c16 => ?_) (fun c16 => ?_)
    · rw [if_pos c16] at h
      refine x_iconst (pc := 82) (v := (1 : Int32)) hC dX10_rowsAreSound_82 (by decide) ?_
      exact x_zreturn (pc := 83) hC hE dX10_rowsAreSound_83 (show NF .boolean _ from ⟨rfl, rfl⟩).1 (so h) (Nat.le_of_ble_eq_true rfl) (Nat.le_of_ble_eq_true rfl)
    · rw [if_neg c16] at h
      refine x_aload_n (pc := 14) hC 0 dX10_rowsAreSound_14 rfl rfl ?_
      refine x_getRv (pc := 15) (k := 0) hC fc_16 fl_RX10_10 dX10_rowsAreSound_15 rfl g1 (fun r7 hr7 => ?_)
      replace h := lt_x hr7 h
      obtain ⟨g8, h⟩ := gd_some h
      refine x_getRv (pc := 18) (k := 1) hC fc_14 fl_RX10_361 dX10_rowsAreSound_18 rfl g8 (fun r9 hr9 => ?_)
      replace h := lt_x hr9 h
      refine x_iload_n (pc := 21) hC 1 dX10_rowsAreSound_21 rfl rfl ?_
      obtain ⟨g12, h⟩ := gd_some h
      obtain ⟨g11, h⟩ := gd_some h
      refine x_raldv (pc := 22) (t0 := 4) hC dX10_rowsAreSound_22 g12 (by decide) (fun _ => rfl) g11 (fun r13 hr13 => ?_)
      replace h := lt_x hr13 h
      obtain ⟨g14, h⟩ := gd_some h
      refine x_getRv (pc := 23) (k := 2) hC fc_7 fl_RX10_185 dX10_rowsAreSound_23 rfl g14 (fun r15 hr15 => ?_)
      replace h := lt_x hr15 h
      refine x_astore_n (pc := 26) hC dX10_rowsAreSound_26 rfl (by decide) (by decide) rfl ?_
      refine x_iconst (pc := 27) (v := (1 : Int32)) hC dX10_rowsAreSound_27 (by decide) ?_
      refine x_istore_n (pc := 28) hC dX10_rowsAreSound_28 rfl (by decide) (by decide) rfl ?_
      refine x_pick [2, 3, 1, 0] rfl ?_
      exact t_X10_rowsAreSound_29 hls hC hl hE (fun z0 z1 z2 hz => ih z0 z1 z2 hz) 16 _ _ _ _ _ h
def f_X10_rowsAreSound (S : mS) (a0 : Nat) : Option (Rs Int32) :=
  f_X10_rowsAreSound_2  16 S a0 (0 : Int32)
set_option maxHeartbeats 2000000 in
set_option maxRecDepth 100000 in
theorem t_X10_rowsAreSound {l : Launch} (hls : l.stackTraces = false) {C : cT} (hC : CX C cX10_rowsAreSound 4 yX10_rowsAreSound rm_X10_rowsAreSound) (hl : C.2.1 = l) {S0 : mS} (hE : CE C S0 (Option.some Jvm.ClassFile.FieldType.boolean) []) {o : Rs Int32} {S : mS} {a0 : Nat} (h : f_X10_rowsAreSound S a0 = some o) : XX C 4 (QQ C (fun r : Int32 => some (.int r)) S0 o) 0 0 S 0 [(0, .ref a0)] [] := by
  unfold f_X10_rowsAreSound at h
  refine x_iconst (pc := 0) (v := (0 : Int32)) hC dX10_rowsAreSound_0 (by decide) ?_
  refine x_istore_n (pc := 1) hC dX10_rowsAreSound_1 rfl (by decide) (by decide) rfl ?_
  refine x_pick [1, 0] rfl ?_
  exact t_X10_rowsAreSound_2 hls hC hl hE 16 _ _ _ h
theorem c_X10_rowsAreSound (l : Launch) (hls : l.stackTraces = false) {S : mS} {a0 : Nat} {o : Rs Int32} (h : f_X10_rowsAreSound S a0 = some o) : CT (fun r : Int32 => some (.int r)) l yX10_rowsAreSound (.code yX10_rowsAreSound cX10_rowsAreSound 4 (Option.some Jvm.ClassFile.FieldType.boolean)) rm_X10_rowsAreSound S [.ref a0] o := ct_of (by decide +kernel) hls (Nat.le_of_ble_eq_true rfl) (fun C hl hC hE => t_X10_rowsAreSound hls hC hl hE h)
abbrev rm_X10_isSound : Room := { frames := 14, cells := 0, slots := 0, locals := 291 }
def f_X10_isSound_57  (S : mS) (s0 : Int32) : Option (Rs Int32) :=
  gd (s0 = 0 ∨ s0 = 1) (some (.inl s0, S))
set_option maxHeartbeats 2000000 in
set_option maxRecDepth 100000 in
theorem t_X10_isSound_57 {l : Launch} (hls : l.stackTraces = false) {C : cT} (hC : CX C cX10_isSound 1 yX10_isSound rm_X10_isSound) (hl : C.2.1 = l) {S0 : mS} (hE : CE C S0 (Option.some Jvm.ClassFile.FieldType.boolean) []) {o : Rs Int32} {S : mS} {s0 : Int32} (h : f_X10_isSound_57  S s0 = some o) : XX C 1 (QQ C (fun r : Int32 => some (.int r)) S0 o) (0) (0) S 57 [] [.int s0] := by
  unfold f_X10_isSound_57 at h
  obtain ⟨g1, h⟩ := gd_some h
  exact x_zreturn (pc := 57) hC hE dX10_isSound_57 (nf_B g1).1 (so h) (Nat.le_of_ble_eq_true rfl) (Nat.le_of_ble_eq_true rfl)
def f_X10_isSound_56  (S : mS) : Option (Rs Int32) :=
  f_X10_isSound_57  S (0 : Int32)
set_option maxHeartbeats 2000000 in
set_option maxRecDepth 100000 in
theorem t_X10_isSound_56 {l : Launch} (hls : l.stackTraces = false) {C : cT} (hC : CX C cX10_isSound 1 yX10_isSound rm_X10_isSound) (hl : C.2.1 = l) {S0 : mS} (hE : CE C S0 (Option.some Jvm.ClassFile.FieldType.boolean) []) {o : Rs Int32} {S : mS} (h : f_X10_isSound_56  S = some o) : XX C 1 (QQ C (fun r : Int32 => some (.int r)) S0 o) (0) (0) S 56 [] [] := by
  unfold f_X10_isSound_56 at h
  refine x_iconst (pc := 56) (v := (0 : Int32)) hC dX10_isSound_56 (by decide) ?_
  refine x_pick [] rfl ?_
  exact t_X10_isSound_57 hls hC hl hE h
def f_X10_isSound (S : mS) (a0 : Nat) : Option (Rs Int32) :=
  gd (gK S a0 = 16) (bd (f_X10_redoLog S a0) fun _ S3 => gd (gK S3 a0 = 16) (lt9 (gR S3 a0 0) fun r7 => gd (gK S3 r7 = 14) (bd (f_X8_fingerprint S3 r7) fun x9 S10 => gd (gK S10 a0 = 16) (lt9 (gR S10 a0 1) fun r14 => gd (gK S10 r14 = 14) (bd (f_X8_fingerprint S10 r14) fun x16 S17 => lt9 (lg_cmp x9 x16) fun x20 => if x20 = 0 then (gd (gK S17 a0 = 16) (lt9 (gR S17 a0 0) fun r22 => gd (gK S17 r22 = 14) (bd (f_X8_placesAreSound S17 r22) fun x24 S25 => if x24 = 0 then (f_X10_isSound_56  S25) else (gd (gK S25 a0 = 16) (lt9 (gR S25 a0 0) fun r29 => gd (gK S25 r29 = 14) (lt9 (gR S25 r29 2) fun r31 => gd (gK S25 r31 = 10) (bd (f_X4_isInBounds S25 r31) fun x33 S34 => if x33 = 0 then (f_X10_isSound_56  S34) else (gd (gK S34 a0 = 16) (bd (f_X10_rowsAreSound S34 a0) fun x38 S39 => if x38 = 0 then (f_X10_isSound_56  S39) else (f_X10_isSound_57  S39 (1 : Int32))))))))))) else (f_X10_isSound_56  S17))))))
set_option maxHeartbeats 2000000 in
set_option maxRecDepth 100000 in
theorem t_X10_isSound {l : Launch} (hls : l.stackTraces = false) {C : cT} (hC : CX C cX10_isSound 1 yX10_isSound rm_X10_isSound) (hl : C.2.1 = l) {S0 : mS} (hE : CE C S0 (Option.some Jvm.ClassFile.FieldType.boolean) []) {o : Rs Int32} {S : mS} {a0 : Nat} (h : f_X10_isSound S a0 = some o) : XX C 1 (QQ C (fun r : Int32 => some (.int r)) S0 o) 0 0 S 0 [(0, .ref a0)] [] := by
  unfold f_X10_isSound at h
  refine x_aload_n (pc := 0) hC 0 dX10_isSound_0 rfl rfl ?_
  obtain ⟨g1, h⟩ := gd_some h
  obtain ⟨o4, ho4, h⟩ := bd_some h
  refine x_callV (pc := 1) (As := []) (rest := []) hC hl (c_X10_redoLog l hls ho4) lk_RX10_403 fc_16 g1 dX10_isSound_1 rfl rfl (Nat.le_of_ble_eq_true rfl) ⟨Nat.le_of_ble_eq_true rfl, Nat.le_of_ble_eq_true rfl⟩ ⟨(Nat.le_of_ble_eq_true rfl), (Nat.le_of_ble_eq_true rfl)⟩ ?_
  rcases o4 with ⟨_ | E5, S3⟩
  · refine xk_v ?_
    replace h := bk_l h
    refine x_aload_n (pc := 4) hC 0 dX10_isSound_4 rfl rfl ?_
    obtain ⟨g6, h⟩ := gd_some h
    refine x_getRv (pc := 5) (k := 0) hC fc_16 fl_RX10_10 dX10_isSound_5 rfl g6 (fun r7 hr7 => ?_)
    replace h := lt_x hr7 h
    obtain ⟨g8, h⟩ := gd_some h
    obtain ⟨o11, ho11, h⟩ := bd_some h
    refine x_callV (pc := 8) (As := []) (rest := []) hC hl (c_X8_fingerprint l hls ho11) lk_RX10_399 fc_14 g8 dX10_isSound_8 rfl rfl (Nat.le_of_ble_eq_true rfl) ⟨Nat.le_of_ble_eq_true rfl, Nat.le_of_ble_eq_true rfl⟩ ⟨(Nat.le_of_ble_eq_true rfl), (Nat.le_of_ble_eq_true rfl)⟩ ?_
    rcases o11 with ⟨x9 | E12, S10⟩
    · refine xk_j ?_
      replace h := bk_l h
      refine x_aload_n (pc := 11) hC 0 dX10_isSound_11 rfl rfl ?_
      obtain ⟨g13, h⟩ := gd_some h
      refine x_getRv (pc := 12) (k := 1) hC fc_16 fl_RX10_16 dX10_isSound_12 rfl g13 (fun r14 hr14 => ?_)
      replace h := lt_x hr14 h
      obtain ⟨g15, h⟩ := gd_some h
      obtain ⟨o18, ho18, h⟩ := bd_some h
      refine x_callV (pc := 15) (As := []) (rest := [.long x9]) hC hl (c_X8_fingerprint l hls ho18) lk_RX10_399 fc_14 g15 dX10_isSound_15 rfl rfl (Nat.le_of_ble_eq_true rfl) ⟨Nat.le_of_ble_eq_true rfl, Nat.le_of_ble_eq_true rfl⟩ ⟨(Nat.le_of_ble_eq_true rfl), (Nat.le_of_ble_eq_true rfl)⟩ ?_
      rcases o18 with ⟨x16 | E19, S17⟩
      · refine xk_j ?_
        replace h := bk_l h
        refine x_lcmpv (pc := 18) hC dX10_isSound_18 (fun x20 hx20 => ?_)
        replace h := lt_x hx20 h
        refine x_if_ne (pc := 19) hC 56 dX10_isSound_19 (by decide) (fun c45 => ?_) (fun c45 => ?_)
        · rw [if_neg c45] at h
          refine x_pick [] rfl ?_
          exact t_X10_isSound_56 hls hC hl hE h
        · rw [if_pos c45] at h
          refine x_aload_n (pc := 22) hC 0 dX10_isSound_22 rfl rfl ?_
          obtain ⟨g21, h⟩ := gd_some h
          refine x_getRv (pc := 23) (k := 0) hC fc_16 fl_RX10_10 dX10_isSound_23 rfl g21 (fun r22 hr22 => ?_)
          replace h := lt_x hr22 h
          obtain ⟨g23, h⟩ := gd_some h
          obtain ⟨o26, ho26, h⟩ := bd_some h
          refine x_callV (pc := 26) (As := []) (rest := []) hC hl (c_X8_placesAreSound l hls ho26) lk_RX10_412 fc_14 g23 dX10_isSound_26 rfl rfl (Nat.le_of_ble_eq_true rfl) ⟨Nat.le_of_ble_eq_true rfl, Nat.le_of_ble_eq_true rfl⟩ ⟨(Nat.le_of_ble_eq_true rfl), (Nat.le_of_ble_eq_true rfl)⟩ ?_
          rcases o26 with ⟨x24 | E27, S25⟩
          · refine xk_i ?_
            replace h := bk_l h
            refine x_if_eq (pc := 29) hC 56 dX10_isSound_29 (by decide) (fun c44 => ?_) (fun c44 => ?_)
            · rw [if_pos c44] at h
              refine x_pick [] rfl ?_
              exact t_X10_isSound_56 hls hC hl hE h
            · rw [if_neg c44] at h
              refine x_aload_n (pc := 32) hC 0 dX10_isSound_32 rfl rfl ?_
              obtain ⟨g28, h⟩ := gd_some h
              refine x_getRv (pc := 33) (k := 0) hC fc_16 fl_RX10_10 dX10_isSound_33 rfl g28 (fun r29 hr29 => ?_)
              replace h := lt_x hr29 h
              obtain ⟨g30, h⟩ := gd_some h
              refine x_getRv (pc := 36) (k := 2) hC fc_14 fl_RX10_284 dX10_isSound_36 rfl g30 (fun r31 hr31 => ?_)
              replace h := lt_x hr31 h
              obtain ⟨g32, h⟩ := gd_some h
              obtain ⟨o35, ho35, h⟩ := bd_some h
              refine x_callV (pc := 39) (As := []) (rest := []) hC hl (c_X4_isInBounds l hls ho35) lk_RX10_415 fc_10 g32 dX10_isSound_39 rfl rfl (Nat.le_of_ble_eq_true rfl) ⟨Nat.le_of_ble_eq_true rfl, Nat.le_of_ble_eq_true rfl⟩ ⟨(Nat.le_of_ble_eq_true rfl), (Nat.le_of_ble_eq_true rfl)⟩ ?_
              rcases o35 with ⟨x33 | E36, S34⟩
              · refine xk_i ?_
                replace h := bk_l h
                refine x_if_eq (pc := 42) hC 56 dX10_isSound_42 (by decide) (fun c43 => ?_) (fun c43 => ?_)
                · rw [if_pos c43] at h
                  refine x_pick [] rfl ?_
                  exact t_X10_isSound_56 hls hC hl hE h
                · rw [if_neg c43] at h
                  refine x_aload_n (pc := 45) hC 0 dX10_isSound_45 rfl rfl ?_
                  obtain ⟨g37, h⟩ := gd_some h
                  obtain ⟨o40, ho40, h⟩ := bd_some h
                  refine x_callV (pc := 46) (As := []) (rest := []) hC hl (c_X10_rowsAreSound l hls ho40) lk_RX10_418 fc_16 g37 dX10_isSound_46 rfl rfl (Nat.le_of_ble_eq_true rfl) ⟨Nat.le_of_ble_eq_true rfl, Nat.le_of_ble_eq_true rfl⟩ ⟨(Nat.le_of_ble_eq_true rfl), (Nat.le_of_ble_eq_true rfl)⟩ ?_
                  rcases o40 with ⟨x38 | E41, S39⟩
                  · refine xk_i ?_
                    replace h := bk_l h
                    refine x_if_eq (pc := 49) hC 56 dX10_isSound_49 (by decide) (fun c42 => ?_) (fun c42 => ?_)
                    · rw [if_pos c42] at h
                      refine x_pick [] rfl ?_
                      exact t_X10_isSound_56 hls hC hl hE h
                    · rw [if_neg c42] at h
                      refine x_iconst (pc := 52) (v := (1 : Int32)) hC dX10_isSound_52 (by decide) ?_
                      refine x_goto (pc := 53) hC 57 dX10_isSound_53 (by decide) ?_
                      refine x_pick [] rfl ?_
                      exact t_X10_isSound_57 hls hC hl hE h
                  · exact xk_r (xt_out hC hE (bk_r h) (Nat.le_of_ble_eq_true rfl) (Nat.le_of_ble_eq_true rfl))
              · exact xk_r (xt_out hC hE (bk_r h) (Nat.le_of_ble_eq_true rfl) (Nat.le_of_ble_eq_true rfl))
          · exact xk_r (xt_out hC hE (bk_r h) (Nat.le_of_ble_eq_true rfl) (Nat.le_of_ble_eq_true rfl))
      · exact xk_r (xt_out hC hE (bk_r h) (Nat.le_of_ble_eq_true rfl) (Nat.le_of_ble_eq_true rfl))
    · exact xk_r (xt_out hC hE (bk_r h) (Nat.le_of_ble_eq_true rfl) (Nat.le_of_ble_eq_true rfl))
  · exact xk_r (xt_out hC hE (bk_r h) (Nat.le_of_ble_eq_true rfl) (Nat.le_of_ble_eq_true rfl))
theorem c_X10_isSound (l : Launch) (hls : l.stackTraces = false) {S : mS} {a0 : Nat} {o : Rs Int32} (h : f_X10_isSound S a0 = some o) : CT (fun r : Int32 => some (.int r)) l yX10_isSound (.code yX10_isSound cX10_isSound 1 (Option.some Jvm.ClassFile.FieldType.boolean)) rm_X10_isSound S [.ref a0] o := ct_of (by decide +kernel) hls (Nat.le_of_ble_eq_true rfl) (fun C hl hC hE => t_X10_isSound hls hC hl hE h)
end P22TOPX
