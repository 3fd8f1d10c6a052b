section P21MIDX
abbrev rm_X7_init : Room := { frames := 11, cells := 134, slots := 548, locals := 211 }
def f_X7_init_36  : Nat → mS → Nat → Int32 → Option (Rs Unit)
  | 0, _, _, _ => none
  | k + 1, S, a0, a1 => gd (gK S a0 = 13) (lt9 (gR S a0 3) fun r2 => gd (gK S r2 = 34) (lt9 (Int32.ofNat (gZ S r2)) fun x4 => if x4 ≤ a1 then (some (.inl (), S)) else (lt9 (gR S a0 3) fun r5 => gd (gN S + 1 < KB) (zW (sW S 7 0) fun S7 => lt9 (gN S + 1) fun r8 => bd (f_X1_init S7 r8) fun _ S11 => gd (gK S11 r5 = 34) (gd (¬ (a1 < 0 ∨ gZ S11 r5 ≤ (a1).toNatClampNeg)) (gd (gK S11 r8 = 7) (zR (sR S11 r5 (a1).toNatClampNeg r8) fun S16 => lt9 (a1 + Int32.ofInt (1)) fun x20 => f_X7_init_36 k S16 a0 x20)))))))
set_option maxHeartbeats 2000000 in
set_option maxRecDepth 100000 in
theorem t_X7_init_36 {l : Launch} (hls : l.stackTraces = false) {C : cT} (hC : CX C cX7_init 2 yX7_init rm_X7_init) (hl : C.2.1 = l) {S0 : mS} (hE : CE C S0 (Option.none : Option Jvm.ClassFile.FieldType) []) {o : Rs Unit} : ∀ (k cs36 sl36 : Nat) (S : mS) (a0 : Nat) (a1 : Int32), cs36 + k * 13 ≤ 69 → sl36 + k * 51 ≤ 293 → f_X7_init_36  k S a0 a1 = some o → XX C 2 (QQ C (fun _ : Unit => none) S0 o) cs36 sl36 S 36 [(0, .ref a0), (1, .int a1)] [] := by
  intro k
  induction k with
  | zero => intro cs36 sl36 S a0 a1 hcs36 hsl36 h; cases h
  | succ k ih =>
    intro cs36 sl36 S a0 a1 hcs36 hsl36 h
    unfold f_X7_init_36 at h
    refine x_iload_n (pc := 36) hC 1 dX7_init_36 rfl rfl ?_
    refine x_aload_n (pc := 37) hC 0 dX7_init_37 rfl rfl ?_
    obtain ⟨g1, h⟩ := gd_some h
    refine x_getRv (pc := 38) (k := 3) hC fc_13 fl_RX7_26 dX7_init_38 rfl g1 (fun r2 hr2 => ?_)
    replace h := lt_x hr2 h
    obtain ⟨g3, h⟩ := gd_some h
    refine x_alenv (pc := 41) (t0 := 4) hC dX7_init_41 g3 (by decide) (fun _ => rfl) (fun x4 hx4 => ?_)
    replace h := lt_x hx4 h
    refine x_icmp_ge (pc := 42) hC 64 dX7_init_42 (by decide) (fun c21 => ?_) (fun c21 => ?_)
    · rw [if_pos c21] at h
      exact x_vreturn (pc := 64) hC hE dX7_init_64 (so h) (show cs36 ≤ (134 : Nat) from by omega) (show sl36 ≤ (548 : Nat) from by omega)
    · rw [if_neg c21] at h
      refine x_aload_n (pc := 45) hC 0 dX7_init_45 rfl rfl ?_
      refine x_getRv (pc := 46) (k := 3) hC fc_13 fl_RX7_26 dX7_init_46 rfl g1 (fun r5 hr5 => ?_)
      replace h := lt_x hr5 h
      refine x_iload_n (pc := 49) hC 1 dX7_init_49 rfl rfl ?_
      obtain ⟨g6, h⟩ := gd_some h
      refine x_newv (pc := 50) hC fc_7 fn_7 wm_371 wm_156 wm_49 dX7_init_50 g6 (show cs36 + 1 ≤ (134 : Nat) from by omega) (show sl36 + 12 ≤ (548 : Nat) from by omega) (fun S7 r8 hS7 hr8 => ?_)
      replace h := zW_x hS7 h
      replace h := lt_x hr8 h
      have g9 : gK S7 r8 = 7 := by rw [hr8, hS7]; exact sW_K
      refine x_dup (pc := 53) hC dX7_init_53 rfl ?_
      obtain ⟨o12, ho12, h⟩ := bd_some h
      refine x_callI (pc := 54) (As := []) (rest := [.ref r8, .int a1, .ref r5]) hC hl (c_X1_init l hls ho12) lk_RX7_30 (by rw [g9]; decide) dX7_init_54 rfl rfl (Nat.le_of_ble_eq_true rfl) ⟨Nat.le_of_ble_eq_true rfl, Nat.le_of_ble_eq_true rfl⟩ ⟨(show cs36 + 13 ≤ (134 : Nat) from by omega), (show sl36 + 51 ≤ (548 : Nat) from by omega)⟩ ?_
      rcases o12 with ⟨_ | E13, S11⟩
      · refine xk_v ?_
        replace h := bk_l h
        refine x_widen (ce' := cs36 + 13) (sl' := sl36 + 51) (Nat.le_refl _) (Nat.le_refl _) ?_
        obtain ⟨g15, h⟩ := gd_some h
        obtain ⟨g14, h⟩ := gd_some h
        obtain ⟨g17, h⟩ := gd_some h
        refine x_rastv (pc := 57) (t0 := 4) hC fc_7 dX7_init_57 g15 (by decide) (fun _ => rfl) (Or.inl rfl) g17 g14 (fun S16 hS16 => ?_)
        replace h := zR_x hS16 h
        have g18 : gK S16 r5 = 34 := by rw [hS16]; exact g15
        have g19 : gK S16 r8 = 7 := by rw [hS16]; exact g17
        obtain ⟨x20, hx20⟩ : ∃ z, z = (a1 + Int32.ofInt (1)) := ⟨_, rfl⟩
        replace h := lt_x hx20 h
        refine x_iinc (pc := 58) hC 1 dX7_init_58 rfl hx20.symm (by decide) (by decide) rfl ?_
        refine x_goto (pc := 61) hC 36 dX7_init_61 (by decide) ?_
        refine x_pick [1, 0] rfl ?_
        refine x_widen (ce' := cs36 + 13) (sl' := sl36 + 51) (by omega) (by omega) ?_
        exact ih _ _ _ _ _ (by omega) (by omega) h
      · exact xk_r (xt_out hC hE (bk_r h) (show cs36 + 13 ≤ (134 : Nat) from by omega) (show sl36 + 51 ≤ (548 : Nat) from by omega))
def f_X7_init (S : mS) (a0 : Nat) : Option (Rs Unit) :=
  gd (gK S a0 = 13) (gd (gN S + 1 < KB) (zW (sW S 31 30) fun S3 => lt9 (gN S + 1) fun r4 => gd (gK S3 a0 = 13) (zR (sR S3 a0 0 r4) fun S7 => gd (gN S7 + 1 < KB) (zW (sW S7 31 2) fun S11 => lt9 (gN S7 + 1) fun r12 => gd (gK S11 a0 = 13) (zR (sR S11 a0 1 r12) fun S15 => gd (gN S15 + 1 < KB) (zW (sW S15 30 2) fun S19 => lt9 (gN S15 + 1) fun r20 => gd (gK S19 a0 = 13) (zR (sR S19 a0 2 r20) fun S23 => gd (gN S23 + 1 < KB) (zW (sW S23 34 4) fun S27 => lt9 (gN S23 + 1) fun r28 => gd (gK S27 a0 = 13) (zR (sR S27 a0 3 r28) fun S31 => f_X7_init_36  5 S31 a0 (0 : Int32))))))))))
set_option maxHeartbeats 2000000 in
set_option maxRecDepth 100000 in
theorem t_X7_init {l : Launch} (hls : l.stackTraces = false) {C : cT} (hC : CX C cX7_init 2 yX7_init rm_X7_init) (hl : C.2.1 = l) {S0 : mS} (hE : CE C S0 (Option.none : Option Jvm.ClassFile.FieldType) []) {o : Rs Unit} {S : mS} {a0 : Nat} (h : f_X7_init S a0 = some o) : XX C 2 (QQ C (fun _ : Unit => none) S0 o) 0 0 S 0 [(0, .ref a0)] [] := by
  unfold f_X7_init at h
  refine x_aload_n (pc := 0) hC 0 dX7_init_0 rfl rfl ?_
  obtain ⟨g1, h⟩ := gd_some h
  refine x_objInit (pc := 1) hC wm_370 wm_94 wm_95 dX7_init_1 (by rw [g1]; decide) (Nat.le_of_ble_eq_true rfl) (Nat.le_of_ble_eq_true rfl) ?_
  refine x_aload_n (pc := 4) hC 0 dX7_init_4 rfl rfl ?_
  refine x_bipush (pc := 5) (v := (30 : Int32)) hC dX7_init_5 (by decide) ?_
  obtain ⟨g2, h⟩ := gd_some h
  refine x_newaCv (pc := 7) (z := 30) hC wm_364 dX7_init_7 (by decide) (by decide) (Nat.le_of_ble_eq_true rfl) g2 (Nat.le_of_ble_eq_true rfl) (Nat.le_of_ble_eq_true rfl) (fun S3 r4 hS3 hr4 => ?_)
  replace h := zW_x hS3 h
  replace h := lt_x hr4 h
  have g5 : gK S3 r4 = 31 := by rw [hr4, hS3]; exact sW_K
  obtain ⟨g6, h⟩ := gd_some h
  refine x_putRFv (pc := 9) (k := 0) hC fc_13 wm_373 rfl dX7_init_9 rfl rfl rfl rfl (Or.inr ⟨_, rfl⟩) g6 (fun S7 hS7 => ?_)
  replace h := zR_x hS7 h
  have g8 : gK S7 r4 = 31 := by rw [hS7]; exact g5
  have g9 : gK S7 a0 = 13 := by rw [hS7]; exact g6
  refine x_aload_n (pc := 12) hC 0 dX7_init_12 rfl rfl ?_
  refine x_iconst (pc := 13) (v := (2 : Int32)) hC dX7_init_13 (by decide) ?_
  obtain ⟨g10, h⟩ := gd_some h
  refine x_newaCv (pc := 14) (z := 2) hC wm_364 dX7_init_14 (by decide) (by decide) (Nat.le_of_ble_eq_true rfl) g10 (Nat.le_of_ble_eq_true rfl) (Nat.le_of_ble_eq_true rfl) (fun S11 r12 hS11 hr12 => ?_)
  replace h := zW_x hS11 h
  replace h := lt_x hr12 h
  have g13 : gK S11 r12 = 31 := by rw [hr12, hS11]; exact sW_K
  obtain ⟨g14, h⟩ := gd_some h
  refine x_putRFv (pc := 16) (k := 1) hC fc_13 wm_375 rfl dX7_init_16 rfl rfl rfl rfl (Or.inr ⟨_, rfl⟩) g14 (fun S15 hS15 => ?_)
  replace h := zR_x hS15 h
  have g16 : gK S15 r12 = 31 := by rw [hS15]; exact g13
  have g17 : gK S15 a0 = 13 := by rw [hS15]; exact g14
  refine x_aload_n (pc := 19) hC 0 dX7_init_19 rfl rfl ?_
  refine x_iconst (pc := 20) (v := (2 : Int32)) hC dX7_init_20 (by decide) ?_
  obtain ⟨g18, h⟩ := gd_some h
  refine x_newaIv (pc := 21) (z := 2) hC wm_186 dX7_init_21 (by decide) (by decide) (Nat.le_of_ble_eq_true rfl) g18 (Nat.le_of_ble_eq_true rfl) (Nat.le_of_ble_eq_true rfl) (fun S19 r20 hS19 hr20 => ?_)
  replace h := zW_x hS19 h
  replace h := lt_x hr20 h
  have g21 : gK S19 r20 = 30 := by rw [hr20, hS19]; exact sW_K
  obtain ⟨g22, h⟩ := gd_some h
  refine x_putRFv (pc := 23) (k := 2) hC fc_13 wm_376 rfl dX7_init_23 rfl rfl rfl rfl (Or.inr ⟨_, rfl⟩) g22 (fun S23 hS23 => ?_)
  replace h := zR_x hS23 h
  have g24 : gK S23 r20 = 30 := by rw [hS23]; exact g21
  have g25 : gK S23 a0 = 13 := by rw [hS23]; exact g22
  refine x_aload_n (pc := 26) hC 0 dX7_init_26 rfl rfl ?_
  refine x_iconst (pc := 27) (v := (4 : Int32)) hC dX7_init_27 (by decide) ?_
  obtain ⟨g26, h⟩ := gd_some h
  refine x_newrv (pc := 28) (z := 4) (kd := 34) (t0 := 4) hC wm_371 wm_155 (by decide) (fun _ => rfl) dX7_init_28 (by decide) (by decide) (Nat.le_of_ble_eq_true rfl) g26 (Nat.le_of_ble_eq_true rfl) (Nat.le_of_ble_eq_true rfl) (fun S27 r28 hS27 hr28 => ?_)
  replace h := zW_x hS27 h
  replace h := lt_x hr28 h
  have g29 : gK S27 r28 = 34 := by rw [hr28, hS27]; exact sW_K
  obtain ⟨g30, h⟩ := gd_some h
  refine x_putRFv (pc := 31) (k := 3) hC fc_13 wm_377 rfl dX7_init_31 rfl rfl rfl rfl (Or.inr ⟨_, rfl⟩) g30 (fun S31 hS31 => ?_)
  replace h := zR_x hS31 h
  have g32 : gK S31 r28 = 34 := by rw [hS31]; exact g29
  have g33 : gK S31 a0 = 13 := by rw [hS31]; exact g30
  refine x_iconst (pc := 34) (v := (0 : Int32)) hC dX7_init_34 (by decide) ?_
  refine x_istore_n (pc := 35) hC dX7_init_35 rfl (by decide) (by decide) rfl ?_
  refine x_pick [1, 0] rfl ?_
  refine x_widen (ce' := 4) (sl' := 38) (Nat.le_of_ble_eq_true rfl) (Nat.le_of_ble_eq_true rfl) ?_
  exact t_X7_init_36 hls hC hl hE 5 _ _ _ _ _ (by omega) (by omega) h
theorem c_X7_init (l : Launch) (hls : l.stackTraces = false) {S : mS} {a0 : Nat} {o : Rs Unit} (h : f_X7_init S a0 = some o) : CT (fun _ : Unit => none) l yX7_init (.code yX7_init cX7_init 2 (Option.none : Option Jvm.ClassFile.FieldType)) rm_X7_init S [.ref a0] o := ct_of (by decide +kernel) hls (Nat.le_of_ble_eq_true rfl) (fun C hl hC hE => t_X7_init hls hC hl hE h)
abbrev rm_X7_append : Room := { frames := 8, cells := 0, slots := 0, locals := 150 }
def f_X7_append_39  (S : mS) (a0 : Nat) : Option (Rs Int32) :=
  gd (gK S a0 = 13) (lt9 (gI S a0 4) fun x2 => some (.inl x2, S))
set_option maxHeartbeats 2000000 in
set_option maxRecDepth 100000 in
theorem t_X7_append_39 {l : Launch} (hls : l.stackTraces = false) {C : cT} (hC : CX C cX7_append 2 yX7_append rm_X7_append) (hl : C.2.1 = l) {S0 : mS} (hE : CE C S0 (Option.some Jvm.ClassFile.FieldType.int) []) {o : Rs Int32} {S : mS} {a0 : Nat} (h : f_X7_append_39  S a0 = some o) : XX C 2 (QQ C (fun r : Int32 => some (.int r)) S0 o) (0) (0) S 39 [(0, .ref a0)] [] := by
  unfold f_X7_append_39 at h
  refine x_aload_n (pc := 39) hC 0 dX7_append_39 rfl rfl ?_
  obtain ⟨g1, h⟩ := gd_some h
  refine x_getIv (pc := 40) (k := 4) hC fc_13 fl_RX7_31 dX7_append_40 rfl g1 (fun x2 hx2 => ?_)
  replace h := lt_x hx2 h
  exact x_ireturn (pc := 43) hC hE dX7_append_43 (so h) (Nat.le_of_ble_eq_true rfl) (Nat.le_of_ble_eq_true rfl)
def f_X7_append (S : mS) (a0 : Nat) (a1 : Int32) : Option (Rs Int32) :=
  gd (gK S a0 = 13) (lt9 (gI S a0 4) fun x2 => if x2 < 0 then (f_X7_append_39  S a0) else (lt9 (gI S a0 4) fun x3 => lt9 (gR S a0 0) fun r4 => gd (gK S r4 = 31) (lt9 (Int32.ofNat (gZ S r4)) fun x6 => if x6 ≤ x3 then (f_X7_append_39  S a0) else (lt9 (gR S a0 0) fun r7 => lt9 (gI S a0 4) fun x8 => gd (gK S r7 = 31) (gd (¬ (x8 < 0 ∨ gZ S r7 ≤ (x8).toNatClampNeg)) (gd ((a1.toUInt32.toUInt16.toUInt32.toInt32 = a1 ∧ 0 ≤ a1) ∧ a1 ≤ 65535) (zI (sI S r7 (x8).toNatClampNeg a1) fun S11 => lt9 (gI S11 a0 4) fun x16 => lt9 (x16 + (1 : Int32)) fun x17 => zI (sI S11 a0 4 x17) fun S18 => f_X7_append_39  S18 a0)))))))
set_option maxHeartbeats 2000000 in
set_option maxRecDepth 100000 in
theorem t_X7_append {l : Launch} (hls : l.stackTraces = false) {C : cT} (hC : CX C cX7_append 2 yX7_append rm_X7_append) (hl : C.2.1 = l) {S0 : mS} (hE : CE C S0 (Option.some Jvm.ClassFile.FieldType.int) []) {o : Rs Int32} {S : mS} {a0 : Nat} {a1 : Int32} (h : f_X7_append S a0 a1 = some o) : XX C 2 (QQ C (fun r : Int32 => some (.int r)) S0 o) 0 0 S 0 [(0, .ref a0), (1, .int a1)] [] := by
  unfold f_X7_append at h
  refine x_aload_n (pc := 0) hC 0 dX7_append_0 rfl rfl ?_
  obtain ⟨g1, h⟩ := gd_some h
  refine x_getIv (pc := 1) (k := 4) hC fc_13 fl_RX7_31 dX7_append_1 rfl g1 (fun x2 hx2 => ?_)
  replace h := lt_x hx2 h
  refine x_if_lt (pc := 4) hC 39 dX7_append_4 (by decide) (fun c23 => ?_) (fun c23 => ?_)
  · rw [if_pos c23] at h
    refine x_pick [0] rfl ?_
    exact t_X7_append_39 hls hC hl hE h
  · rw [if_neg c23] at h
    refine x_aload_n (pc := 7) hC 0 dX7_append_7 rfl rfl ?_
    refine x_getIv (pc := 8) (k := 4) hC fc_13 fl_RX7_31 dX7_append_8 rfl g1 (fun x3 hx3 => ?_)
    replace h := lt_x hx3 h
    refine x_aload_n (pc := 11) hC 0 dX7_append_11 rfl rfl ?_
    refine x_getRv (pc := 12) (k := 0) hC fc_13 fl_RX7_9 dX7_append_12 rfl g1 (fun r4 hr4 => ?_)
    replace h := lt_x hr4 h
    obtain ⟨g5, h⟩ := gd_some h
    refine x_alenv (pc := 15) (t0 := 1) hC dX7_append_15 g5 (by decide) (fun _ => rfl) (fun x6 hx6 => ?_)
    replace h := lt_x hx6 h
    refine x_icmp_ge (pc := 16) hC 39 dX7_append_16 (by decide) (fun c22 => ?_) (fun c22 => ?_)
    · rw [if_pos c22] at h
      refine x_pick [0] rfl ?_
      exact t_X7_append_39 hls hC hl hE h
    · rw [if_neg c22] at h
      refine x_aload_n (pc := 19) hC 0 dX7_append_19 rfl rfl ?_
      refine x_getRv (pc := 20) (k := 0) hC fc_13 fl_RX7_9 dX7_append_20 rfl g1 (fun r7 hr7 => ?_)
      replace h := lt_x hr7 h
      refine x_aload_n (pc := 23) hC 0 dX7_append_23 rfl rfl ?_
      refine x_getIv (pc := 24) (k := 4) hC fc_13 fl_RX7_31 dX7_append_24 rfl g1 (fun x8 hx8 => ?_)
      replace h := lt_x hx8 h
      refine x_iload_n (pc := 27) hC 1 dX7_append_27 rfl rfl ?_
      obtain ⟨g10, h⟩ := gd_some h
      obtain ⟨g9, h⟩ := gd_some h
      obtain ⟨g12, h⟩ := gd_some h
      refine x_castv (pc := 28) hC dX7_append_28 (nf_C g12).1 g10 g9 (fun S11 hS11 => ?_)
      replace h := zI_x hS11 h
      have g13 : gK S11 a0 = 13 := by rw [hS11]; exact g1
      have g14 : gK S11 r4 = 31 := by rw [hS11]; exact g5
      have g15 : gK S11 r7 = 31 := by rw [hS11]; exact g10
      refine x_aload_n (pc := 29) hC 0 dX7_append_29 rfl rfl ?_
      refine x_dup (pc := 30) hC dX7_append_30 rfl ?_
      refine x_getIv (pc := 31) (k := 4) hC fc_13 fl_RX7_31 dX7_append_31 rfl g13 (fun x16 hx16 => ?_)
      replace h := lt_x hx16 h
      refine x_iconst (pc := 34) (v := (1 : Int32)) hC dX7_append_34 (by decide) ?_
      refine x_iaddv (pc := 35) hC dX7_append_35 (fun x17 hx17 => ?_)
      replace h := lt_x hx17 h
      refine x_putIv (pc := 36) (k := 4) hC fc_13 fl_RX7_31 dX7_append_36 rfl rfl (nf_int _) g13 (fun S18 hS18 => ?_)
      replace h := zI_x hS18 h
      have g19 : gK S18 a0 = 13 := by rw [hS18]; exact g13
      have g20 : gK S18 r4 = 31 := by rw [hS18]; exact g14
      have g21 : gK S18 r7 = 31 := by rw [hS18]; exact g15
      refine x_pick [0] rfl ?_
      exact t_X7_append_39 hls hC hl hE h
theorem c_X7_append (l : Launch) (hls : l.stackTraces = false) {S : mS} {a0 : Nat} {a1 : Int32} {o : Rs Int32} (h : f_X7_append S a0 a1 = some o) : CT (fun r : Int32 => some (.int r)) l yX7_append (.code yX7_append cX7_append 2 (Option.some Jvm.ClassFile.FieldType.int)) rm_X7_append S [.ref a0, .int a1] o := ct_of (by decide +kernel) hls (Nat.le_of_ble_eq_true rfl) (fun C hl hC hE => t_X7_append hls hC hl hE h)
abbrev rm_X7_empty : Room := { frames := 8, cells := 0, slots := 0, locals := 150 }
def f_X7_empty (S : mS) (a0 : Nat) : Option (Rs Int32) :=
  gd (gK S a0 = 13) (lt9 (gI S a0 4) fun x2 => zI (sI S a0 4 (0 : Int32)) fun S3 => some (.inl x2, S3))
set_option maxHeartbeats 2000000 in
set_option maxRecDepth 100000 in
theorem t_X7_empty {l : Launch} (hls : l.stackTraces = false) {C : cT} (hC : CX C cX7_empty 2 yX7_empty rm_X7_empty) (hl : C.2.1 = l) {S0 : mS} (hE : CE C S0 (Option.some Jvm.ClassFile.FieldType.int) []) {o : Rs Int32} {S : mS} {a0 : Nat} (h : f_X7_empty S a0 = some o) : XX C 2 (QQ C (fun r : Int32 => some (.int r)) S0 o) 0 0 S 0 [(0, .ref a0)] [] := by
  unfold f_X7_empty at h
  refine x_aload_n (pc := 0) hC 0 dX7_empty_0 rfl rfl ?_
  obtain ⟨g1, h⟩ := gd_some h
  refine x_getIv (pc := 1) (k := 4) hC fc_13 fl_RX7_31 dX7_empty_1 rfl g1 (fun x2 hx2 => ?_)
  replace h := lt_x hx2 h
  refine x_istore_n (pc := 4) hC dX7_empty_4 rfl (by decide) (by decide) rfl ?_
  refine x_aload_n (pc := 5) hC 1 dX7_empty_5 rfl rfl ?_
  refine x_iconst (pc := 6) (v := (0 : Int32)) hC dX7_empty_6 (by decide) ?_
  refine x_putIv (pc := 7) (k := 4) hC fc_13 fl_RX7_31 dX7_empty_7 rfl rfl (nf_int _) g1 (fun S3 hS3 => ?_)
  replace h := zI_x hS3 h
  have g4 : gK S3 a0 = 13 := by rw [hS3]; exact g1
  refine x_iload_n (pc := 10) hC 0 dX7_empty_10 rfl rfl ?_
  exact x_ireturn (pc := 11) hC hE dX7_empty_11 (so h) (Nat.le_of_ble_eq_true rfl) (Nat.le_of_ble_eq_true rfl)
theorem c_X7_empty (l : Launch) (hls : l.stackTraces = false) {S : mS} {a0 : Nat} {o : Rs Int32} (h : f_X7_empty S a0 = some o) : CT (fun r : Int32 => some (.int r)) l yX7_empty (.code yX7_empty cX7_empty 2 (Option.some Jvm.ClassFile.FieldType.int)) rm_X7_empty S [.ref a0] o := ct_of (by decide +kernel) hls (Nat.le_of_ble_eq_true rfl) (fun C hl hC hE => t_X7_empty hls hC hl hE h)
abbrev rm_X7_causeSign : Room := { frames := 8, cells := 0, slots := 0, locals := 150 }
def f_X7_causeSign_24  (S : mS) (s0 : Int32) : Option (Rs Int32) :=
  gd ((s0.toUInt32.toUInt16.toUInt32.toInt32 = s0 ∧ 0 ≤ s0) ∧ s0 ≤ 65535) (some (.inl s0, S))
set_option maxHeartbeats 2000000 in
set_option maxRecDepth 100000 in
theorem t_X7_causeSign_24 {l : Launch} (hls : l.stackTraces = false) {C : cT} (hC : CX C cX7_causeSign 2 yX7_causeSign rm_X7_causeSign) (hl : C.2.1 = l) {S0 : mS} (hE : CE C S0 (Option.some Jvm.ClassFile.FieldType.char) []) {o : Rs Int32} {S : mS} {s0 : Int32} (h : f_X7_causeSign_24  S s0 = some o) : XX C 2 (QQ C (fun r : Int32 => some (.int r)) S0 o) (0) (0) S 24 [] [.int s0] := by
  unfold f_X7_causeSign_24 at h
  obtain ⟨g1, h⟩ := gd_some h
  exact x_zreturn (pc := 24) hC hE dX7_causeSign_24 (nf_C g1).1 (so h) (Nat.le_of_ble_eq_true rfl) (Nat.le_of_ble_eq_true rfl)
def f_X7_causeSign_22  (S : mS) : Option (Rs Int32) :=
  f_X7_causeSign_24  S (32 : Int32)
set_option maxHeartbeats 2000000 in
set_option maxRecDepth 100000 in
theorem t_X7_causeSign_22 {l : Launch} (hls : l.stackTraces = false) {C : cT} (hC : CX C cX7_causeSign 2 yX7_causeSign rm_X7_causeSign) (hl : C.2.1 = l) {S0 : mS} (hE : CE C S0 (Option.some Jvm.ClassFile.FieldType.char) []) {o : Rs Int32} {S : mS} (h : f_X7_causeSign_22  S = some o) : XX C 2 (QQ C (fun r : Int32 => some (.int r)) S0 o) (0) (0) S 22 [] [] := by
  unfold f_X7_causeSign_22 at h
  refine x_bipush (pc := 22) (v := (32 : Int32)) hC dX7_causeSign_22 (by decide) ?_
  refine x_pick [] rfl ?_
  exact t_X7_causeSign_24 hls hC hl hE h
def f_X7_causeSign (S : mS) (a0 : Nat) (a1 : Int32) : Option (Rs Int32) :=
  if a1 < 0 then (f_X7_causeSign_22  S) else (gd (gK S a0 = 13) (lt9 (gR S a0 1) fun r2 => gd (gK S r2 = 31) (lt9 (Int32.ofNat (gZ S r2)) fun x4 => if x4 ≤ a1 then (f_X7_causeSign_22  S) else (lt9 (gR S a0 1) fun r5 => gd (gK S r5 = 31) (gd (¬ (a1 < 0 ∨ gZ S r5 ≤ (a1).toNatClampNeg)) (lt9 (gI S r5 (a1).toNatClampNeg) fun x9 => f_X7_causeSign_24  S x9))))))
set_option maxHeartbeats 2000000 in
set_option maxRecDepth 100000 in
theorem t_X7_causeSign {l : Launch} (hls : l.stackTraces = false) {C : cT} (hC : CX C cX7_causeSign 2 yX7_causeSign rm_X7_causeSign) (hl : C.2.1 = l) {S0 : mS} (hE : CE C S0 (Option.some Jvm.ClassFile.FieldType.char) []) {o : Rs Int32} {S : mS} {a0 : Nat} {a1 : Int32} (h : f_X7_causeSign S a0 a1 = some o) : XX C 2 (QQ C (fun r : Int32 => some (.int r)) S0 o) 0 0 S 0 [(0, .ref a0), (1, .int a1)] [] := by
  unfold f_X7_causeSign at h
  refine x_iload_n (pc := 0) hC 1 dX7_causeSign_0 rfl rfl ?_
  refine x_if_lt (pc := 1) hC 22 dX7_causeSign_1 (by decide) (fun c11 => ?_) (fun c11 => ?_)
  · rw [if_pos c11] at h
    refine x_pick [] rfl ?_
    exact t_X7_causeSign_22 hls hC hl hE h
  · rw [if_neg c11] at h
    refine x_iload_n (pc := 4) hC 1 dX7_causeSign_4 rfl rfl ?_
    refine x_aload_n (pc := 5) hC 0 dX7_causeSign_5 rfl rfl ?_
    obtain ⟨g1, h⟩ := gd_some h
    refine x_getRv (pc := 6) (k := 1) hC fc_13 fl_RX7_15 dX7_causeSign_6 rfl g1 (fun r2 hr2 => ?_)
    replace h := lt_x hr2 h
    obtain ⟨g3, h⟩ := gd_some h
    refine x_alenv (pc := 9) (t0 := 1) hC dX7_causeSign_9 g3 (by decide) (fun _ => rfl) (fun x4 hx4 => ?_)
    replace h := lt_x hx4 h
    refine x_icmp_ge (pc := 10) hC 22 dX7_causeSign_10 (by decide) (fun c10 => ?_) (fun c10 => ?_)
    · rw [if_pos c10] at h
      refine x_pick [] rfl ?_
      exact t_X7_causeSign_22 hls hC hl hE h
    · rw [if_neg c10] at h
      refine x_aload_n (pc := 13) hC 0 dX7_causeSign_13 rfl rfl ?_
      refine x_getRv (pc := 14) (k := 1) hC fc_13 fl_RX7_15 dX7_causeSign_14 rfl g1 (fun r5 hr5 => ?_)
      replace h := lt_x hr5 h
      refine x_iload_n (pc := 17) hC 1 dX7_causeSign_17 rfl rfl ?_
      obtain ⟨g8, h⟩ := gd_some h
      obtain ⟨g7, h⟩ := gd_some h
      refine x_caldv (pc := 18) hC dX7_causeSign_18 g8 g7 (fun x9 hx9 => ?_)
      replace h := lt_x hx9 h
      refine x_goto (pc := 19) hC 24 dX7_causeSign_19 (by decide) ?_
      refine x_pick [] rfl ?_
      exact t_X7_causeSign_24 hls hC hl hE h
theorem c_X7_causeSign (l : Launch) (hls : l.stackTraces = false) {S : mS} {a0 : Nat} {a1 : Int32} {o : Rs Int32} (h : f_X7_causeSign S a0 a1 = some o) : CT (fun r : Int32 => some (.int r)) l yX7_causeSign (.code yX7_causeSign cX7_causeSign 2 (Option.some Jvm.ClassFile.FieldType.char)) rm_X7_causeSign S [.ref a0, .int a1] o := ct_of (by decide +kernel) hls (Nat.le_of_ble_eq_true rfl) (fun C hl hC hE => t_X7_causeSign hls hC hl hE h)
abbrev rm_X7_causePlace : Room := { frames := 8, cells := 0, slots := 0, locals := 150 }
def f_X7_causePlace_23  (S : mS) (s0 : Int32) : Option (Rs Int32) :=
  some (.inl s0, S)
set_option maxHeartbeats 2000000 in
set_option maxRecDepth 100000 in
theorem t_X7_causePlace_23 {l : Launch} (hls : l.stackTraces = false) {C : cT} (hC : CX C cX7_causePlace 2 yX7_causePlace rm_X7_causePlace) (hl : C.2.1 = l) {S0 : mS} (hE : CE C S0 (Option.some Jvm.ClassFile.FieldType.int) []) {o : Rs Int32} {S : mS} {s0 : Int32} (h : f_X7_causePlace_23  S s0 = some o) : XX C 2 (QQ C (fun r : Int32 => some (.int r)) S0 o) (0) (0) S 23 [] [.int s0] := by
  unfold f_X7_causePlace_23 at h
  exact x_ireturn (pc := 23) hC hE dX7_causePlace_23 (so h) (Nat.le_of_ble_eq_true rfl) (Nat.le_of_ble_eq_true rfl)
def f_X7_causePlace_22  (S : mS) : Option (Rs Int32) :=
  f_X7_causePlace_23  S (-1 : Int32)
set_option maxHeartbeats 2000000 in
set_option maxRecDepth 100000 in
theorem t_X7_causePlace_22 {l : Launch} (hls : l.stackTraces = false) {C : cT} (hC : CX C cX7_causePlace 2 yX7_causePlace rm_X7_causePlace) (hl : C.2.1 = l) {S0 : mS} (hE : CE C S0 (Option.some Jvm.ClassFile.FieldType.int) []) {o : Rs Int32} {S : mS} (h : f_X7_causePlace_22  S = some o) : XX C 2 (QQ C (fun r : Int32 => some (.int r)) S0 o) (0) (0) S 22 [] [] := by
  unfold f_X7_causePlace_22 at h
  refine x_iconst (pc := 22) (v := (-1 : Int32)) hC dX7_causePlace_22 (by decide) ?_
  refine x_pick [] rfl ?_
  exact t_X7_causePlace_23 hls hC hl hE h
def f_X7_causePlace (S : mS) (a0 : Nat) (a1 : Int32) : Option (Rs Int32) :=
  if a1 < 0 then (f_X7_causePlace_22  S) else (gd (gK S a0 = 13) (lt9 (gR S a0 2) fun r2 => gd (gK S r2 = 30) (lt9 (Int32.ofNat (gZ S r2)) fun x4 => if x4 ≤ a1 then (f_X7_causePlace_22  S) else (lt9 (gR S a0 2) fun r5 => gd (gK S r5 = 30) (gd (¬ (a1 < 0 ∨ gZ S r5 ≤ (a1).toNatClampNeg)) (lt9 (gI S r5 (a1).toNatClampNeg) fun x9 => f_X7_causePlace_23  S x9))))))
set_option maxHeartbeats 2000000 in
set_option maxRecDepth 100000 in
theorem t_X7_causePlace {l : Launch} (hls : l.stackTraces = false) {C : cT} (hC : CX C cX7_causePlace 2 yX7_causePlace rm_X7_causePlace) (hl : C.2.1 = l) {S0 : mS} (hE : CE C S0 (Option.some Jvm.ClassFile.FieldType.int) []) {o : Rs Int32} {S : mS} {a0 : Nat} {a1 : Int32} (h : f_X7_causePlace S a0 a1 = some o) : XX C 2 (QQ C (fun r : Int32 => some (.int r)) S0 o) 0 0 S 0 [(0, .ref a0), (1, .int a1)] [] := by
  unfold f_X7_causePlace at h
  refine x_iload_n (pc := 0) hC 1 dX7_causePlace_0 rfl rfl ?_
  refine x_if_lt (pc := 1) hC 22 dX7_causePlace_1 (by decide) (fun c11 => ?_) (fun c11 => ?_)
  · rw [if_pos c11] at h
    refine x_pick [] rfl ?_
    exact t_X7_causePlace_22 hls hC hl hE h
  · rw [if_neg c11] at h
    refine x_iload_n (pc := 4) hC 1 dX7_causePlace_4 rfl rfl ?_
    refine x_aload_n (pc := 5) hC 0 dX7_causePlace_5 rfl rfl ?_
    obtain ⟨g1, h⟩ := gd_some h
    refine x_getRv (pc := 6) (k := 2) hC fc_13 fl_RX7_18 dX7_causePlace_6 rfl g1 (fun r2 hr2 => ?_)
    replace h := lt_x hr2 h
    obtain ⟨g3, h⟩ := gd_some h
    refine x_alenv (pc := 9) (t0 := 0) hC dX7_causePlace_9 g3 (by decide) (fun _ => rfl) (fun x4 hx4 => ?_)
    replace h := lt_x hx4 h
    refine x_icmp_ge (pc := 10) hC 22 dX7_causePlace_10 (by decide) (fun c10 => ?_) (fun c10 => ?_)
    · rw [if_pos c10] at h
      refine x_pick [] rfl ?_
      exact t_X7_causePlace_22 hls hC hl hE h
    · rw [if_neg c10] at h
      refine x_aload_n (pc := 13) hC 0 dX7_causePlace_13 rfl rfl ?_
      refine x_getRv (pc := 14) (k := 2) hC fc_13 fl_RX7_18 dX7_causePlace_14 rfl g1 (fun r5 hr5 => ?_)
      replace h := lt_x hr5 h
      refine x_iload_n (pc := 17) hC 1 dX7_causePlace_17 rfl rfl ?_
      obtain ⟨g8, h⟩ := gd_some h
      obtain ⟨g7, h⟩ := gd_some h
      refine x_ialdv (pc := 18) hC dX7_causePlace_18 g8 g7 (fun x9 hx9 => ?_)
      replace h := lt_x hx9 h
      refine x_goto (pc := 19) hC 23 dX7_causePlace_19 (by decide) ?_
      refine x_pick [] rfl ?_
      exact t_X7_causePlace_23 hls hC hl hE h
theorem c_X7_causePlace (l : Launch) (hls : l.stackTraces = false) {S : mS} {a0 : Nat} {a1 : Int32} {o : Rs Int32} (h : f_X7_causePlace S a0 a1 = some o) : CT (fun r : Int32 => some (.int r)) l yX7_causePlace (.code yX7_causePlace cX7_causePlace 2 (Option.some Jvm.ClassFile.FieldType.int)) rm_X7_causePlace S [.ref a0, .int a1] o := ct_of (by decide +kernel) hls (Nat.le_of_ble_eq_true rfl) (fun C hl hC hE => t_X7_causePlace hls hC hl hE h)
abbrev rm_X7_addCause : Room := { frames := 8, cells := 0, slots := 0, locals := 150 }
def f_X7_addCause_61  (S : mS) : Option (Rs Unit) :=
  some (.inl (), S)
set_option maxHeartbeats 2000000 in
set_option maxRecDepth 100000 in
theorem t_X7_addCause_61 {l : Launch} (hls : l.stackTraces = false) {C : cT} (hC : CX C cX7_addCause 3 yX7_addCause rm_X7_addCause) (hl : C.2.1 = l) {S0 : mS} (hE : CE C S0 (Option.none : Option Jvm.ClassFile.FieldType) []) {o : Rs Unit} {S : mS} (h : f_X7_addCause_61  S = some o) : XX C 3 (QQ C (fun _ : Unit => none) S0 o) (0) (0) S 61 [] [] := by
  unfold f_X7_addCause_61 at h
  exact x_vreturn (pc := 61) hC hE dX7_addCause_61 (so h) (Nat.le_of_ble_eq_true rfl) (Nat.le_of_ble_eq_true rfl)
def f_X7_addCause (S : mS) (a0 : Nat) (a1 : Int32) (a2 : Int32) : Option (Rs Unit) :=
  gd (gK S a0 = 13) (lt9 (gI S a0 5) fun x2 => if x2 < 0 then (f_X7_addCause_61  S) else (lt9 (gI S a0 5) fun x3 => lt9 (gR S a0 1) fun r4 => gd (gK S r4 = 31) (lt9 (Int32.ofNat (gZ S r4)) fun x6 => if x6 ≤ x3 then (f_X7_addCause_61  S) else (lt9 (gI S a0 5) fun x7 => lt9 (gR S a0 2) fun r8 => gd (gK S r8 = 30) (lt9 (Int32.ofNat (gZ S r8)) fun x10 => if x10 ≤ x7 then (f_X7_addCause_61  S) else (lt9 (gR S a0 1) fun r11 => lt9 (gI S a0 5) fun x12 => gd (gK S r11 = 31) (gd (¬ (x12 < 0 ∨ gZ S r11 ≤ (x12).toNatClampNeg)) (gd ((a1.toUInt32.toUInt16.toUInt32.toInt32 = a1 ∧ 0 ≤ a1) ∧ a1 ≤ 65535) (zI (sI S r11 (x12).toNatClampNeg a1) fun S15 => lt9 (gR S15 a0 2) fun r21 => lt9 (gI S15 a0 5) fun x22 => gd (gK S15 r21 = 30) (gd (¬ (x22 < 0 ∨ gZ S15 r21 ≤ (x22).toNatClampNeg)) (zI (sI S15 r21 (x22).toNatClampNeg a2) fun S25 => lt9 (gI S25 a0 5) fun x31 => lt9 (x31 + (1 : Int32)) fun x32 => zI (sI S25 a0 5 x32) fun S33 => f_X7_addCause_61  S33)))))))))))
set_option maxHeartbeats 2000000 in
set_option maxRecDepth 100000 in
theorem t_X7_addCause {l : Launch} (hls : l.stackTraces = false) {C : cT} (hC : CX C cX7_addCause 3 yX7_addCause rm_X7_addCause) (hl : C.2.1 = l) {S0 : mS} (hE : CE C S0 (Option.none : Option Jvm.ClassFile.FieldType) []) {o : Rs Unit} {S : mS} {a0 : Nat} {a1 : Int32} {a2 : Int32} (h : f_X7_addCause S a0 a1 a2 = some o) : XX C 3 (QQ C (fun _ : Unit => none) S0 o) 0 0 S 0 [(0, .ref a0), (1, .int a1), (2, .int a2)] [] := by
  unfold f_X7_addCause at h
  refine x_aload_n (pc := 0) hC 0 dX7_addCause_0 rfl rfl ?_
  obtain ⟨g1, h⟩ := gd_some h
  refine x_getIv (pc := 1) (k := 5) hC fc_13 fl_RX7_35 dX7_addCause_1 rfl g1 (fun x2 hx2 => ?_)
  replace h := lt_x hx2 h
  refine x_if_lt (pc := 4) hC 61 dX7_addCause_4 (by decide) (fun c41 => ?_) (fun c41 => ?_)
  · rw [if_pos c41] at h
    refine x_pick [] rfl ?_
    exact t_X7_addCause_61 hls hC hl hE h
  · rw [if_neg c41] at h
    refine x_aload_n (pc := 7) hC 0 dX7_addCause_7 rfl rfl ?_
    refine x_getIv (pc := 8) (k := 5) hC fc_13 fl_RX7_35 dX7_addCause_8 rfl g1 (fun x3 hx3 => ?_)
    replace h := lt_x hx3 h
    refine x_aload_n (pc := 11) hC 0 dX7_addCause_11 rfl rfl ?_
    refine x_getRv (pc := 12) (k := 1) hC fc_13 fl_RX7_15 dX7_addCause_12 rfl g1 (fun r4 hr4 => ?_)
    replace h := lt_x hr4 h
    obtain ⟨g5, h⟩ := gd_some h
    refine x_alenv (pc := 15) (t0 := 1) hC dX7_addCause_15 g5 (by decide) (fun _ => rfl) (fun x6 hx6 => ?_)
    replace h := lt_x hx6 h
    refine x_icmp_ge (pc := 16) hC 61 dX7_addCause_16 (by decide) (fun c40 => ?_) (fun c40 => ?_)
    · rw [if_pos c40] at h
      refine x_pick [] rfl ?_
      exact t_X7_addCause_61 hls hC hl hE h
    · rw [if_neg c40] at h
      refine x_aload_n (pc := 19) hC 0 dX7_addCause_19 rfl rfl ?_
      refine x_getIv (pc := 20) (k := 5) hC fc_13 fl_RX7_35 dX7_addCause_20 rfl g1 (fun x7 hx7 => ?_)
      replace h := lt_x hx7 h
      refine x_aload_n (pc := 23) hC 0 dX7_addCause_23 rfl rfl ?_
      refine x_getRv (pc := 24) (k := 2) hC fc_13 fl_RX7_18 dX7_addCause_24 rfl g1 (fun r8 hr8 => ?_)
      replace h := lt_x hr8 h
      obtain ⟨g9, h⟩ := gd_some h
      refine x_alenv (pc := 27) (t0 := 0) hC dX7_addCause_27 g9 (by decide) (fun _ => rfl) (fun x10 hx10 => ?_)
      replace h := lt_x hx10 h
      refine x_icmp_ge (pc := 28) hC 61 dX7_addCause_28 (by decide) (fun c39 => ?_) (fun c39 => ?_)
      · rw [if_pos c39] at h
        refine x_pick [] rfl ?_
        exact t_X7_addCause_61 hls hC hl hE h
      · rw [if_neg c39] at h
        refine x_aload_n (pc := 31) hC 0 dX7_addCause_31 rfl rfl ?_
        refine x_getRv (pc := 32) (k := 1) hC fc_13 fl_RX7_15 dX7_addCause_32 rfl g1 (fun r11 hr11 => ?_)
        replace h := lt_x hr11 h
        refine x_aload_n (pc := 35) hC 0 dX7_addCause_35 rfl rfl ?_
        refine x_getIv (pc := 36) (k := 5) hC fc_13 fl_RX7_35 dX7_addCause_36 rfl g1 (fun x12 hx12 => ?_)
        replace h := lt_x hx12 h
        refine x_iload_n (pc := 39) hC 1 dX7_addCause_39 rfl rfl ?_
        obtain ⟨g14, h⟩ := gd_some h
        obtain ⟨g13, h⟩ := gd_some h
        obtain ⟨g16, h⟩ := gd_some h
        refine x_castv (pc := 40) hC dX7_addCause_40 (nf_C g16).1 g14 g13 (fun S15 hS15 => ?_)
        replace h := zI_x hS15 h
        have g17 : gK S15 a0 = 13 := by rw [hS15]; exact g1
        have g18 : gK S15 r4 = 31 := by rw [hS15]; exact g5
        have g19 : gK S15 r8 = 30 := by rw [hS15]; exact g9
        have g20 : gK S15 r11 = 31 := by rw [hS15]; exact g14
        refine x_aload_n (pc := 41) hC 0 dX7_addCause_41 rfl rfl ?_
        refine x_getRv (pc := 42) (k := 2) hC fc_13 fl_RX7_18 dX7_addCause_42 rfl g17 (fun r21 hr21 => ?_)
        replace h := lt_x hr21 h
        refine x_aload_n (pc := 45) hC 0 dX7_addCause_45 rfl rfl ?_
        refine x_getIv (pc := 46) (k := 5) hC fc_13 fl_RX7_35 dX7_addCause_46 rfl g17 (fun x22 hx22 => ?_)
        replace h := lt_x hx22 h
        refine x_iload_n (pc := 49) hC 2 dX7_addCause_49 rfl rfl ?_
        obtain ⟨g24, h⟩ := gd_some h
        obtain ⟨g23, h⟩ := gd_some h
        refine x_iastv (pc := 50) hC dX7_addCause_50 g24 g23 (fun S25 hS25 => ?_)
        replace h := zI_x hS25 h
        have g26 : gK S25 a0 = 13 := by rw [hS25]; exact g17
        have g27 : gK S25 r4 = 31 := by rw [hS25]; exact g18
        have g28 : gK S25 r8 = 30 := by rw [hS25]; exact g19
        have g29 : gK S25 r11 = 31 := by rw [hS25]; exact g20
        have g30 : gK S25 r21 = 30 := by rw [hS25]; exact g24
        refine x_aload_n (pc := 51) hC 0 dX7_addCause_51 rfl rfl ?_
        refine x_dup (pc := 52) hC dX7_addCause_52 rfl ?_
        refine x_getIv (pc := 53) (k := 5) hC fc_13 fl_RX7_35 dX7_addCause_53 rfl g26 (fun x31 hx31 => ?_)
        replace h := lt_x hx31 h
        refine x_iconst (pc := 56) (v := (1 : Int32)) hC dX7_addCause_56 (by decide) ?_
        refine x_iaddv (pc := 57) hC dX7_addCause_57 (fun x32 hx32 => ?_)
        replace h := lt_x hx32 h
        refine x_putIv (pc := 58) (k := 5) hC fc_13 fl_RX7_35 dX7_addCause_58 rfl rfl (nf_int _) g26 (fun S33 hS33 => ?_)
        replace h := zI_x hS33 h
        have g34 : gK S33 a0 = 13 := by rw [hS33]; exact g26
        have g35 : gK S33 r4 = 31 := by rw [hS33]; exact g27
        have g36 : gK S33 r8 = 30 := by rw [hS33]; exact g28
        have g37 : gK S33 r11 = 31 := by rw [hS33]; exact g29
        have g38 : gK S33 r21 = 30 := by rw [hS33]; exact g30
        refine x_pick [] rfl ?_
        exact t_X7_addCause_61 hls hC hl hE h
theorem c_X7_addCause (l : Launch) (hls : l.stackTraces = false) {S : mS} {a0 : Nat} {a1 : Int32} {a2 : Int32} {o : Rs Unit} (h : f_X7_addCause S a0 a1 a2 = some o) : CT (fun _ : Unit => none) l yX7_addCause (.code yX7_addCause cX7_addCause 3 (Option.none : Option Jvm.ClassFile.FieldType)) rm_X7_addCause S [.ref a0, .int a1, .int a2] o := ct_of (by decide +kernel) hls (Nat.le_of_ble_eq_true rfl) (fun C hl hC hE => t_X7_addCause hls hC hl hE h)
abbrev rm_X7_isDeckLetter : Room := { frames := 8, cells := 0, slots := 0, locals := 150 }
def f_X7_isDeckLetter_17  (S : mS) (s0 : Int32) : Option (Rs Int32) :=
  gd (s0 = 0 ∨ s0 = 1) (some (.inl s0, S))
set_option maxHeartbeats 2000000 in
set_option maxRecDepth 100000 in
theorem t_X7_isDeckLetter_17 {l : Launch} (hls : l.stackTraces = false) {C : cT} (hC : CX C cX7_isDeckLetter 1 yX7_isDeckLetter rm_X7_isDeckLetter) (hl : C.2.1 = l) {S0 : mS} (hE : CE C S0 (Option.some Jvm.ClassFile.FieldType.boolean) []) {o : Rs Int32} {S : mS} {s0 : Int32} (h : f_X7_isDeckLetter_17  S s0 = some o) : XX C 1 (QQ C (fun r : Int32 => some (.int r)) S0 o) (0) (0) S 17 [] [.int s0] := by
  unfold f_X7_isDeckLetter_17 at h
  obtain ⟨g1, h⟩ := gd_some h
  exact x_zreturn (pc := 17) hC hE dX7_isDeckLetter_17 (nf_B g1).1 (so h) (Nat.le_of_ble_eq_true rfl) (Nat.le_of_ble_eq_true rfl)
def f_X7_isDeckLetter_16  (S : mS) : Option (Rs Int32) :=
  f_X7_isDeckLetter_17  S (0 : Int32)
set_option maxHeartbeats 2000000 in
set_option maxRecDepth 100000 in
theorem t_X7_isDeckLetter_16 {l : Launch} (hls : l.stackTraces = false) {C : cT} (hC : CX C cX7_isDeckLetter 1 yX7_isDeckLetter rm_X7_isDeckLetter) (hl : C.2.1 = l) {S0 : mS} (hE : CE C S0 (Option.some Jvm.ClassFile.FieldType.boolean) []) {o : Rs Int32} {S : mS} (h : f_X7_isDeckLetter_16  S = some o) : XX C 1 (QQ C (fun r : Int32 => some (.int r)) S0 o) (0) (0) S 16 [] [] := by
  unfold f_X7_isDeckLetter_16 at h
  refine x_iconst (pc := 16) (v := (0 : Int32)) hC dX7_isDeckLetter_16 (by decide) ?_
  refine x_pick [] rfl ?_
  exact t_X7_isDeckLetter_17 hls hC hl hE h
def f_X7_isDeckLetter (S : mS) (a0 : Int32) : Option (Rs Int32) :=
  if a0 < (65 : Int32) then (f_X7_isDeckLetter_16  S) else (if (68 : Int32) < a0 then (f_X7_isDeckLetter_16  S) else (f_X7_isDeckLetter_17  S (1 : Int32)))
set_option maxHeartbeats 2000000 in
set_option maxRecDepth 100000 in
theorem t_X7_isDeckLetter {l : Launch} (hls : l.stackTraces = false) {C : cT} (hC : CX C cX7_isDeckLetter 1 yX7_isDeckLetter rm_X7_isDeckLetter) (hl : C.2.1 = l) {S0 : mS} (hE : CE C S0 (Option.some Jvm.ClassFile.FieldType.boolean) []) {o : Rs Int32} {S : mS} {a0 : Int32} (h : f_X7_isDeckLetter S a0 = some o) : XX C 1 (QQ C (fun r : Int32 => some (.int r)) S0 o) 0 0 S 0 [(0, .int a0)] [] := by
  unfold f_X7_isDeckLetter at h
  refine x_iload_n (pc := 0) hC 0 dX7_isDeckLetter_0 rfl rfl ?_
  refine x_bipush (pc := 1) (v := (65 : Int32)) hC dX7_isDeckLetter_1 (by decide) ?_
  refine x_icmp_lt (pc := 3) hC 16 dX7_isDeckLetter_3 (by decide) (fun c2 => ?_) (fun c2 => ?_)
  · rw [if_pos c2] at h
    refine x_pick [] rfl ?_
    exact t_X7_isDeckLetter_16 hls hC hl hE h
  · rw [if_neg c2] at h
    refine x_iload_n (pc := 6) hC 0 dX7_isDeckLetter_6 rfl rfl ?_
    refine x_bipush (pc := 7) (v := (68 : Int32)) hC dX7_isDeckLetter_7 (by decide) ?_
    refine x_icmp_gt (pc := 9) hC 16 dX7_isDeckLetter_9 (by decide) (fun c1 => ?_) (fun c1 => ?_)
    · rw [if_pos c1] at h
      refine x_pick [] rfl ?_
      exact t_X7_isDeckLetter_16 hls hC hl hE h
    · rw [if_neg c1] at h
      refine x_iconst (pc := 12) (v := (1 : Int32)) hC dX7_isDeckLetter_12 (by decide) ?_
      refine x_goto (pc := 13) hC 17 dX7_isDeckLetter_13 (by decide) ?_
      refine x_pick [] rfl ?_
      exact t_X7_isDeckLetter_17 hls hC hl hE h
theorem c_X7_isDeckLetter (l : Launch) (hls : l.stackTraces = false) {S : mS} {a0 : Int32} {o : Rs Int32} (h : f_X7_isDeckLetter S a0 = some o) : CT (fun r : Int32 => some (.int r)) l yX7_isDeckLetter (.code yX7_isDeckLetter cX7_isDeckLetter 1 (Option.some Jvm.ClassFile.FieldType.boolean)) rm_X7_isDeckLetter S [.int a0] o := ct_of (by decide +kernel) hls (Nat.le_of_ble_eq_true rfl) (fun C hl hC hE => t_X7_isDeckLetter hls hC hl hE h)
abbrev rm_X7_isLoneMove : Room := { frames := 8, cells := 0, slots := 0, locals := 150 }
def f_X7_isLoneMove_35  (S : mS) (s0 : Int32) : Option (Rs Int32) :=
  gd (s0 = 0 ∨ s0 = 1) (some (.inl s0, S))
set_option maxHeartbeats 2000000 in
set_option maxRecDepth 100000 in
theorem t_X7_isLoneMove_35 {l : Launch} (hls : l.stackTraces = false) {C : cT} (hC : CX C cX7_isLoneMove 1 yX7_isLoneMove rm_X7_isLoneMove) (hl : C.2.1 = l) {S0 : mS} (hE : CE C S0 (Option.some Jvm.ClassFile.FieldType.boolean) []) {o : Rs Int32} {S : mS} {s0 : Int32} (h : f_X7_isLoneMove_35  S s0 = some o) : XX C 1 (QQ C (fun r : Int32 => some (.int r)) S0 o) (0) (0) S 35 [] [.int s0] := by
  unfold f_X7_isLoneMove_35 at h
  obtain ⟨g1, h⟩ := gd_some h
  exact x_zreturn (pc := 35) hC hE dX7_isLoneMove_35 (nf_B g1).1 (so h) (Nat.le_of_ble_eq_true rfl) (Nat.le_of_ble_eq_true rfl)
def f_X7_isLoneMove_30  (S : mS) : Option (Rs Int32) :=
  f_X7_isLoneMove_35  S (1 : Int32)
set_option maxHeartbeats 2000000 in
set_option maxRecDepth 100000 in
theorem t_X7_isLoneMove_30 {l : Launch} (hls : l.stackTraces = false) {C : cT} (hC : CX C cX7_isLoneMove 1 yX7_isLoneMove rm_X7_isLoneMove) (hl : C.2.1 = l) {S0 : mS} (hE : CE C S0 (Option.some Jvm.ClassFile.FieldType.boolean) []) {o : Rs Int32} {S : mS} (h : f_X7_isLoneMove_30  S = some o) : XX C 1 (QQ C (fun r : Int32 => some (.int r)) S0 o) (0) (0) S 30 [] [] := by
  unfold f_X7_isLoneMove_30 at h
  refine x_iconst (pc := 30) (v := (1 : Int32)) hC dX7_isLoneMove_30 (by decide) ?_
  refine x_goto (pc := 31) hC 35 dX7_isLoneMove_31 (by decide) ?_
  refine x_pick [] rfl ?_
  exact t_X7_isLoneMove_35 hls hC hl hE h
def f_X7_isLoneMove (S : mS) (a0 : Int32) : Option (Rs Int32) :=
  if a0 = (112 : Int32) then (f_X7_isLoneMove_30  S) else (if a0 = (115 : Int32) then (f_X7_isLoneMove_30  S) else (if a0 = (98 : Int32) then (f_X7_isLoneMove_30  S) else (if a0 = (120 : Int32) then (f_X7_isLoneMove_30  S) else (if a0 = (107 : Int32) then (f_X7_isLoneMove_30  S) else (f_X7_isLoneMove_35  S (0 : Int32))))))
set_option maxHeartbeats 2000000 in
set_option maxRecDepth 100000 in
theorem t_X7_isLoneMove {l : Launch} (hls : l.stackTraces = false) {C : cT} (hC : CX C cX7_isLoneMove 1 yX7_isLoneMove rm_X7_isLoneMove) (hl : C.2.1 = l) {S0 : mS} (hE : CE C S0 (Option.some Jvm.ClassFile.FieldType.boolean) []) {o : Rs Int32} {S : mS} {a0 : Int32} (h : f_X7_isLoneMove S a0 = some o) : XX C 1 (QQ C (fun r : Int32 => some (.int r)) S0 o) 0 0 S 0 [(0, .int a0)] [] := by
  unfold f_X7_isLoneMove at h
  refine x_iload_n (pc := 0) hC 0 dX7_isLoneMove_0 rfl rfl ?_
  refine x_bipush (pc := 1) (v := (112 : Int32)) hC dX7_isLoneMove_1 (by decide) ?_
  refine x_icmp_eq (pc := 3) hC 30 dX7_isLoneMove_3 (by decide) (fun c5 => ?_) (fun c5 => ?_)
  · rw [if_pos c5] at h
    refine x_pick [] rfl ?_
    exact t_X7_isLoneMove_30 hls hC hl hE h
  · rw [if_neg c5] at h
    refine x_iload_n (pc := 6) hC 0 dX7_isLoneMove_6 rfl rfl ?_
    refine x_bipush (pc := 7) (v := (115 : Int32)) hC dX7_isLoneMove_7 (by decide) ?_
    refine x_icmp_eq (pc := 9) hC 30 dX7_isLoneMove_9 (by decide) (fun c4 => ?_) (fun c4 => ?_)
    · rw [if_pos c4] at h
      refine x_pick [] rfl ?_
      exact t_X7_isLoneMove_30 hls hC hl hE h
    · rw [if_neg c4] at h
      refine x_iload_n (pc := 12) hC 0 dX7_isLoneMove_12 rfl rfl ?_
      refine x_bipush (pc := 13) (v := (98 : Int32)) hC dX7_isLoneMove_13 (by decide) ?_
      refine x_icmp_eq (pc := 15) hC 30 dX7_isLoneMove_15 (by decide) (fun c3 => ?_) (fun c3 => ?_)
      · rw [if_pos c3] at h
        refine x_pick [] rfl ?_
        exact t_X7_isLoneMove_30 hls hC hl hE h
      · rw [if_neg c3] at h
        refine x_iload_n (pc := 18) hC 0 dX7_isLoneMove_18 rfl rfl ?_
        refine x_bipush (pc := 19) (v := (120 : Int32)) hC dX7_isLoneMove_19 (by decide) ?_
        refine x_icmp_eq (pc := 21) hC 30 dX7_isLoneMove_21 (by decide) (fun c2 => ?_) (fun c2 => ?_)
        · rw [if_pos c2] at h
          refine x_pick [] rfl ?_
          exact t_X7_isLoneMove_30 hls hC hl hE h
        · rw [if_neg c2] at h
          refine x_iload_n (pc := 24) hC 0 dX7_isLoneMove_24 rfl rfl ?_
          refine x_bipush (pc := 25) (v := (107 : Int32)) hC dX7_isLoneMove_25 (by decide) ?_
          refine x_icmp_ne (pc := 27) hC 34 dX7_isLoneMove_27 (by decide) (fun c1 => ?_) (fun c1 => ?_)
          · rw [if_neg c1] at h
            refine x_iconst (pc := 34) (v := (0 : Int32)) hC dX7_isLoneMove_34 (by decide) ?_
            refine x_pick [] rfl ?_
            exact t_X7_isLoneMove_35 hls hC hl hE h
          · rw [if_pos c1] at h
            refine x_pick [] rfl ?_
            exact t_X7_isLoneMove_30 hls hC hl hE h
theorem c_X7_isLoneMove (l : Launch) (hls : l.stackTraces = false) {S : mS} {a0 : Int32} {o : Rs Int32} (h : f_X7_isLoneMove S a0 = some o) : CT (fun r : Int32 => some (.int r)) l yX7_isLoneMove (.code yX7_isLoneMove cX7_isLoneMove 1 (Option.some Jvm.ClassFile.FieldType.boolean)) rm_X7_isLoneMove S [.int a0] o := ct_of (by decide +kernel) hls (Nat.le_of_ble_eq_true rfl) (fun C hl hC hE => t_X7_isLoneMove hls hC hl hE h)
abbrev rm_X7_mostAfter : Room := { frames := 8, cells := 0, slots := 0, locals := 150 }
def f_X7_mostAfter_65  (S : mS) : Option (Rs Int32) :=
  some (.inl (9 : Int32), S)
set_option maxHeartbeats 2000000 in
set_option maxRecDepth 100000 in
theorem t_X7_mostAfter_65 {l : Launch} (hls : l.stackTraces = false) {C : cT} (hC : CX C cX7_mostAfter 1 yX7_mostAfter rm_X7_mostAfter) (hl : C.2.1 = l) {S0 : mS} (hE : CE C S0 (Option.some Jvm.ClassFile.FieldType.int) []) {o : Rs Int32} {S : mS} (h : f_X7_mostAfter_65  S = some o) : XX C 1 (QQ C (fun r : Int32 => some (.int r)) S0 o) (0) (0) S 65 [] [] := by
  unfold f_X7_mostAfter_65 at h
  refine x_bipush (pc := 65) (v := (9 : Int32)) hC dX7_mostAfter_65 (by decide) ?_
  exact x_ireturn (pc := 67) hC hE dX7_mostAfter_67 (so h) (Nat.le_of_ble_eq_true rfl) (Nat.le_of_ble_eq_true rfl)
def f_X7_mostAfter_60  (S : mS) : Option (Rs Int32) :=
  some (.inl (3 : Int32), S)
set_option maxHeartbeats 2000000 in
set_option maxRecDepth 100000 in
theorem t_X7_mostAfter_60 {l : Launch} (hls : l.stackTraces = false) {C : cT} (hC : CX C cX7_mostAfter 1 yX7_mostAfter rm_X7_mostAfter) (hl : C.2.1 = l) {S0 : mS} (hE : CE C S0 (Option.some Jvm.ClassFile.FieldType.int) []) {o : Rs Int32} {S : mS} (h : f_X7_mostAfter_60  S = some o) : XX C 1 (QQ C (fun r : Int32 => some (.int r)) S0 o) (0) (0) S 60 [] [] := by
  unfold f_X7_mostAfter_60 at h
  refine x_iconst (pc := 60) (v := (3 : Int32)) hC dX7_mostAfter_60 (by decide) ?_
  exact x_ireturn (pc := 61) hC hE dX7_mostAfter_61 (so h) (Nat.le_of_ble_eq_true rfl) (Nat.le_of_ble_eq_true rfl)
def f_X7_mostAfter_62  (S : mS) : Option (Rs Int32) :=
  some (.inl (6 : Int32), S)
set_option maxHeartbeats 2000000 in
set_option maxRecDepth 100000 in
theorem t_X7_mostAfter_62 {l : Launch} (hls : l.stackTraces = false) {C : cT} (hC : CX C cX7_mostAfter 1 yX7_mostAfter rm_X7_mostAfter) (hl : C.2.1 = l) {S0 : mS} (hE : CE C S0 (Option.some Jvm.ClassFile.FieldType.int) []) {o : Rs Int32} {S : mS} (h : f_X7_mostAfter_62  S = some o) : XX C 1 (QQ C (fun r : Int32 => some (.int r)) S0 o) (0) (0) S 62 [] [] := by
  unfold f_X7_mostAfter_62 at h
  refine x_bipush (pc := 62) (v := (6 : Int32)) hC dX7_mostAfter_62 (by decide) ?_
  exact x_ireturn (pc := 64) hC hE dX7_mostAfter_64 (so h) (Nat.le_of_ble_eq_true rfl) (Nat.le_of_ble_eq_true rfl)
def f_X7_mostAfter_68  (S : mS) : Option (Rs Int32) :=
  some (.inl (-1 : Int32), S)
set_option maxHeartbeats 2000000 in
set_option maxRecDepth 100000 in
theorem t_X7_mostAfter_68 {l : Launch} (hls : l.stackTraces = false) {C : cT} (hC : CX C cX7_mostAfter 1 yX7_mostAfter rm_X7_mostAfter) (hl : C.2.1 = l) {S0 : mS} (hE : CE C S0 (Option.some Jvm.ClassFile.FieldType.int) []) {o : Rs Int32} {S : mS} (h : f_X7_mostAfter_68  S = some o) : XX C 1 (QQ C (fun r : Int32 => some (.int r)) S0 o) (0) (0) S 68 [] [] := by
  unfold f_X7_mostAfter_68 at h
  refine x_iconst (pc := 68) (v := (-1 : Int32)) hC dX7_mostAfter_68 (by decide) ?_
  exact x_ireturn (pc := 69) hC hE dX7_mostAfter_69 (so h) (Nat.le_of_ble_eq_true rfl) (Nat.le_of_ble_eq_true rfl)
def f_X7_mostAfter (S : mS) (a0 : Int32) : Option (Rs Int32) :=
  if a0 = (43 : Int32) then (f_X7_mostAfter_65  S) else if a0 = (45 : Int32) then (f_X7_mostAfter_65  S) else if a0 = (99 : Int32) then (f_X7_mostAfter_60  S) else if a0 = (102 : Int32) then (f_X7_mostAfter_65  S) else if a0 = (108 : Int32) then (f_X7_mostAfter_62  S) else if a0 = (109 : Int32) then (f_X7_mostAfter_60  S) else (f_X7_mostAfter_68  S)
set_option maxHeartbeats 2000000 in
set_option maxRecDepth 100000 in
theorem t_X7_mostAfter {l : Launch} (hls : l.stackTraces = false) {C : cT} (hC : CX C cX7_mostAfter 1 yX7_mostAfter rm_X7_mostAfter) (hl : C.2.1 = l) {S0 : mS} (hE : CE C S0 (Option.some Jvm.ClassFile.FieldType.int) []) {o : Rs Int32} {S : mS} {a0 : Int32} (h : f_X7_mostAfter S a0 = some o) : XX C 1 (QQ C (fun r : Int32 => some (.int r)) S0 o) 0 0 S 0 [(0, .int a0)] [] := by
  unfold f_X7_mostAfter at h
  refine x_iload_n (pc := 0) hC 0 dX7_mostAfter_0 rfl rfl ?_
  by_cases c1 : a0 = (43 : Int32)
  · rw [if_pos c1] at h
    rw [c1]
    refine x_lookup (pc := 1) (off := 64) hC 65 dX7_mostAfter_1 (by decide) (by decide) (by decide) ?_
    refine x_pick [] rfl ?_
    exact t_X7_mostAfter_65 hls hC hl hE h
  rw [if_neg c1] at h
  by_cases c2 : a0 = (45 : Int32)
  · rw [if_pos c2] at h
    rw [c2]
    refine x_lookup (pc := 1) (off := 64) hC 65 dX7_mostAfter_1 (by decide) (by decide) (by decide) ?_
    refine x_pick [] rfl ?_
    exact t_X7_mostAfter_65 hls hC hl hE h
  rw [if_neg c2] at h
  by_cases c3 : a0 = (99 : Int32)
  · rw [if_pos c3] at h
    rw [c3]
    refine x_lookup (pc := 1) (off := 59) hC 60 dX7_mostAfter_1 (by decide) (by decide) (by decide) ?_
    refine x_pick [] rfl ?_
    exact t_X7_mostAfter_60 hls hC hl hE h
  rw [if_neg c3] at h
  by_cases c4 : a0 = (102 : Int32)
  · rw [if_pos c4] at h
    rw [c4]
    refine x_lookup (pc := 1) (off := 64) hC 65 dX7_mostAfter_1 (by decide) (by decide) (by decide) ?_
    refine x_pick [] rfl ?_
    exact t_X7_mostAfter_65 hls hC hl hE h
  rw [if_neg c4] at h
  by_cases c5 : a0 = (108 : Int32)
  · rw [if_pos c5] at h
    rw [c5]
    refine x_lookup (pc := 1) (off := 61) hC 62 dX7_mostAfter_1 (by decide) (by decide) (by decide) ?_
    refine x_pick [] rfl ?_
    exact t_X7_mostAfter_62 hls hC hl hE h
  rw [if_neg c5] at h
  by_cases c6 : a0 = (109 : Int32)
  · rw [if_pos c6] at h
    rw [c6]
    refine x_lookup (pc := 1) (off := 59) hC 60 dX7_mostAfter_1 (by decide) (by decide) (by decide) ?_
    refine x_pick [] rfl ?_
    exact t_X7_mostAfter_60 hls hC hl hE h
  rw [if_neg c6] at h
  refine x_lookup (pc := 1) (off := 67) hC 68 dX7_mostAfter_1 (by decide) (by show Op.lookupswitch.offset _ _ _ = _; rw [lv_osw c1 (by decide), lv_osw c2 (by decide), lv_osw c3 (by decide), lv_osw c4 (by decide), lv_osw c5 (by decide), lv_osw c6 (by decide)]; rfl) (by decide) ?_
  refine x_pick [] rfl ?_
  exact t_X7_mostAfter_68 hls hC hl hE h
theorem c_X7_mostAfter (l : Launch) (hls : l.stackTraces = false) {S : mS} {a0 : Int32} {o : Rs Int32} (h : f_X7_mostAfter S a0 = some o) : CT (fun r : Int32 => some (.int r)) l yX7_mostAfter (.code yX7_mostAfter cX7_mostAfter 1 (Option.some Jvm.ClassFile.FieldType.int)) rm_X7_mostAfter S [.int a0] o := ct_of (by decide +kernel) hls (Nat.le_of_ble_eq_true rfl) (fun C hl hC hE => t_X7_mostAfter hls hC hl hE h)
abbrev rm_X7_firstFault : Room := { frames := 9, cells := 0, slots := 0, locals := 170 }
def f_X7_firstFault_150  (S : mS) (s0 : Int32) : Option (Rs Int32) :=
  some (.inl s0, S)
set_option maxHeartbeats 2000000 in
set_option maxRecDepth 100000 in
theorem t_X7_firstFault_150 {l : Launch} (hls : l.stackTraces = false) {C : cT} (hC : CX C cX7_firstFault 6 yX7_firstFault rm_X7_firstFault) (hl : C.2.1 = l) {S0 : mS} (hE : CE C S0 (Option.some Jvm.ClassFile.FieldType.int) []) {o : Rs Int32} {S : mS} {s0 : Int32} (h : f_X7_firstFault_150  S s0 = some o) : XX C 6 (QQ C (fun r : Int32 => some (.int r)) S0 o) (0) (0) S 150 [] [.int s0] := by
  unfold f_X7_firstFault_150 at h
  exact x_ireturn (pc := 150) hC hE dX7_firstFault_150 (so h) (Nat.le_of_ble_eq_true rfl) (Nat.le_of_ble_eq_true rfl)
def f_X7_firstFault_138  (S : mS) (a0 : Nat) : Option (Rs Int32) :=
  gd (gK S a0 = 13) (lt9 (gI S a0 4) fun x2 => if x2 = 0 then (f_X7_firstFault_150  S (0 : Int32)) else (f_X7_firstFault_150  S (-1 : Int32)))
set_option maxHeartbeats 2000000 in
set_option maxRecDepth 100000 in
theorem t_X7_firstFault_138 {l : Launch} (hls : l.stackTraces = false) {C : cT} (hC : CX C cX7_firstFault 6 yX7_firstFault rm_X7_firstFault) (hl : C.2.1 = l) {S0 : mS} (hE : CE C S0 (Option.some Jvm.ClassFile.FieldType.int) []) {o : Rs Int32} {S : mS} {a0 : Nat} (h : f_X7_firstFault_138  S a0 = some o) : XX C 6 (QQ C (fun r : Int32 => some (.int r)) S0 o) (0) (0) S 138 [(0, .ref a0)] [] := by
  unfold f_X7_firstFault_138 at h
  refine x_aload_n (pc := 138) hC 0 dX7_firstFault_138 rfl rfl ?_
  obtain ⟨g1, h⟩ := gd_some h
  refine x_getIv (pc := 139) (k := 4) hC fc_13 fl_RX7_31 dX7_firstFault_139 rfl g1 (fun x2 hx2 => ?_)
  replace h := lt_x hx2 h
  refine x_if_ne (pc := 142) hC 149 dX7_firstFault_142 (by decide) (fun c3 => ?_) (fun c3 => ?_)
  · rw [if_neg c3] at h
    refine x_iconst (pc := 149) (v := (-1 : Int32)) hC dX7_firstFault_149 (by decide) ?_
    refine x_pick [] rfl ?_
    exact t_X7_firstFault_150 hls hC hl hE h
  · rw [if_pos c3] at h
    refine x_iconst (pc := 145) (v := (0 : Int32)) hC dX7_firstFault_145 (by decide) ?_
    refine x_goto (pc := 146) hC 150 dX7_firstFault_146 (by decide) ?_
    refine x_pick [] rfl ?_
    exact t_X7_firstFault_150 hls hC hl hE h
def f_X7_firstFault_132 (rc4 : mS → Nat → Int32 → Int32 → Option (Rs Int32)) (S : mS) (a0 : Nat) (a1 : Int32) (a2 : Int32) : Option (Rs Int32) :=
  lt9 (a2 + Int32.ofInt (1)) fun x1 => rc4 S a0 a1 x1
set_option maxHeartbeats 2000000 in
set_option maxRecDepth 100000 in
theorem t_X7_firstFault_132 {l : Launch} (hls : l.stackTraces = false) {C : cT} (hC : CX C cX7_firstFault 6 yX7_firstFault rm_X7_firstFault) (hl : C.2.1 = l) {S0 : mS} (hE : CE C S0 (Option.some Jvm.ClassFile.FieldType.int) []) {o : Rs Int32} {rc4 : mS → Nat → Int32 → Int32 → Option (Rs Int32)} (hrc4 : ∀ (S : mS) (a0 : Nat) (a1 : Int32) (a2 : Int32), rc4 S a0 a1 a2 = some o → XX C 6 (QQ C (fun r : Int32 => some (.int r)) S0 o) (0) (0) S 4 [(0, .ref a0), (1, .int a1), (2, .int a2)] []) {S : mS} {a0 : Nat} {a1 : Int32} {a2 : Int32} (h : f_X7_firstFault_132 rc4 S a0 a1 a2 = some o) : XX C 6 (QQ C (fun r : Int32 => some (.int r)) S0 o) (0) (0) S 132 [(0, .ref a0), (1, .int a1), (2, .int a2)] [] := by
  unfold f_X7_firstFault_132 at h
  obtain ⟨x1, hx1⟩ : ∃ z, z = (a2 + Int32.ofInt (1)) := ⟨_, rfl⟩
  replace h := lt_x hx1 h
  refine x_iinc (pc := 132) hC 2 dX7_firstFault_132 rfl hx1.symm (by decide) (by decide) rfl ?_
  refine x_goto (pc := 135) hC 4 dX7_firstFault_135 (by decide) ?_
  refine x_pick [1, 2, 0] rfl ?_
  exact hrc4 _ _ _ _ h
def f_X7_firstFault_130  (S : mS) (a2 : Int32) : Option (Rs Int32) :=
  some (.inl a2, S)
set_option maxHeartbeats 2000000 in
set_option maxRecDepth 100000 in
theorem t_X7_firstFault_130 {l : Launch} (hls : l.stackTraces = false) {C : cT} (hC : CX C cX7_firstFault 6 yX7_firstFault rm_X7_firstFault) (hl : C.2.1 = l) {S0 : mS} (hE : CE C S0 (Option.some Jvm.ClassFile.FieldType.int) []) {o : Rs Int32} {S : mS} {a2 : Int32} (h : f_X7_firstFault_130  S a2 = some o) : XX C 6 (QQ C (fun r : Int32 => some (.int r)) S0 o) (0) (0) S 130 [(2, .int a2)] [] := by
  unfold f_X7_firstFault_130 at h
  refine x_iload_n (pc := 130) hC 0 dX7_firstFault_130 rfl rfl ?_
  exact x_ireturn (pc := 131) hC hE dX7_firstFault_131 (so h) (Nat.le_of_ble_eq_true rfl) (Nat.le_of_ble_eq_true rfl)
def f_X7_firstFault_76 (rc4 : mS → Nat → Int32 → Int32 → Option (Rs Int32)) (S : mS) (a0 : Nat) (a2 : Int32) (a3 : Int32) (a5 : Int32) : Option (Rs Int32) :=
  if a5 = 0 then (f_X7_firstFault_132 (rc4) S a0 (1 : Int32) a2) else (lt9 (a2 + Int32.ofInt (1)) fun x1 => gd (gK S a0 = 13) (lt9 (gI S a0 4) fun x3 => if x3 ≤ x1 then (f_X7_firstFault_130  S x1) else (lt9 (gR S a0 0) fun r4 => gd (gK S r4 = 31) (lt9 (Int32.ofNat (gZ S r4)) fun x6 => if x6 ≤ x1 then (f_X7_firstFault_130  S x1) else (lt9 (gR S a0 0) fun r7 => gd (gK S r7 = 31) (gd (¬ (x1 < 0 ∨ gZ S r7 ≤ (x1).toNatClampNeg)) (lt9 (gI S r7 (x1).toNatClampNeg) fun x11 => if x11 < (48 : Int32) then (f_X7_firstFault_130  S x1) else (lt9 (gR S a0 0) fun r12 => gd (gK S r12 = 31) (gd (¬ (x1 < 0 ∨ gZ S r12 ≤ (x1).toNatClampNeg)) (lt9 (gI S r12 (x1).toNatClampNeg) fun x16 => bd (f_X7_mostAfter S a3) fun x17 S18 => lt9 ((48 : Int32) + x17) fun x21 => if x16 ≤ x21 then (f_X7_firstFault_132 (rc4) S18 a0 (1 : Int32) x1) else (f_X7_firstFault_130  S18 x1)))))))))))
set_option maxHeartbeats 2000000 in
set_option maxRecDepth 100000 in
theorem t_X7_firstFault_76 {l : Launch} (hls : l.stackTraces = false) {C : cT} (hC : CX C cX7_firstFault 6 yX7_firstFault rm_X7_firstFault) (hl : C.2.1 = l) {S0 : mS} (hE : CE C S0 (Option.some Jvm.ClassFile.FieldType.int) []) {o : Rs Int32} {rc4 : mS → Nat → Int32 → Int32 → Option (Rs Int32)} (hrc4 : ∀ (S : mS) (a0 : Nat) (a1 : Int32) (a2 : Int32), rc4 S a0 a1 a2 = some o → XX C 6 (QQ C (fun r : Int32 => some (.int r)) S0 o) (0) (0) S 4 [(0, .ref a0), (1, .int a1), (2, .int a2)] []) {S : mS} {a0 : Nat} {a2 : Int32} {a3 : Int32} {a5 : Int32} (h : f_X7_firstFault_76 rc4 S a0 a2 a3 a5 = some o) : XX C 6 (QQ C (fun r : Int32 => some (.int r)) S0 o) (0) (0) S 76 [(0, .ref a0), (2, .int a2), (3, .int a3), (5, .int a5)] [] := by
  unfold f_X7_firstFault_76 at h
  refine x_iconst (pc := 76) (v := (1 : Int32)) hC dX7_firstFault_76 (by decide) ?_
  refine x_istore_n (pc := 77) hC dX7_firstFault_77 rfl (by decide) (by decide) rfl ?_
  refine x_iload (pc := 78) hC 4 dX7_firstFault_78 rfl ?_
  refine x_if_eq (pc := 80) hC 132 dX7_firstFault_80 (by decide) (fun c26 => ?_) (fun c26 => ?_)
  · rw [if_pos c26] at h
    refine x_pick [1, 0, 2] rfl ?_
    exact t_X7_firstFault_132 hls hC hl hE hrc4 h
  · rw [if_neg c26] at h
    obtain ⟨x1, hx1⟩ : ∃ z, z = (a2 + Int32.ofInt (1)) := ⟨_, rfl⟩
    replace h := lt_x hx1 h
    refine x_iinc (pc := 83) hC 2 dX7_firstFault_83 rfl hx1.symm (by decide) (by decide) rfl ?_
    refine x_iload_n (pc := 86) hC 0 dX7_firstFault_86 rfl rfl ?_
    refine x_aload_n (pc := 87) hC 2 dX7_firstFault_87 rfl rfl ?_
    obtain ⟨g2, h⟩ := gd_some h
    refine x_getIv (pc := 88) (k := 4) hC fc_13 fl_RX7_31 dX7_firstFault_88 rfl g2 (fun x3 hx3 => ?_)
    replace h := lt_x hx3 h
    refine x_icmp_ge (pc := 91) hC 130 dX7_firstFault_91 (by decide) (fun c25 => ?_) (fun c25 => ?_)
    · rw [if_pos c25] at h
      refine x_pick [0] rfl ?_
      exact t_X7_firstFault_130 hls hC hl hE h
    · rw [if_neg c25] at h
      refine x_iload_n (pc := 94) hC 0 dX7_firstFault_94 rfl rfl ?_
      refine x_aload_n (pc := 95) hC 2 dX7_firstFault_95 rfl rfl ?_
      refine x_getRv (pc := 96) (k := 0) hC fc_13 fl_RX7_9 dX7_firstFault_96 rfl g2 (fun r4 hr4 => ?_)
      replace h := lt_x hr4 h
      obtain ⟨g5, h⟩ := gd_some h
      refine x_alenv (pc := 99) (t0 := 1) hC dX7_firstFault_99 g5 (by decide) (fun _ => rfl) (fun x6 hx6 => ?_)
      replace h := lt_x hx6 h
      refine x_icmp_ge (pc := 100) hC 130 dX7_firstFault_100 (by decide) (fun c24 => ?_) (fun c24 => ?_)
      · rw [if_pos c24] at h
        refine x_pick [0] rfl ?_
        exact t_X7_firstFault_130 hls hC hl hE h
      · rw [if_neg c24] at h
        refine x_aload_n (pc := 103) hC 2 dX7_firstFault_103 rfl rfl ?_
        refine x_getRv (pc := 104) (k := 0) hC fc_13 fl_RX7_9 dX7_firstFault_104 rfl g2 (fun r7 hr7 => ?_)
        replace h := lt_x hr7 h
        refine x_iload_n (pc := 107) hC 0 dX7_firstFault_107 rfl rfl ?_
        obtain ⟨g10, h⟩ := gd_some h
        obtain ⟨g9, h⟩ := gd_some h
        refine x_caldv (pc := 108) hC dX7_firstFault_108 g10 g9 (fun x11 hx11 => ?_)
        replace h := lt_x hx11 h
        refine x_bipush (pc := 109) (v := (48 : Int32)) hC dX7_firstFault_109 (by decide) ?_
        refine x_icmp_lt (pc := 111) hC 130 dX7_firstFault_111 (by decide) (fun c23 => ?_) (fun c23 => ?_)
        · rw [if_pos c23] at h
          refine x_pick [0] rfl ?_
          exact t_X7_firstFault_130 hls hC hl hE h
        · rw [if_neg c23] at h
          refine x_aload_n (pc := 114) hC 2 dX7_firstFault_114 rfl rfl ?_
          refine x_getRv (pc := 115) (k := 0) hC fc_13 fl_RX7_9 dX7_firstFault_115 rfl g2 (fun r12 hr12 => ?_)
          replace h := lt_x hr12 h
          refine x_iload_n (pc := 118) hC 0 dX7_firstFault_118 rfl rfl ?_
          obtain ⟨g15, h⟩ := gd_some h
          obtain ⟨g14, h⟩ := gd_some h
          refine x_caldv (pc := 119) hC dX7_firstFault_119 g15 g14 (fun x16 hx16 => ?_)
          replace h := lt_x hx16 h
          refine x_bipush (pc := 120) (v := (48 : Int32)) hC dX7_firstFault_120 (by decide) ?_
          refine x_iload_n (pc := 122) hC 3 dX7_firstFault_122 rfl rfl ?_
          obtain ⟨o19, ho19, h⟩ := bd_some h
          refine x_callS (pc := 123) (As := [.int a3]) (rest := [.int (48 : Int32), .int x16]) hC hl (c_X7_mostAfter l hls ho19) lk_RX7_50 dX7_firstFault_123 rfl rfl (Nat.le_of_ble_eq_true rfl) ⟨Nat.le_of_ble_eq_true rfl, Nat.le_of_ble_eq_true rfl⟩ ⟨(Nat.le_of_ble_eq_true rfl), (Nat.le_of_ble_eq_true rfl)⟩ ?_
          rcases o19 with ⟨x17 | E20, S18⟩
          · refine xk_i ?_
            replace h := bk_l h
            refine x_iaddv (pc := 126) hC dX7_firstFault_126 (fun x21 hx21 => ?_)
            replace h := lt_x hx21 h
            refine x_icmp_le (pc := 127) hC 132 dX7_firstFault_127 (by decide) (fun c22 => ?_) (fun c22 => ?_)
            · rw [if_pos c22] at h
              refine x_pick [2, 1, 0] rfl ?_
              exact t_X7_firstFault_132 hls hC hl hE hrc4 h
            · rw [if_neg c22] at h
              refine x_pick [0] rfl ?_
              exact t_X7_firstFault_130 hls hC hl hE h
          · exact xk_r (xt_out hC hE (bk_r h) (Nat.le_of_ble_eq_true rfl) (Nat.le_of_ble_eq_true rfl))
def f_X7_firstFault_74  (S : mS) (a2 : Int32) : Option (Rs Int32) :=
  some (.inl a2, S)
set_option maxHeartbeats 2000000 in
set_option maxRecDepth 100000 in
theorem t_X7_firstFault_74 {l : Launch} (hls : l.stackTraces = false) {C : cT} (hC : CX C cX7_firstFault 6 yX7_firstFault rm_X7_firstFault) (hl : C.2.1 = l) {S0 : mS} (hE : CE C S0 (Option.some Jvm.ClassFile.FieldType.int) []) {o : Rs Int32} {S : mS} {a2 : Int32} (h : f_X7_firstFault_74  S a2 = some o) : XX C 6 (QQ C (fun r : Int32 => some (.int r)) S0 o) (0) (0) S 74 [(2, .int a2)] [] := by
  unfold f_X7_firstFault_74 at h
  refine x_iload_n (pc := 74) hC 0 dX7_firstFault_74 rfl rfl ?_
  exact x_ireturn (pc := 75) hC hE dX7_firstFault_75 (so h) (Nat.le_of_ble_eq_true rfl) (Nat.le_of_ble_eq_true rfl)
def f_X7_firstFault_51 (rc4 : mS → Nat → Int32 → Int32 → Option (Rs Int32)) (S : mS) (a0 : Nat) (a1 : Int32) (a2 : Int32) (a3 : Int32) (a4 : Int32) (s0 : Int32) : Option (Rs Int32) :=
  if a4 = 0 then (if s0 = 0 then (if a1 = 0 then (f_X7_firstFault_74  S a2) else (bd (f_X7_isLoneMove S a3) fun x1 S2 => if x1 = 0 then (f_X7_firstFault_74  S2 a2) else (f_X7_firstFault_76 (rc4) S2 a0 a2 a3 s0))) else (f_X7_firstFault_76 (rc4) S a0 a2 a3 s0)) else (f_X7_firstFault_76 (rc4) S a0 a2 a3 s0)
set_option maxHeartbeats 2000000 in
set_option maxRecDepth 100000 in
theorem t_X7_firstFault_51 {l : Launch} (hls : l.stackTraces = false) {C : cT} (hC : CX C cX7_firstFault 6 yX7_firstFault rm_X7_firstFault) (hl : C.2.1 = l) {S0 : mS} (hE : CE C S0 (Option.some Jvm.ClassFile.FieldType.int) []) {o : Rs Int32} {rc4 : mS → Nat → Int32 → Int32 → Option (Rs Int32)} (hrc4 : ∀ (S : mS) (a0 : Nat) (a1 : Int32) (a2 : Int32), rc4 S a0 a1 a2 = some o → XX C 6 (QQ C (fun r : Int32 => some (.int r)) S0 o) (0) (0) S 4 [(0, .ref a0), (1, .int a1), (2, .int a2)] []) {S : mS} {a0 : Nat} {a1 : Int32} {a2 : Int32} {a3 : Int32} {a4 : Int32} {s0 : Int32} (h : f_X7_firstFault_51 rc4 S a0 a1 a2 a3 a4 s0 = some o) : XX C 6 (QQ C (fun r : Int32 => some (.int r)) S0 o) (0) (0) S 51 [(0, .ref a0), (1, .int a1), (2, .int a2), (3, .int a3), (4, .int a4)] [.int s0] := by
  unfold f_X7_firstFault_51 at h
  refine x_istore (pc := 51) hC dX7_firstFault_51 (by decide) (by decide) rfl ?_
  refine x_iload (pc := 53) hC 5 dX7_firstFault_53 rfl ?_
  refine x_if_ne (pc := 55) hC 76 dX7_firstFault_55 (by decide) (fun c8 => ?_) (fun c8 => ?_)
  · rw [if_neg c8] at h
    refine x_pick [1, 3, 4, 0] rfl ?_
    exact t_X7_firstFault_76 hls hC hl hE hrc4 h
  · rw [if_pos c8] at h
    refine x_iload (pc := 58) hC 0 dX7_firstFault_58 rfl ?_
    refine x_if_ne (pc := 60) hC 76 dX7_firstFault_60 (by decide) (fun c7 => ?_) (fun c7 => ?_)
    · rw [if_neg c7] at h
      refine x_pick [1, 3, 4, 0] rfl ?_
      exact t_X7_firstFault_76 hls hC hl hE hrc4 h
    · rw [if_pos c7] at h
      refine x_iload_n (pc := 63) hC 2 dX7_firstFault_63 rfl rfl ?_
      refine x_if_eq (pc := 64) hC 74 dX7_firstFault_64 (by decide) (fun c6 => ?_) (fun c6 => ?_)
      · rw [if_pos c6] at h
        refine x_pick [3] rfl ?_
        exact t_X7_firstFault_74 hls hC hl hE h
      · rw [if_neg c6] at h
        refine x_iload_n (pc := 67) hC 4 dX7_firstFault_67 rfl rfl ?_
        obtain ⟨o3, ho3, h⟩ := bd_some h
        refine x_callS (pc := 68) (As := [.int a3]) (rest := []) hC hl (c_X7_isLoneMove l hls ho3) lk_RX7_54 dX7_firstFault_68 rfl rfl (Nat.le_of_ble_eq_true rfl) ⟨Nat.le_of_ble_eq_true rfl, Nat.le_of_ble_eq_true rfl⟩ ⟨(Nat.le_of_ble_eq_true rfl), (Nat.le_of_ble_eq_true rfl)⟩ ?_
        rcases o3 with ⟨x1 | E4, S2⟩
        · refine xk_i ?_
          replace h := bk_l h
          refine x_if_ne (pc := 71) hC 76 dX7_firstFault_71 (by decide) (fun c5 => ?_) (fun c5 => ?_)
          · rw [if_neg c5] at h
            refine x_pick [1, 3, 4, 0] rfl ?_
            exact t_X7_firstFault_76 hls hC hl hE hrc4 h
          · rw [if_pos c5] at h
            refine x_pick [3] rfl ?_
            exact t_X7_firstFault_74 hls hC hl hE h
        · exact xk_r (xt_out hC hE (bk_r h) (Nat.le_of_ble_eq_true rfl) (Nat.le_of_ble_eq_true rfl))
def f_X7_firstFault_50 (rc4 : mS → Nat → Int32 → Int32 → Option (Rs Int32)) (S : mS) (a0 : Nat) (a1 : Int32) (a2 : Int32) (a3 : Int32) (a4 : Int32) : Option (Rs Int32) :=
  f_X7_firstFault_51 (rc4) S a0 a1 a2 a3 a4 (0 : Int32)
set_option maxHeartbeats 2000000 in
set_option maxRecDepth 100000 in
theorem t_X7_firstFault_50 {l : Launch} (hls : l.stackTraces = false) {C : cT} (hC : CX C cX7_firstFault 6 yX7_firstFault rm_X7_firstFault) (hl : C.2.1 = l) {S0 : mS} (hE : CE C S0 (Option.some Jvm.ClassFile.FieldType.int) []) {o : Rs Int32} {rc4 : mS → Nat → Int32 → Int32 → Option (Rs Int32)} (hrc4 : ∀ (S : mS) (a0 : Nat) (a1 : Int32) (a2 : Int32), rc4 S a0 a1 a2 = some o → XX C 6 (QQ C (fun r : Int32 => some (.int r)) S0 o) (0) (0) S 4 [(0, .ref a0), (1, .int a1), (2, .int a2)] []) {S : mS} {a0 : Nat} {a1 : Int32} {a2 : Int32} {a3 : Int32} {a4 : Int32} (h : f_X7_firstFault_50 rc4 S a0 a1 a2 a3 a4 = some o) : XX C 6 (QQ C (fun r : Int32 => some (.int r)) S0 o) (0) (0) S 50 [(0, .ref a0), (1, .int a1), (2, .int a2), (3, .int a3), (4, .int a4)] [] := by
  unfold f_X7_firstFault_50 at h
  refine x_iconst (pc := 50) (v := (0 : Int32)) hC dX7_firstFault_50 (by decide) ?_
  refine x_pick [0, 1, 2, 3, 4] rfl ?_
  exact t_X7_firstFault_51 hls hC hl hE hrc4 h
def f_X7_firstFault_4  : Nat → mS → Nat → Int32 → Int32 → Option (Rs Int32)
  | 0, _, _, _, _ => none
  | k + 1, S, a0, a1, a2 => gd (gK S a0 = 13) (lt9 (gI S a0 4) fun x2 => if x2 ≤ a2 then (f_X7_firstFault_138  S a0) else (lt9 (gR S a0 0) fun r3 => gd (gK S r3 = 31) (lt9 (Int32.ofNat (gZ S r3)) fun x5 => if x5 ≤ a2 then (f_X7_firstFault_138  S a0) else (lt9 (gR S a0 0) fun r6 => gd (gK S r6 = 31) (gd (¬ (a2 < 0 ∨ gZ S r6 ≤ (a2).toNatClampNeg)) (lt9 (gI S r6 (a2).toNatClampNeg) fun x10 => bd (f_X7_isDeckLetter S x10) fun x11 S12 => if a1 = 0 then (f_X7_firstFault_50 (f_X7_firstFault_4 k) S12 a0 a1 a2 x10 x11) else (bd (f_X7_mostAfter S12 x10) fun x15 S16 => if x15 = (-1 : Int32) then (f_X7_firstFault_50 (f_X7_firstFault_4 k) S16 a0 a1 a2 x10 x11) else (f_X7_firstFault_51 (f_X7_firstFault_4 k) S16 a0 a1 a2 x10 x11 (1 : Int32)))))))))
set_option maxHeartbeats 2000000 in
set_option maxRecDepth 100000 in
theorem t_X7_firstFault_4 {l : Launch} (hls : l.stackTraces = false) {C : cT} (hC : CX C cX7_firstFault 6 yX7_firstFault rm_X7_firstFault) (hl : C.2.1 = l) {S0 : mS} (hE : CE C S0 (Option.some Jvm.ClassFile.FieldType.int) []) {o : Rs Int32} : ∀ (k : Nat) (S : mS) (a0 : Nat) (a1 : Int32) (a2 : Int32), f_X7_firstFault_4  k S a0 a1 a2 = some o → XX C 6 (QQ C (fun r : Int32 => some (.int r)) S0 o) (0) (0) S 4 [(0, .ref a0), (1, .int a1), (2, .int a2)] [] := by
  intro k
  induction k with
  | zero => intro S a0 a1 a2 h; cases h
  | succ k ih =>
    intro S a0 a1 a2 h
    unfold f_X7_firstFault_4 at h
    refine x_iload_n (pc := 4) hC 2 dX7_firstFault_4 rfl rfl ?_
    refine x_aload_n (pc := 5) hC 0 dX7_firstFault_5 rfl rfl ?_
    obtain ⟨g1, h⟩ := gd_some h
    refine x_getIv (pc := 6) (k := 4) hC fc_13 fl_RX7_31 dX7_firstFault_6 rfl g1 (fun x2 hx2 => ?_)
    replace h := lt_x hx2 h
    refine x_icmp_ge (pc := 9) hC 138 dX7_firstFault_9 (by decide) (fun c22 => ?_) (fun c22 => ?_)
    · rw [if_pos c22] at h
      refine x_pick [0] rfl ?_
      exact t_X7_firstFault_138 hls hC hl hE h
    · rw [if_neg c22] at h
      refine x_iload_n (pc := 12) hC 2 dX7_firstFault_12 rfl rfl ?_
      refine x_aload_n (pc := 13) hC 0 dX7_firstFault_13 rfl rfl ?_
      refine x_getRv (pc := 14) (k := 0) hC fc_13 fl_RX7_9 dX7_firstFault_14 rfl g1 (fun r3 hr3 => ?_)
      replace h := lt_x hr3 h
      obtain ⟨g4, h⟩ := gd_some h
      refine x_alenv (pc := 17) (t0 := 1) hC dX7_firstFault_17 g4 (by decide) (fun _ => rfl) (fun x5 hx5 => ?_)
      replace h := lt_x hx5 h
      refine x_icmp_ge (pc := 18) hC 138 dX7_firstFault_18 (by decide) (fun c21 => ?_) (fun c21 => ?_)
      · rw [if_pos c21] at h
        refine x_pick [0] rfl ?_
        exact t_X7_firstFault_138 hls hC hl hE h
      · rw [if_neg c21] at h
        refine x_aload_n (pc := 21) hC 0 dX7_firstFault_21 rfl rfl ?_
        refine x_getRv (pc := 22) (k := 0) hC fc_13 fl_RX7_9 dX7_firstFault_22 rfl g1 (fun r6 hr6 => ?_)
        replace h := lt_x hr6 h
        refine x_iload_n (pc := 25) hC 2 dX7_firstFault_25 rfl rfl ?_
        obtain ⟨g9, h⟩ := gd_some h
        obtain ⟨g8, h⟩ := gd_some h
        refine x_caldv (pc := 26) hC dX7_firstFault_26 g9 g8 (fun x10 hx10 => ?_)
        replace h := lt_x hx10 h
        refine x_istore_n (pc := 27) hC dX7_firstFault_27 rfl (by decide) (by decide) rfl ?_
        refine x_iload_n (pc := 28) hC 0 dX7_firstFault_28 rfl rfl ?_
        obtain ⟨o13, ho13, h⟩ := bd_some h
        refine x_callS (pc := 29) (As := [.int x10]) (rest := []) hC hl (c_X7_isDeckLetter l hls ho13) lk_RX7_46 dX7_firstFault_29 rfl rfl (Nat.le_of_ble_eq_true rfl) ⟨Nat.le_of_ble_eq_true rfl, Nat.le_of_ble_eq_true rfl⟩ ⟨(Nat.le_of_ble_eq_true rfl), (Nat.le_of_ble_eq_true rfl)⟩ ?_
        rcases o13 with ⟨x11 | E14, S12⟩
        · refine xk_i ?_
          replace h := bk_l h
          refine x_istore (pc := 32) hC dX7_firstFault_32 (by decide) (by decide) rfl ?_
          refine x_iload_n (pc := 34) hC 3 dX7_firstFault_34 rfl rfl ?_
          refine x_if_eq (pc := 35) hC 50 dX7_firstFault_35 (by decide) (fun c20 => ?_) (fun c20 => ?_)
          · rw [if_pos c20] at h
            refine x_pick [2, 3, 4, 1, 0] rfl ?_
            exact t_X7_firstFault_50 hls hC hl hE (fun z0 z1 z2 z3 hz => ih z0 z1 z2 z3 hz) h
          · rw [if_neg c20] at h
            refine x_iload_n (pc := 38) hC 1 dX7_firstFault_38 rfl rfl ?_
            obtain ⟨o17, ho17, h⟩ := bd_some h
            refine x_callS (pc := 39) (As := [.int x10]) (rest := []) hC hl (c_X7_mostAfter l hls ho17) lk_RX7_50 dX7_firstFault_39 rfl rfl (Nat.le_of_ble_eq_true rfl) ⟨Nat.le_of_ble_eq_true rfl, Nat.le_of_ble_eq_true rfl⟩ ⟨(Nat.le_of_ble_eq_true rfl), (Nat.le_of_ble_eq_true rfl)⟩ ?_
            rcases o17 with ⟨x15 | E18, S16⟩
            · refine xk_i ?_
              replace h := bk_l h
              refine x_iconst (pc := 42) (v := (-1 : Int32)) hC dX7_firstFault_42 (by decide) ?_
              refine x_icmp_eq (pc := 43) hC 50 dX7_firstFault_43 (by decide) (fun c19 => ?_) (fun c19 => ?_)
              · rw [if_pos c19] at h
                refine x_pick [2, 3, 4, 1, 0] rfl ?_
                exact t_X7_firstFault_50 hls hC hl hE (fun z0 z1 z2 z3 hz => ih z0 z1 z2 z3 hz) h
              · rw [if_neg c19] at h
                refine x_iconst (pc := 46) (v := (1 : Int32)) hC dX7_firstFault_46 (by decide) ?_
                refine x_goto (pc := 47) hC 51 dX7_firstFault_47 (by decide) ?_
                refine x_pick [2, 3, 4, 1, 0] rfl ?_
                exact t_X7_firstFault_51 hls hC hl hE (fun z0 z1 z2 z3 hz => ih z0 z1 z2 z3 hz) h
            · exact xk_r (xt_out hC hE (bk_r h) (Nat.le_of_ble_eq_true rfl) (Nat.le_of_ble_eq_true rfl))
        · exact xk_r (xt_out hC hE (bk_r h) (Nat.le_of_ble_eq_true rfl) (Nat.le_of_ble_eq_true rfl))
def f_X7_firstFault (S : mS) (a0 : Nat) : Option (Rs Int32) :=
  f_X7_firstFault_4  16 S a0 (0 : Int32) (0 : Int32)
set_option maxHeartbeats 2000000 in
set_option maxRecDepth 100000 in
theorem t_X7_firstFault {l : Launch} (hls : l.stackTraces = false) {C : cT} (hC : CX C cX7_firstFault 6 yX7_firstFault rm_X7_firstFault) (hl : C.2.1 = l) {S0 : mS} (hE : CE C S0 (Option.some Jvm.ClassFile.FieldType.int) []) {o : Rs Int32} {S : mS} {a0 : Nat} (h : f_X7_firstFault S a0 = some o) : XX C 6 (QQ C (fun r : Int32 => some (.int r)) S0 o) 0 0 S 0 [(0, .ref a0)] [] := by
  unfold f_X7_firstFault at h
  refine x_iconst (pc := 0) (v := (0 : Int32)) hC dX7_firstFault_0 (by decide) ?_
  refine x_istore_n (pc := 1) hC dX7_firstFault_1 rfl (by decide) (by decide) rfl ?_
  refine x_iconst (pc := 2) (v := (0 : Int32)) hC dX7_firstFault_2 (by decide) ?_
  refine x_istore_n (pc := 3) hC dX7_firstFault_3 rfl (by decide) (by decide) rfl ?_
  refine x_pick [2, 1, 0] rfl ?_
  exact t_X7_firstFault_4 hls hC hl hE 16 _ _ _ _ h
theorem c_X7_firstFault (l : Launch) (hls : l.stackTraces = false) {S : mS} {a0 : Nat} {o : Rs Int32} (h : f_X7_firstFault S a0 = some o) : CT (fun r : Int32 => some (.int r)) l yX7_firstFault (.code yX7_firstFault cX7_firstFault 6 (Option.some Jvm.ClassFile.FieldType.int)) rm_X7_firstFault S [.ref a0] o := ct_of (by decide +kernel) hls (Nat.le_of_ble_eq_true rfl) (fun C hl hC hE => t_X7_firstFault hls hC hl hE h)
abbrev rm_X7_isReadable : Room := { frames := 10, cells := 0, slots := 0, locals := 195 }
def f_X7_isReadable (S : mS) (a0 : Nat) : Option (Rs Int32) :=
  gd (gK S a0 = 13) (bd (f_X7_firstFault S a0) fun x2 S3 => if x2 = (-1 : Int32) then (some (.inl (1 : Int32), S3)) else (gd (gK S3 a0 = 13) (zI (sI S3 a0 5 (0 : Int32)) fun S7 => bd (f_X7_addCause S7 a0 (116 : Int32) x2) fun _ S10 => some (.inl (0 : Int32), S10))))
set_option maxHeartbeats 2000000 in
set_option maxRecDepth 100000 in
theorem t_X7_isReadable {l : Launch} (hls : l.stackTraces = false) {C : cT} (hC : CX C cX7_isReadable 2 yX7_isReadable rm_X7_isReadable) (hl : C.2.1 = l) {S0 : mS} (hE : CE C S0 (Option.some Jvm.ClassFile.FieldType.boolean) []) {o : Rs Int32} {S : mS} {a0 : Nat} (h : f_X7_isReadable S a0 = some o) : XX C 2 (QQ C (fun r : Int32 => some (.int r)) S0 o) 0 0 S 0 [(0, .ref a0)] [] := by
  unfold f_X7_isReadable at h
  refine x_aload_n (pc := 0) hC 0 dX7_isReadable_0 rfl rfl ?_
  obtain ⟨g1, h⟩ := gd_some h
  obtain ⟨o4, ho4, h⟩ := bd_some h
  refine x_callV (pc := 1) (As := []) (rest := []) hC hl (c_X7_firstFault l hls ho4) lk_RX7_38 fc_13 g1 dX7_isReadable_1 rfl rfl (Nat.le_of_ble_eq_true rfl) ⟨Nat.le_of_ble_eq_true rfl, Nat.le_of_ble_eq_true rfl⟩ ⟨(Nat.le_of_ble_eq_true rfl), (Nat.le_of_ble_eq_true rfl)⟩ ?_
  rcases o4 with ⟨x2 | E5, S3⟩
  · refine xk_i ?_
    replace h := bk_l h
    refine x_istore_n (pc := 4) hC dX7_isReadable_4 rfl (by decide) (by decide) rfl ?_
    refine x_iload_n (pc := 5) hC 0 dX7_isReadable_5 rfl rfl ?_
    refine x_iconst (pc := 6) (v := (-1 : Int32)) hC dX7_isReadable_6 (by decide) ?_
    refine x_icmp_ne (pc := 7) hC 12 dX7_isReadable_7 (by decide) (fun c13 => ?_) (fun c13 => ?_)
    · rw [if_neg c13] at h
      refine x_aload_n (pc := 12) hC 1 dX7_isReadable_12 rfl rfl ?_
      refine x_iconst (pc := 13) (v := (0 : Int32)) hC dX7_isReadable_13 (by decide) ?_
      obtain ⟨g6, h⟩ := gd_some h
      refine x_putIv (pc := 14) (k := 5) hC fc_13 fl_RX7_35 dX7_isReadable_14 rfl rfl (nf_int _) g6 (fun S7 hS7 => ?_)
      replace h := zI_x hS7 h
      have g8 : gK S7 a0 = 13 := by rw [hS7]; exact g6
      refine x_aload_n (pc := 17) hC 1 dX7_isReadable_17 rfl rfl ?_
      refine x_bipush (pc := 18) (v := (116 : Int32)) hC dX7_isReadable_18 (by decide) ?_
      refine x_iload_n (pc := 20) hC 0 dX7_isReadable_20 rfl rfl ?_
      obtain ⟨o11, ho11, h⟩ := bd_some h
      refine x_callV (pc := 21) (As := [.int (116 : Int32), .int x2]) (rest := []) hC hl (c_X7_addCause l hls ho11) lk_RX7_42 fc_13 g8 dX7_isReadable_21 rfl rfl (Nat.le_of_ble_eq_true rfl) ⟨Nat.le_of_ble_eq_true rfl, Nat.le_of_ble_eq_true rfl⟩ ⟨(Nat.le_of_ble_eq_true rfl), (Nat.le_of_ble_eq_true rfl)⟩ ?_
      rcases o11 with ⟨_ | E12, S10⟩
      · refine xk_v ?_
        replace h := bk_l h
        refine x_iconst (pc := 24) (v := (0 : Int32)) hC dX7_isReadable_24 (by decide) ?_
        exact x_zreturn (pc := 25) hC hE dX7_isReadable_25 (show NF .boolean _ from ⟨rfl, rfl⟩).1 (so h) (Nat.le_of_ble_eq_true rfl) (Nat.le_of_ble_eq_true rfl)
      · exact xk_r (xt_out hC hE (bk_r h) (Nat.le_of_ble_eq_true rfl) (Nat.le_of_ble_eq_true rfl))
    · rw [if_pos c13] at h
      refine x_iconst (pc := 10) (v := (1 : Int32)) hC dX7_isReadable_10 (by decide) ?_
      exact x_zreturn (pc := 11) hC hE dX7_isReadable_11 (show NF .boolean _ from ⟨rfl, rfl⟩).1 (so h) (Nat.le_of_ble_eq_true rfl) (Nat.le_of_ble_eq_true rfl)
  · exact xk_r (xt_out hC hE (bk_r h) (Nat.le_of_ble_eq_true rfl) (Nat.le_of_ble_eq_true rfl))
theorem c_X7_isReadable (l : Launch) (hls : l.stackTraces = false) {S : mS} {a0 : Nat} {o : Rs Int32} (h : f_X7_isReadable S a0 = some o) : CT (fun r : Int32 => some (.int r)) l yX7_isReadable (.code yX7_isReadable cX7_isReadable 2 (Option.some Jvm.ClassFile.FieldType.boolean)) rm_X7_isReadable S [.ref a0] o := ct_of (by decide +kernel) hls (Nat.le_of_ble_eq_true rfl) (fun C hl hC hE => t_X7_isReadable hls hC hl hE h)
abbrev rm_X7_doOnDisc : Room := { frames := 10, cells := 0, slots := 0, locals := 193 }
def f_X7_doOnDisc_93  (S : mS) (a0 : Nat) (a2 : Int32) : Option (Rs Int32) :=
  lt9 ((10 : Int32) * a2) fun x1 => gd (gK S a0 = 7) (bd (f_X1_push S a0 x1) fun x3 S4 => some (.inl (32 : Int32), S4))
set_option maxHeartbeats 2000000 in
set_option maxRecDepth 100000 in
theorem t_X7_doOnDisc_93 {l : Launch} (hls : l.stackTraces = false) {C : cT} (hC : CX C cX7_doOnDisc 3 yX7_doOnDisc rm_X7_doOnDisc) (hl : C.2.1 = l) {S0 : mS} (hE : CE C S0 (Option.some Jvm.ClassFile.FieldType.char) []) {o : Rs Int32} {S : mS} {a0 : Nat} {a2 : Int32} (h : f_X7_doOnDisc_93  S a0 a2 = some o) : XX C 3 (QQ C (fun r : Int32 => some (.int r)) S0 o) (0) (0) S 93 [(0, .ref a0), (2, .int a2)] [] := by
  unfold f_X7_doOnDisc_93 at h
  refine x_aload_n (pc := 93) hC 0 dX7_doOnDisc_93 rfl rfl ?_
  refine x_bipush (pc := 94) (v := (10 : Int32)) hC dX7_doOnDisc_94 (by decide) ?_
  refine x_iload_n (pc := 96) hC 1 dX7_doOnDisc_96 rfl rfl ?_
  refine x_imulv (pc := 97) hC dX7_doOnDisc_97 (fun x1 hx1 => ?_)
  replace h := lt_x hx1 h
  obtain ⟨g2, h⟩ := gd_some h
  obtain ⟨o5, ho5, h⟩ := bd_some h
  refine x_callV (pc := 98) (As := [.int x1]) (rest := []) hC hl (c_X1_push l hls ho5) lk_RX7_108 fc_7 g2 dX7_doOnDisc_98 rfl rfl (Nat.le_of_ble_eq_true rfl) ⟨Nat.le_of_ble_eq_true rfl, Nat.le_of_ble_eq_true rfl⟩ ⟨(Nat.le_of_ble_eq_true rfl), (Nat.le_of_ble_eq_true rfl)⟩ ?_
  rcases o5 with ⟨x3 | E6, S4⟩
  · refine xk_i ?_
    replace h := bk_l h
    refine x_pop (pc := 101) hC dX7_doOnDisc_101 rfl ?_
    refine x_bipush (pc := 102) (v := (32 : Int32)) hC dX7_doOnDisc_102 (by decide) ?_
    exact x_zreturn (pc := 104) hC hE dX7_doOnDisc_104 (show NF .char _ from ⟨rfl, rfl⟩).1 (so h) (Nat.le_of_ble_eq_true rfl) (Nat.le_of_ble_eq_true rfl)
  · exact xk_r (xt_out hC hE (bk_r h) (Nat.le_of_ble_eq_true rfl) (Nat.le_of_ble_eq_true rfl))
def f_X7_doOnDisc_105  (S : mS) (a0 : Nat) (a2 : Int32) : Option (Rs Int32) :=
  lt9 ((-10 : Int32) * a2) fun x1 => gd (gK S a0 = 7) (bd (f_X1_push S a0 x1) fun x3 S4 => some (.inl (32 : Int32), S4))
set_option maxHeartbeats 2000000 in
set_option maxRecDepth 100000 in
theorem t_X7_doOnDisc_105 {l : Launch} (hls : l.stackTraces = false) {C : cT} (hC : CX C cX7_doOnDisc 3 yX7_doOnDisc rm_X7_doOnDisc) (hl : C.2.1 = l) {S0 : mS} (hE : CE C S0 (Option.some Jvm.ClassFile.FieldType.char) []) {o : Rs Int32} {S : mS} {a0 : Nat} {a2 : Int32} (h : f_X7_doOnDisc_105  S a0 a2 = some o) : XX C 3 (QQ C (fun r : Int32 => some (.int r)) S0 o) (0) (0) S 105 [(0, .ref a0), (2, .int a2)] [] := by
  unfold f_X7_doOnDisc_105 at h
  refine x_aload_n (pc := 105) hC 0 dX7_doOnDisc_105 rfl rfl ?_
  refine x_bipush (pc := 106) (v := (-10 : Int32)) hC dX7_doOnDisc_106 (by decide) ?_
  refine x_iload_n (pc := 108) hC 1 dX7_doOnDisc_108 rfl rfl ?_
  refine x_imulv (pc := 109) hC dX7_doOnDisc_109 (fun x1 hx1 => ?_)
  replace h := lt_x hx1 h
  obtain ⟨g2, h⟩ := gd_some h
  obtain ⟨o5, ho5, h⟩ := bd_some h
  refine x_callV (pc := 110) (As := [.int x1]) (rest := []) hC hl (c_X1_push l hls ho5) lk_RX7_108 fc_7 g2 dX7_doOnDisc_110 rfl rfl (Nat.le_of_ble_eq_true rfl) ⟨Nat.le_of_ble_eq_true rfl, Nat.le_of_ble_eq_true rfl⟩ ⟨(Nat.le_of_ble_eq_true rfl), (Nat.le_of_ble_eq_true rfl)⟩ ?_
  rcases o5 with ⟨x3 | E6, S4⟩
  · refine xk_i ?_
    replace h := bk_l h
    refine x_pop (pc := 113) hC dX7_doOnDisc_113 rfl ?_
    refine x_bipush (pc := 114) (v := (32 : Int32)) hC dX7_doOnDisc_114 (by decide) ?_
    exact x_zreturn (pc := 116) hC hE dX7_doOnDisc_116 (show NF .char _ from ⟨rfl, rfl⟩).1 (so h) (Nat.le_of_ble_eq_true rfl) (Nat.le_of_ble_eq_true rfl)
  · exact xk_r (xt_out hC hE (bk_r h) (Nat.le_of_ble_eq_true rfl) (Nat.le_of_ble_eq_true rfl))
def f_X7_doOnDisc_76  (S : mS) (a0 : Nat) : Option (Rs Int32) :=
  gd (gK S a0 = 7) (bd (f_X1_slowDown S a0) fun x2 S3 => some (.inl (32 : Int32), S3))
set_option maxHeartbeats 2000000 in
set_option maxRecDepth 100000 in
theorem t_X7_doOnDisc_76 {l : Launch} (hls : l.stackTraces = false) {C : cT} (hC : CX C cX7_doOnDisc 3 yX7_doOnDisc rm_X7_doOnDisc) (hl : C.2.1 = l) {S0 : mS} (hE : CE C S0 (Option.some Jvm.ClassFile.FieldType.char) []) {o : Rs Int32} {S : mS} {a0 : Nat} (h : f_X7_doOnDisc_76  S a0 = some o) : XX C 3 (QQ C (fun r : Int32 => some (.int r)) S0 o) (0) (0) S 76 [(0, .ref a0)] [] := by
  unfold f_X7_doOnDisc_76 at h
  refine x_aload_n (pc := 76) hC 0 dX7_doOnDisc_76 rfl rfl ?_
  obtain ⟨g1, h⟩ := gd_some h
  obtain ⟨o4, ho4, h⟩ := bd_some h
  refine x_callV (pc := 77) (As := []) (rest := []) hC hl (c_X1_slowDown l hls ho4) lk_RX7_102 fc_7 g1 dX7_doOnDisc_77 rfl rfl (Nat.le_of_ble_eq_true rfl) ⟨Nat.le_of_ble_eq_true rfl, Nat.le_of_ble_eq_true rfl⟩ ⟨(Nat.le_of_ble_eq_true rfl), (Nat.le_of_ble_eq_true rfl)⟩ ?_
  rcases o4 with ⟨x2 | E5, S3⟩
  · refine xk_i ?_
    replace h := bk_l h
    refine x_pop (pc := 80) hC dX7_doOnDisc_80 rfl ?_
    refine x_bipush (pc := 81) (v := (32 : Int32)) hC dX7_doOnDisc_81 (by decide) ?_
    exact x_zreturn (pc := 83) hC hE dX7_doOnDisc_83 (show NF .char _ from ⟨rfl, rfl⟩).1 (so h) (Nat.le_of_ble_eq_true rfl) (Nat.le_of_ble_eq_true rfl)
  · exact xk_r (xt_out hC hE (bk_r h) (Nat.le_of_ble_eq_true rfl) (Nat.le_of_ble_eq_true rfl))
def f_X7_doOnDisc_152  (S : mS) (s0 : Int32) : Option (Rs Int32) :=
  gd ((s0.toUInt32.toUInt16.toUInt32.toInt32 = s0 ∧ 0 ≤ s0) ∧ s0 ≤ 65535) (some (.inl s0, S))
set_option maxHeartbeats 2000000 in
set_option maxRecDepth 100000 in
theorem t_X7_doOnDisc_152 {l : Launch} (hls : l.stackTraces = false) {C : cT} (hC : CX C cX7_doOnDisc 3 yX7_doOnDisc rm_X7_doOnDisc) (hl : C.2.1 = l) {S0 : mS} (hE : CE C S0 (Option.some Jvm.ClassFile.FieldType.char) []) {o : Rs Int32} {S : mS} {s0 : Int32} (h : f_X7_doOnDisc_152  S s0 = some o) : XX C 3 (QQ C (fun r : Int32 => some (.int r)) S0 o) (0) (0) S 152 [] [.int s0] := by
  unfold f_X7_doOnDisc_152 at h
  obtain ⟨g1, h⟩ := gd_some h
  exact x_zreturn (pc := 152) hC hE dX7_doOnDisc_152 (nf_C g1).1 (so h) (Nat.le_of_ble_eq_true rfl) (Nat.le_of_ble_eq_true rfl)
def f_X7_doOnDisc_137  (S : mS) (a0 : Nat) (a2 : Int32) : Option (Rs Int32) :=
  gd (gK S a0 = 7) (bd (f_X1_jumpToCue S a0 a2) fun x2 S3 => if x2 = 0 then (f_X7_doOnDisc_152  S3 (99 : Int32)) else (f_X7_doOnDisc_152  S3 (32 : Int32)))
set_option maxHeartbeats 2000000 in
set_option maxRecDepth 100000 in
theorem t_X7_doOnDisc_137 {l : Launch} (hls : l.stackTraces = false) {C : cT} (hC : CX C cX7_doOnDisc 3 yX7_doOnDisc rm_X7_doOnDisc) (hl : C.2.1 = l) {S0 : mS} (hE : CE C S0 (Option.some Jvm.ClassFile.FieldType.char) []) {o : Rs Int32} {S : mS} {a0 : Nat} {a2 : Int32} (h : f_X7_doOnDisc_137  S a0 a2 = some o) : XX C 3 (QQ C (fun r : Int32 => some (.int r)) S0 o) (0) (0) S 137 [(0, .ref a0), (2, .int a2)] [] := by
  unfold f_X7_doOnDisc_137 at h
  refine x_aload_n (pc := 137) hC 0 dX7_doOnDisc_137 rfl rfl ?_
  refine x_iload_n (pc := 138) hC 1 dX7_doOnDisc_138 rfl rfl ?_
  obtain ⟨g1, h⟩ := gd_some h
  obtain ⟨o4, ho4, h⟩ := bd_some h
  refine x_callV (pc := 139) (As := [.int a2]) (rest := []) hC hl (c_X1_jumpToCue l hls ho4) lk_RX7_119 fc_7 g1 dX7_doOnDisc_139 rfl rfl (Nat.le_of_ble_eq_true rfl) ⟨Nat.le_of_ble_eq_true rfl, Nat.le_of_ble_eq_true rfl⟩ ⟨(Nat.le_of_ble_eq_true rfl), (Nat.le_of_ble_eq_true rfl)⟩ ?_
  rcases o4 with ⟨x2 | E5, S3⟩
  · refine xk_i ?_
    replace h := bk_l h
    refine x_if_eq (pc := 142) hC 150 dX7_doOnDisc_142 (by decide) (fun c6 => ?_) (fun c6 => ?_)
    · rw [if_pos c6] at h
      refine x_bipush (pc := 150) (v := (99 : Int32)) hC dX7_doOnDisc_150 (by decide) ?_
      refine x_pick [] rfl ?_
      exact t_X7_doOnDisc_152 hls hC hl hE h
    · rw [if_neg c6] at h
      refine x_bipush (pc := 145) (v := (32 : Int32)) hC dX7_doOnDisc_145 (by decide) ?_
      refine x_goto (pc := 147) hC 152 dX7_doOnDisc_147 (by decide) ?_
      refine x_pick [] rfl ?_
      exact t_X7_doOnDisc_152 hls hC hl hE h
  · exact xk_r (xt_out hC hE (bk_r h) (Nat.le_of_ble_eq_true rfl) (Nat.le_of_ble_eq_true rfl))
def f_X7_doOnDisc_130  (S : mS) (s0 : Nat) (s1 : Int32) : Option (Rs Int32) :=
  gd (gK S s0 = 7) (bd (f_X1_turnSlip S s0 s1) fun x2 S3 => some (.inl (32 : Int32), S3))
set_option maxHeartbeats 2000000 in
set_option maxRecDepth 100000 in
theorem t_X7_doOnDisc_130 {l : Launch} (hls : l.stackTraces = false) {C : cT} (hC : CX C cX7_doOnDisc 3 yX7_doOnDisc rm_X7_doOnDisc) (hl : C.2.1 = l) {S0 : mS} (hE : CE C S0 (Option.some Jvm.ClassFile.FieldType.char) []) {o : Rs Int32} {S : mS} {s0 : Nat} {s1 : Int32} (h : f_X7_doOnDisc_130  S s0 s1 = some o) : XX C 3 (QQ C (fun r : Int32 => some (.int r)) S0 o) (0) (0) S 130 [] [.int s1, .ref s0] := by
  unfold f_X7_doOnDisc_130 at h
  obtain ⟨g1, h⟩ := gd_some h
  obtain ⟨o4, ho4, h⟩ := bd_some h
  refine x_callV (pc := 130) (As := [.int s1]) (rest := []) hC hl (c_X1_turnSlip l hls ho4) lk_RX7_115 fc_7 g1 dX7_doOnDisc_130 rfl rfl (Nat.le_of_ble_eq_true rfl) ⟨Nat.le_of_ble_eq_true rfl, Nat.le_of_ble_eq_true rfl⟩ ⟨(Nat.le_of_ble_eq_true rfl), (Nat.le_of_ble_eq_true rfl)⟩ ?_
  rcases o4 with ⟨x2 | E5, S3⟩
  · refine xk_i ?_
    replace h := bk_l h
    refine x_pop (pc := 133) hC dX7_doOnDisc_133 rfl ?_
    refine x_bipush (pc := 134) (v := (32 : Int32)) hC dX7_doOnDisc_134 (by decide) ?_
    exact x_zreturn (pc := 136) hC hE dX7_doOnDisc_136 (show NF .char _ from ⟨rfl, rfl⟩).1 (so h) (Nat.le_of_ble_eq_true rfl) (Nat.le_of_ble_eq_true rfl)
  · exact xk_r (xt_out hC hE (bk_r h) (Nat.le_of_ble_eq_true rfl) (Nat.le_of_ble_eq_true rfl))
def f_X7_doOnDisc_117  (S : mS) (a0 : Nat) : Option (Rs Int32) :=
  gd (gK S a0 = 7) (lt9 (gI S a0 10) fun x2 => if x2 = 0 then (f_X7_doOnDisc_130  S a0 (1 : Int32)) else (f_X7_doOnDisc_130  S a0 (0 : Int32)))
set_option maxHeartbeats 2000000 in
set_option maxRecDepth 100000 in
theorem t_X7_doOnDisc_117 {l : Launch} (hls : l.stackTraces = false) {C : cT} (hC : CX C cX7_doOnDisc 3 yX7_doOnDisc rm_X7_doOnDisc) (hl : C.2.1 = l) {S0 : mS} (hE : CE C S0 (Option.some Jvm.ClassFile.FieldType.char) []) {o : Rs Int32} {S : mS} {a0 : Nat} (h : f_X7_doOnDisc_117  S a0 = some o) : XX C 3 (QQ C (fun r : Int32 => some (.int r)) S0 o) (0) (0) S 117 [(0, .ref a0)] [] := by
  unfold f_X7_doOnDisc_117 at h
  refine x_aload_n (pc := 117) hC 0 dX7_doOnDisc_117 rfl rfl ?_
  refine x_aload_n (pc := 118) hC 0 dX7_doOnDisc_118 rfl rfl ?_
  obtain ⟨g1, h⟩ := gd_some h
  refine x_getIv (pc := 119) (k := 10) hC fc_7 fl_RX7_111 dX7_doOnDisc_119 rfl g1 (fun x2 hx2 => ?_)
  replace h := lt_x hx2 h
  refine x_if_ne (pc := 122) hC 129 dX7_doOnDisc_122 (by decide) (fun c3 => ?_) (fun c3 => ?_)
  · rw [if_neg c3] at h
    refine x_iconst (pc := 129) (v := (0 : Int32)) hC dX7_doOnDisc_129 (by decide) ?_
    refine x_pick [] rfl ?_
    exact t_X7_doOnDisc_130 hls hC hl hE h
  · rw [if_pos c3] at h
    refine x_iconst (pc := 125) (v := (1 : Int32)) hC dX7_doOnDisc_125 (by decide) ?_
    refine x_goto (pc := 126) hC 130 dX7_doOnDisc_126 (by decide) ?_
    refine x_pick [] rfl ?_
    exact t_X7_doOnDisc_130 hls hC hl hE h
def f_X7_doOnDisc_84  (S : mS) (a0 : Nat) (a2 : Int32) : Option (Rs Int32) :=
  gd (gK S a0 = 7) (bd (f_X1_mark S a0 a2) fun x2 S3 => some (.inl (32 : Int32), S3))
set_option maxHeartbeats 2000000 in
set_option maxRecDepth 100000 in
theorem t_X7_doOnDisc_84 {l : Launch} (hls : l.stackTraces = false) {C : cT} (hC : CX C cX7_doOnDisc 3 yX7_doOnDisc rm_X7_doOnDisc) (hl : C.2.1 = l) {S0 : mS} (hE : CE C S0 (Option.some Jvm.ClassFile.FieldType.char) []) {o : Rs Int32} {S : mS} {a0 : Nat} {a2 : Int32} (h : f_X7_doOnDisc_84  S a0 a2 = some o) : XX C 3 (QQ C (fun r : Int32 => some (.int r)) S0 o) (0) (0) S 84 [(0, .ref a0), (2, .int a2)] [] := by
  unfold f_X7_doOnDisc_84 at h
  refine x_aload_n (pc := 84) hC 0 dX7_doOnDisc_84 rfl rfl ?_
  refine x_iload_n (pc := 85) hC 1 dX7_doOnDisc_85 rfl rfl ?_
  obtain ⟨g1, h⟩ := gd_some h
  obtain ⟨o4, ho4, h⟩ := bd_some h
  refine x_callV (pc := 86) (As := [.int a2]) (rest := []) hC hl (c_X1_mark l hls ho4) lk_RX7_105 fc_7 g1 dX7_doOnDisc_86 rfl rfl (Nat.le_of_ble_eq_true rfl) ⟨Nat.le_of_ble_eq_true rfl, Nat.le_of_ble_eq_true rfl⟩ ⟨(Nat.le_of_ble_eq_true rfl), (Nat.le_of_ble_eq_true rfl)⟩ ?_
  rcases o4 with ⟨x2 | E5, S3⟩
  · refine xk_i ?_
    replace h := bk_l h
    refine x_pop (pc := 89) hC dX7_doOnDisc_89 rfl ?_
    refine x_bipush (pc := 90) (v := (32 : Int32)) hC dX7_doOnDisc_90 (by decide) ?_
    exact x_zreturn (pc := 92) hC hE dX7_doOnDisc_92 (show NF .char _ from ⟨rfl, rfl⟩).1 (so h) (Nat.le_of_ble_eq_true rfl) (Nat.le_of_ble_eq_true rfl)
  · exact xk_r (xt_out hC hE (bk_r h) (Nat.le_of_ble_eq_true rfl) (Nat.le_of_ble_eq_true rfl))
def f_X7_doOnDisc_68  (S : mS) (a0 : Nat) : Option (Rs Int32) :=
  gd (gK S a0 = 7) (bd (f_X1_start S a0) fun x2 S3 => some (.inl (32 : Int32), S3))
set_option maxHeartbeats 2000000 in
set_option maxRecDepth 100000 in
theorem t_X7_doOnDisc_68 {l : Launch} (hls : l.stackTraces = false) {C : cT} (hC : CX C cX7_doOnDisc 3 yX7_doOnDisc rm_X7_doOnDisc) (hl : C.2.1 = l) {S0 : mS} (hE : CE C S0 (Option.some Jvm.ClassFile.FieldType.char) []) {o : Rs Int32} {S : mS} {a0 : Nat} (h : f_X7_doOnDisc_68  S a0 = some o) : XX C 3 (QQ C (fun r : Int32 => some (.int r)) S0 o) (0) (0) S 68 [(0, .ref a0)] [] := by
  unfold f_X7_doOnDisc_68 at h
  refine x_aload_n (pc := 68) hC 0 dX7_doOnDisc_68 rfl rfl ?_
  obtain ⟨g1, h⟩ := gd_some h
  obtain ⟨o4, ho4, h⟩ := bd_some h
  refine x_callV (pc := 69) (As := []) (rest := []) hC hl (c_X1_start l hls ho4) lk_RX7_99 fc_7 g1 dX7_doOnDisc_69 rfl rfl (Nat.le_of_ble_eq_true rfl) ⟨Nat.le_of_ble_eq_true rfl, Nat.le_of_ble_eq_true rfl⟩ ⟨(Nat.le_of_ble_eq_true rfl), (Nat.le_of_ble_eq_true rfl)⟩ ?_
  rcases o4 with ⟨x2 | E5, S3⟩
  · refine xk_i ?_
    replace h := bk_l h
    refine x_pop (pc := 72) hC dX7_doOnDisc_72 rfl ?_
    refine x_bipush (pc := 73) (v := (32 : Int32)) hC dX7_doOnDisc_73 (by decide) ?_
    exact x_zreturn (pc := 75) hC hE dX7_doOnDisc_75 (show NF .char _ from ⟨rfl, rfl⟩).1 (so h) (Nat.le_of_ble_eq_true rfl) (Nat.le_of_ble_eq_true rfl)
  · exact xk_r (xt_out hC hE (bk_r h) (Nat.le_of_ble_eq_true rfl) (Nat.le_of_ble_eq_true rfl))
def f_X7_doOnDisc_153  (S : mS) (a0 : Nat) (a2 : Int32) : Option (Rs Int32) :=
  gd (gK S a0 = 7) (bd (f_X1_hasRoomFor S a0 a2) fun x2 S3 => if x2 = 0 then (some (.inl (108 : Int32), S3)) else (gd (gK S3 a0 = 7) (bd (f_X1_turnRound S3 a0 a2) fun x7 S8 => some (.inl (32 : Int32), S8))))
set_option maxHeartbeats 2000000 in
set_option maxRecDepth 100000 in
theorem t_X7_doOnDisc_153 {l : Launch} (hls : l.stackTraces = false) {C : cT} (hC : CX C cX7_doOnDisc 3 yX7_doOnDisc rm_X7_doOnDisc) (hl : C.2.1 = l) {S0 : mS} (hE : CE C S0 (Option.some Jvm.ClassFile.FieldType.char) []) {o : Rs Int32} {S : mS} {a0 : Nat} {a2 : Int32} (h : f_X7_doOnDisc_153  S a0 a2 = some o) : XX C 3 (QQ C (fun r : Int32 => some (.int r)) S0 o) (0) (0) S 153 [(0, .ref a0), (2, .int a2)] [] := by
  unfold f_X7_doOnDisc_153 at h
  refine x_aload_n (pc := 153) hC 0 dX7_doOnDisc_153 rfl rfl ?_
  refine x_iload_n (pc := 154) hC 1 dX7_doOnDisc_154 rfl rfl ?_
  obtain ⟨g1, h⟩ := gd_some h
  obtain ⟨o4, ho4, h⟩ := bd_some h
  refine x_callV (pc := 155) (As := [.int a2]) (rest := []) hC hl (c_X1_hasRoomFor l hls ho4) lk_RX7_123 fc_7 g1 dX7_doOnDisc_155 rfl rfl (Nat.le_of_ble_eq_true rfl) ⟨Nat.le_of_ble_eq_true rfl, Nat.le_of_ble_eq_true rfl⟩ ⟨(Nat.le_of_ble_eq_true rfl), (Nat.le_of_ble_eq_true rfl)⟩ ?_
  rcases o4 with ⟨x2 | E5, S3⟩
  · refine xk_i ?_
    replace h := bk_l h
    refine x_if_ne (pc := 158) hC 164 dX7_doOnDisc_158 (by decide) (fun c11 => ?_) (fun c11 => ?_)
    · rw [if_neg c11] at h
      refine x_aload_n (pc := 164) hC 0 dX7_doOnDisc_164 rfl rfl ?_
      refine x_iload_n (pc := 165) hC 1 dX7_doOnDisc_165 rfl rfl ?_
      obtain ⟨g6, h⟩ := gd_some h
      obtain ⟨o9, ho9, h⟩ := bd_some h
      refine x_callV (pc := 166) (As := [.int a2]) (rest := []) hC hl (c_X1_turnRound l hls ho9) lk_RX7_126 fc_7 g6 dX7_doOnDisc_166 rfl rfl (Nat.le_of_ble_eq_true rfl) ⟨Nat.le_of_ble_eq_true rfl, Nat.le_of_ble_eq_true rfl⟩ ⟨(Nat.le_of_ble_eq_true rfl), (Nat.le_of_ble_eq_true rfl)⟩ ?_
      rcases o9 with ⟨x7 | E10, S8⟩
      · refine xk_i ?_
        replace h := bk_l h
        refine x_pop (pc := 169) hC dX7_doOnDisc_169 rfl ?_
        refine x_bipush (pc := 170) (v := (32 : Int32)) hC dX7_doOnDisc_170 (by decide) ?_
        exact x_zreturn (pc := 172) hC hE dX7_doOnDisc_172 (show NF .char _ from ⟨rfl, rfl⟩).1 (so h) (Nat.le_of_ble_eq_true rfl) (Nat.le_of_ble_eq_true rfl)
      · exact xk_r (xt_out hC hE (bk_r h) (Nat.le_of_ble_eq_true rfl) (Nat.le_of_ble_eq_true rfl))
    · rw [if_pos c11] at h
      refine x_bipush (pc := 161) (v := (108 : Int32)) hC dX7_doOnDisc_161 (by decide) ?_
      exact x_zreturn (pc := 163) hC hE dX7_doOnDisc_163 (show NF .char _ from ⟨rfl, rfl⟩).1 (so h) (Nat.le_of_ble_eq_true rfl) (Nat.le_of_ble_eq_true rfl)
  · exact xk_r (xt_out hC hE (bk_r h) (Nat.le_of_ble_eq_true rfl) (Nat.le_of_ble_eq_true rfl))
def f_X7_doOnDisc (S : mS) (a0 : Nat) (a1 : Int32) (a2 : Int32) : Option (Rs Int32) :=
  if a1 = (43 : Int32) then (f_X7_doOnDisc_93  S a0 a2) else if a1 = (45 : Int32) then (f_X7_doOnDisc_105  S a0 a2) else if a1 = (98 : Int32) then (f_X7_doOnDisc_76  S a0) else if a1 = (99 : Int32) then (f_X7_doOnDisc_137  S a0 a2) else if a1 = (107 : Int32) then (f_X7_doOnDisc_117  S a0) else if a1 = (109 : Int32) then (f_X7_doOnDisc_84  S a0 a2) else if a1 = (112 : Int32) then (f_X7_doOnDisc_68  S a0) else (f_X7_doOnDisc_153  S a0 a2)
set_option maxHeartbeats 2000000 in
set_option maxRecDepth 100000 in
theorem t_X7_doOnDisc {l : Launch} (hls : l.stackTraces = false) {C : cT} (hC : CX C cX7_doOnDisc 3 yX7_doOnDisc rm_X7_doOnDisc) (hl : C.2.1 = l) {S0 : mS} (hE : CE C S0 (Option.some Jvm.ClassFile.FieldType.char) []) {o : Rs Int32} {S : mS} {a0 : Nat} {a1 : Int32} {a2 : Int32} (h : f_X7_doOnDisc S a0 a1 a2 = some o) : XX C 3 (QQ C (fun r : Int32 => some (.int r)) S0 o) 0 0 S 0 [(0, .ref a0), (1, .int a1), (2, .int a2)] [] := by
  unfold f_X7_doOnDisc at h
  refine x_iload_n (pc := 0) hC 1 dX7_doOnDisc_0 rfl rfl ?_
  by_cases c1 : a1 = (43 : Int32)
  · rw [if_pos c1] at h
    rw [c1]
    refine x_lookup (pc := 1) (off := 92) hC 93 dX7_doOnDisc_1 (by decide) (by decide) (by decide) ?_
    refine x_pick [0, 2] rfl ?_
    exact t_X7_doOnDisc_93 hls hC hl hE h
  rw [if_neg c1] at h
  by_cases c2 : a1 = (45 : Int32)
  · rw [if_pos c2] at h
    rw [c2]
    refine x_lookup (pc := 1) (off := 104) hC 105 dX7_doOnDisc_1 (by decide) (by decide) (by decide) ?_
    refine x_pick [0, 2] rfl ?_
    exact t_X7_doOnDisc_105 hls hC hl hE h
  rw [if_neg c2] at h
  by_cases c3 : a1 = (98 : Int32)
  · rw [if_pos c3] at h
    rw [c3]
    refine x_lookup (pc := 1) (off := 75) hC 76 dX7_doOnDisc_1 (by decide) (by decide) (by decide) ?_
    refine x_pick [0] rfl ?_
    exact t_X7_doOnDisc_76 hls hC hl hE h
  rw [if_neg c3] at h
  by_cases c4 : a1 = (99 : Int32)
  · rw [if_pos c4] at h
    rw [c4]
    refine x_lookup (pc := 1) (off := 136) hC 137 dX7_doOnDisc_1 (by decide) (by decide) (by decide) ?_
    refine x_pick [0, 2] rfl ?_
    exact t_X7_doOnDisc_137 hls hC hl hE h
  rw [if_neg c4] at h
  by_cases c5 : a1 = (107 : Int32)
  · rw [if_pos c5] at h
    rw [c5]
    refine x_lookup (pc := 1) (off := 116) hC 117 dX7_doOnDisc_1 (by decide) (by decide) (by decide) ?_
    refine x_pick [0] rfl ?_
    exact t_X7_doOnDisc_117 hls hC hl hE h
  rw [if_neg c5] at h
  by_cases c6 : a1 = (109 : Int32)
  · rw [if_pos c6] at h
    rw [c6]
    refine x_lookup (pc := 1) (off := 83) hC 84 dX7_doOnDisc_1 (by decide) (by decide) (by decide) ?_
    refine x_pick [0, 2] rfl ?_
    exact t_X7_doOnDisc_84 hls hC hl hE h
  rw [if_neg c6] at h
  by_cases c7 : a1 = (112 : Int32)
  · rw [if_pos c7] at h
    rw [c7]
    refine x_lookup (pc := 1) (off := 67) hC 68 dX7_doOnDisc_1 (by decide) (by decide) (by decide) ?_
    refine x_pick [0] rfl ?_
    exact t_X7_doOnDisc_68 hls hC hl hE h
  rw [if_neg c7] at h
  refine x_lookup (pc := 1) (off := 152) hC 153 dX7_doOnDisc_1 (by decide) (by show Op.lookupswitch.offset _ _ _ = _; rw [lv_osw c1 (by decide), lv_osw c2 (by decide), lv_osw c3 (by decide), lv_osw c4 (by decide), lv_osw c5 (by decide), lv_osw c6 (by decide), lv_osw c7 (by decide)]; rfl) (by decide) ?_
  refine x_pick [0, 2] rfl ?_
  exact t_X7_doOnDisc_153 hls hC hl hE h
theorem c_X7_doOnDisc (l : Launch) (hls : l.stackTraces = false) {S : mS} {a0 : Nat} {a1 : Int32} {a2 : Int32} {o : Rs Int32} (h : f_X7_doOnDisc S a0 a1 a2 = some o) : CT (fun r : Int32 => some (.int r)) l yX7_doOnDisc (.code yX7_doOnDisc cX7_doOnDisc 3 (Option.some Jvm.ClassFile.FieldType.char)) rm_X7_doOnDisc S [.ref a0, .int a1, .int a2] o := ct_of (by decide +kernel) hls (Nat.le_of_ble_eq_true rfl) (fun C hl hC hE => t_X7_doOnDisc hls hC hl hE h)
abbrev rm_X7_doOne : Room := { frames := 11, cells := 0, slots := 0, locals := 215 }
def f_X7_doOne_79  (S : mS) (s0 : Int32) : Option (Rs Int32) :=
  gd ((s0.toUInt32.toUInt16.toUInt32.toInt32 = s0 ∧ 0 ≤ s0) ∧ s0 ≤ 65535) (some (.inl s0, S))
set_option maxHeartbeats 2000000 in
set_option maxRecDepth 100000 in
theorem t_X7_doOne_79 {l : Launch} (hls : l.stackTraces = false) {C : cT} (hC : CX C cX7_doOne 3 yX7_doOne rm_X7_doOne) (hl : C.2.1 = l) {S0 : mS} (hE : CE C S0 (Option.some Jvm.ClassFile.FieldType.char) []) {o : Rs Int32} {S : mS} {s0 : Int32} (h : f_X7_doOne_79  S s0 = some o) : XX C 3 (QQ C (fun r : Int32 => some (.int r)) S0 o) (0) (0) S 79 [] [.int s0] := by
  unfold f_X7_doOne_79 at h
  obtain ⟨g1, h⟩ := gd_some h
  exact x_zreturn (pc := 79) hC hE dX7_doOne_79 (nf_C g1).1 (so h) (Nat.le_of_ble_eq_true rfl) (Nat.le_of_ble_eq_true rfl)
def f_X7_doOne_60  (S : mS) (s0 : Int32) : Option (Rs Int32) :=
  gd ((s0.toUInt32.toUInt16.toUInt32.toInt32 = s0 ∧ 0 ≤ s0) ∧ s0 ≤ 65535) (some (.inl s0, S))
set_option maxHeartbeats 2000000 in
set_option maxRecDepth 100000 in
theorem t_X7_doOne_60 {l : Launch} (hls : l.stackTraces = false) {C : cT} (hC : CX C cX7_doOne 3 yX7_doOne rm_X7_doOne) (hl : C.2.1 = l) {S0 : mS} (hE : CE C S0 (Option.some Jvm.ClassFile.FieldType.char) []) {o : Rs Int32} {S : mS} {s0 : Int32} (h : f_X7_doOne_60  S s0 = some o) : XX C 3 (QQ C (fun r : Int32 => some (.int r)) S0 o) (0) (0) S 60 [] [.int s0] := by
  unfold f_X7_doOne_60 at h
  obtain ⟨g1, h⟩ := gd_some h
  exact x_zreturn (pc := 60) hC hE dX7_doOne_60 (nf_C g1).1 (so h) (Nat.le_of_ble_eq_true rfl) (Nat.le_of_ble_eq_true rfl)
def f_X7_doOne (S : mS) (a0 : Nat) (a1 : Int32) (a2 : Int32) : Option (Rs Int32) :=
  if a1 = (115 : Int32) then (gd (gK S a0 = 7) (bd (f_X1_halt S a0) fun x26 S27 => some (.inl (32 : Int32), S27))) else (if a1 = (102 : Int32) then (gd (gK S a0 = 7) (lt9 (gR S a0 0) fun r16 => lt9 ((11 : Int32) * a2) fun x17 => lt9 (if x17 < (100 : Int32) then x17 else (100 : Int32)) fun x18 => gd (gK S r16 = 6) (bd (f_X0_slide S r16 x18) fun x20 S21 => some (.inl (32 : Int32), S21)))) else (if a1 = (120 : Int32) then (gd (gK S a0 = 7) (bd (f_X1_leaveLoop S a0) fun x9 S10 => if x9 = 0 then (f_X7_doOne_60  S10 (105 : Int32)) else (f_X7_doOne_60  S10 (32 : Int32)))) else (gd (gK S a0 = 7) (lt9 (gR S a0 2) fun r2 => if r2 = 0 then (f_X7_doOne_79  S (101 : Int32)) else (bd (f_X7_doOnDisc S a0 a1 a2) fun x3 S4 => f_X7_doOne_79  S4 x3)))))
set_option maxHeartbeats 2000000 in
set_option maxRecDepth 100000 in
theorem t_X7_doOne {l : Launch} (hls : l.stackTraces = false) {C : cT} (hC : CX C cX7_doOne 3 yX7_doOne rm_X7_doOne) (hl : C.2.1 = l) {S0 : mS} (hE : CE C S0 (Option.some Jvm.ClassFile.FieldType.char) []) {o : Rs Int32} {S : mS} {a0 : Nat} {a1 : Int32} {a2 : Int32} (h : f_X7_doOne S a0 a1 a2 = some o) : XX C 3 (QQ C (fun r : Int32 => some (.int r)) S0 o) 0 0 S 0 [(0, .ref a0), (1, .int a1), (2, .int a2)] [] := by
  unfold f_X7_doOne at h
  refine x_iload_n (pc := 0) hC 1 dX7_doOne_0 rfl rfl ?_
  refine x_bipush (pc := 1) (v := (115 : Int32)) hC dX7_doOne_1 (by decide) ?_
  refine x_icmp_ne (pc := 3) hC 14 dX7_doOne_3 (by decide) (fun c30 => ?_) (fun c30 => ?_)
  · rw [if_neg c30] at h
    refine x_iload_n (pc := 14) hC 1 dX7_doOne_14 rfl rfl ?_
    refine x_bipush (pc := 15) (v := (102 : Int32)) hC dX7_doOne_15 (by decide) ?_
    refine x_icmp_ne (pc := 17) hC 40 dX7_doOne_17 (by decide) (fun c24 => ?_) (fun c24 => ?_)
    · rw [if_neg c24] at h
      refine x_iload_n (pc := 40) hC 1 dX7_doOne_40 rfl rfl ?_
      refine x_bipush (pc := 41) (v := (120 : Int32)) hC dX7_doOne_41 (by decide) ?_
      refine x_icmp_ne (pc := 43) hC 61 dX7_doOne_43 (by decide) (fun c14 => ?_) (fun c14 => ?_)
      · rw [if_neg c14] at h
        refine x_aload_n (pc := 61) hC 0 dX7_doOne_61 rfl rfl ?_
        obtain ⟨g1, h⟩ := gd_some h
        refine x_getRv (pc := 62) (k := 2) hC fc_7 fl_RX7_92 dX7_doOne_62 rfl g1 (fun r2 hr2 => ?_)
        replace h := lt_x hr2 h
        refine x_ifnonnull (pc := 65) hC 73 dX7_doOne_65 (by decide) (fun c7 => ?_) (fun c7 => ?_)
        · rw [if_neg c7] at h
          refine x_aload_n (pc := 73) hC 0 dX7_doOne_73 rfl rfl ?_
          refine x_iload_n (pc := 74) hC 1 dX7_doOne_74 rfl rfl ?_
          refine x_iload_n (pc := 75) hC 2 dX7_doOne_75 rfl rfl ?_
          obtain ⟨o5, ho5, h⟩ := bd_some h
          refine x_callS (pc := 76) (As := [.ref a0, .int a1, .int a2]) (rest := []) hC hl (c_X7_doOnDisc l hls ho5) lk_RX7_96 dX7_doOne_76 rfl rfl (Nat.le_of_ble_eq_true rfl) ⟨Nat.le_of_ble_eq_true rfl, Nat.le_of_ble_eq_true rfl⟩ ⟨(Nat.le_of_ble_eq_true rfl), (Nat.le_of_ble_eq_true rfl)⟩ ?_
          rcases o5 with ⟨x3 | E6, S4⟩
          · refine xk_i ?_
            replace h := bk_l h
            refine x_pick [] rfl ?_
            exact t_X7_doOne_79 hls hC hl hE h
          · exact xk_r (xt_out hC hE (bk_r h) (Nat.le_of_ble_eq_true rfl) (Nat.le_of_ble_eq_true rfl))
        · rw [if_pos c7] at h
          refine x_bipush (pc := 68) (v := (101 : Int32)) hC dX7_doOne_68 (by decide) ?_
          refine x_goto (pc := 70) hC 79 dX7_doOne_70 (by decide) ?_
          refine x_pick [] rfl ?_
          exact t_X7_doOne_79 hls hC hl hE h
      · rw [if_pos c14] at h
        refine x_aload_n (pc := 46) hC 0 dX7_doOne_46 rfl rfl ?_
        obtain ⟨g8, h⟩ := gd_some h
        obtain ⟨o11, ho11, h⟩ := bd_some h
        refine x_callV (pc := 47) (As := []) (rest := []) hC hl (c_X1_leaveLoop l hls ho11) lk_RX7_89 fc_7 g8 dX7_doOne_47 rfl rfl (Nat.le_of_ble_eq_true rfl) ⟨Nat.le_of_ble_eq_true rfl, Nat.le_of_ble_eq_true rfl⟩ ⟨(Nat.le_of_ble_eq_true rfl), (Nat.le_of_ble_eq_true rfl)⟩ ?_
        rcases o11 with ⟨x9 | E12, S10⟩
        · refine xk_i ?_
          replace h := bk_l h
          refine x_if_eq (pc := 50) hC 58 dX7_doOne_50 (by decide) (fun c13 => ?_) (fun c13 => ?_)
          · rw [if_pos c13] at h
            refine x_bipush (pc := 58) (v := (105 : Int32)) hC dX7_doOne_58 (by decide) ?_
            refine x_pick [] rfl ?_
            exact t_X7_doOne_60 hls hC hl hE h
          · rw [if_neg c13] at h
            refine x_bipush (pc := 53) (v := (32 : Int32)) hC dX7_doOne_53 (by decide) ?_
            refine x_goto (pc := 55) hC 60 dX7_doOne_55 (by decide) ?_
            refine x_pick [] rfl ?_
            exact t_X7_doOne_60 hls hC hl hE h
        · exact xk_r (xt_out hC hE (bk_r h) (Nat.le_of_ble_eq_true rfl) (Nat.le_of_ble_eq_true rfl))
    · rw [if_pos c24] at h
      refine x_aload_n (pc := 20) hC 0 dX7_doOne_20 rfl rfl ?_
      obtain ⟨g15, h⟩ := gd_some h
      refine x_getRv (pc := 21) (k := 0) hC fc_7 fl_RX7_73 dX7_doOne_21 rfl g15 (fun r16 hr16 => ?_)
      replace h := lt_x hr16 h
      refine x_bipush (pc := 24) (v := (100 : Int32)) hC dX7_doOne_24 (by decide) ?_
      refine x_bipush (pc := 26) (v := (11 : Int32)) hC dX7_doOne_26 (by decide) ?_
      refine x_iload_n (pc := 28) hC 2 dX7_doOne_28 rfl rfl ?_
      refine x_imulv (pc := 29) hC dX7_doOne_29 (fun x17 hx17 => ?_)
      replace h := lt_x hx17 h
      refine x_mmin (pc := 30) hC wm_682 wm_598 wm_69 wm_599 dX7_doOne_30 (Nat.le_of_ble_eq_true rfl) (Nat.le_of_ble_eq_true rfl) (Nat.le_of_ble_eq_true rfl) (Nat.le_of_ble_eq_true rfl) (fun x18 hx18 => ?_)
      replace h := lt_x hx18 h
      obtain ⟨g19, h⟩ := gd_some h
      obtain ⟨o22, ho22, h⟩ := bd_some h
      refine x_callV (pc := 33) (As := [.int x18]) (rest := []) hC hl (c_X0_slide l hls ho22) lk_RX7_83 fc_6 g19 dX7_doOne_33 rfl rfl (Nat.le_of_ble_eq_true rfl) ⟨Nat.le_of_ble_eq_true rfl, Nat.le_of_ble_eq_true rfl⟩ ⟨(Nat.le_of_ble_eq_true rfl), (Nat.le_of_ble_eq_true rfl)⟩ ?_
      rcases o22 with ⟨x20 | E23, S21⟩
      · refine xk_i ?_
        replace h := bk_l h
        refine x_pop (pc := 36) hC dX7_doOne_36 rfl ?_
        refine x_bipush (pc := 37) (v := (32 : Int32)) hC dX7_doOne_37 (by decide) ?_
        exact x_zreturn (pc := 39) hC hE dX7_doOne_39 (show NF .char _ from ⟨rfl, rfl⟩).1 (so h) (Nat.le_of_ble_eq_true rfl) (Nat.le_of_ble_eq_true rfl)
      · exact xk_r (xt_out hC hE (bk_r h) (Nat.le_of_ble_eq_true rfl) (Nat.le_of_ble_eq_true rfl))
  · rw [if_pos c30] at h
    refine x_aload_n (pc := 6) hC 0 dX7_doOne_6 rfl rfl ?_
    obtain ⟨g25, h⟩ := gd_some h
    obtain ⟨o28, ho28, h⟩ := bd_some h
    refine x_callV (pc := 7) (As := []) (rest := []) hC hl (c_X1_halt l hls ho28) lk_RX7_69 fc_7 g25 dX7_doOne_7 rfl rfl (Nat.le_of_ble_eq_true rfl) ⟨Nat.le_of_ble_eq_true rfl, Nat.le_of_ble_eq_true rfl⟩ ⟨(Nat.le_of_ble_eq_true rfl), (Nat.le_of_ble_eq_true rfl)⟩ ?_
    rcases o28 with ⟨x26 | E29, S27⟩
    · refine xk_i ?_
      replace h := bk_l h
      refine x_pop (pc := 10) hC dX7_doOne_10 rfl ?_
      refine x_bipush (pc := 11) (v := (32 : Int32)) hC dX7_doOne_11 (by decide) ?_
      exact x_zreturn (pc := 13) hC hE dX7_doOne_13 (show NF .char _ from ⟨rfl, rfl⟩).1 (so h) (Nat.le_of_ble_eq_true rfl) (Nat.le_of_ble_eq_true rfl)
    · exact xk_r (xt_out hC hE (bk_r h) (Nat.le_of_ble_eq_true rfl) (Nat.le_of_ble_eq_true rfl))
theorem c_X7_doOne (l : Launch) (hls : l.stackTraces = false) {S : mS} {a0 : Nat} {a1 : Int32} {a2 : Int32} {o : Rs Int32} (h : f_X7_doOne S a0 a1 a2 = some o) : CT (fun r : Int32 => some (.int r)) l yX7_doOne (.code yX7_doOne cX7_doOne 3 (Option.some Jvm.ClassFile.FieldType.char)) rm_X7_doOne S [.ref a0, .int a1, .int a2] o := ct_of (by decide +kernel) hls (Nat.le_of_ble_eq_true rfl) (fun C hl hC hE => t_X7_doOne hls hC hl hE h)
abbrev rm_X7_doAll : Room := { frames := 12, cells := 0, slots := 0, locals := 237 }
def f_X7_doAll_153  (S : mS) (a5 : Int32) : Option (Rs Int32) :=
  some (.inl a5, S)
set_option maxHeartbeats 2000000 in
set_option maxRecDepth 100000 in
theorem t_X7_doAll_153 {l : Launch} (hls : l.stackTraces = false) {C : cT} (hC : CX C cX7_doAll 12 yX7_doAll rm_X7_doAll) (hl : C.2.1 = l) {S0 : mS} (hE : CE C S0 (Option.some Jvm.ClassFile.FieldType.int) []) {o : Rs Int32} {S : mS} {a5 : Int32} (h : f_X7_doAll_153  S a5 = some o) : XX C 12 (QQ C (fun r : Int32 => some (.int r)) S0 o) (0) (0) S 153 [(5, .int a5)] [] := by
  unfold f_X7_doAll_153 at h
  refine x_iload (pc := 153) hC 0 dX7_doAll_153 rfl ?_
  exact x_ireturn (pc := 155) hC hE dX7_doAll_155 (so h) (Nat.le_of_ble_eq_true rfl) (Nat.le_of_ble_eq_true rfl)
def f_X7_doAll_147 (rc9 : mS → Nat → Nat → Nat → Int32 → Int32 → Int32 → Int32 → Option (Rs Int32)) (S : mS) (a0 : Nat) (a1 : Nat) (a2 : Nat) (a4 : Int32) (a5 : Int32) (a6 : Int32) (a7 : Int32) : Option (Rs Int32) :=
  lt9 (a7 + Int32.ofInt (1)) fun x1 => rc9 S a0 a1 a2 a4 a5 a6 x1
set_option maxHeartbeats 2000000 in
set_option maxRecDepth 100000 in
theorem t_X7_doAll_147 {l : Launch} (hls : l.stackTraces = false) {C : cT} (hC : CX C cX7_doAll 12 yX7_doAll rm_X7_doAll) (hl : C.2.1 = l) {S0 : mS} (hE : CE C S0 (Option.some Jvm.ClassFile.FieldType.int) []) {o : Rs Int32} {rc9 : mS → Nat → Nat → Nat → Int32 → Int32 → Int32 → Int32 → Option (Rs Int32)} (hrc9 : ∀ (S : mS) (a0 : Nat) (a1 : Nat) (a2 : Nat) (a4 : Int32) (a5 : Int32) (a6 : Int32) (a7 : Int32), rc9 S a0 a1 a2 a4 a5 a6 a7 = some o → XX C 12 (QQ C (fun r : Int32 => some (.int r)) S0 o) (0) (0) S 9 [(0, .ref a0), (1, .ref a1), (2, .ref a2), (4, .int a4), (5, .int a5), (6, .int a6), (7, .int a7)] []) {S : mS} {a0 : Nat} {a1 : Nat} {a2 : Nat} {a4 : Int32} {a5 : Int32} {a6 : Int32} {a7 : Int32} (h : f_X7_doAll_147 rc9 S a0 a1 a2 a4 a5 a6 a7 = some o) : XX C 12 (QQ C (fun r : Int32 => some (.int r)) S0 o) (0) (0) S 147 [(0, .ref a0), (1, .ref a1), (2, .ref a2), (4, .int a4), (5, .int a5), (6, .int a6), (7, .int a7)] [] := by
  unfold f_X7_doAll_147 at h
  obtain ⟨x1, hx1⟩ : ∃ z, z = (a7 + Int32.ofInt (1)) := ⟨_, rfl⟩
  replace h := lt_x hx1 h
  refine x_iinc (pc := 147) hC 6 dX7_doAll_147 rfl hx1.symm (by decide) (by decide) rfl ?_
  refine x_goto (pc := 150) hC 9 dX7_doAll_150 (by decide) ?_
  refine x_pick [1, 2, 3, 4, 5, 6, 0] rfl ?_
  exact hrc9 _ _ _ _ _ _ _ _ h
def f_X7_doAll_101 (rc9 : mS → Nat → Nat → Nat → Int32 → Int32 → Int32 → Int32 → Option (Rs Int32)) (S : mS) (a0 : Nat) (a1 : Nat) (a2 : Nat) (a4 : Int32) (a5 : Int32) (a6 : Int32) (a7 : Int32) (a8 : Int32) (a9 : Int32) (a10 : Int32) : Option (Rs Int32) :=
  gd (gK S a1 = 34) (gd (¬ (a6 < 0 ∨ gZ S a1 ≤ (a6).toNatClampNeg)) (lt9 (gR S a1 (a6).toNatClampNeg) fun r4 => bd (f_X7_doOne S r4 a8 a10) fun x5 S6 => if x5 = (32 : Int32) then (lt9 (a5 + Int32.ofInt (1)) fun x9 => f_X7_doAll_147 (rc9) S6 a0 a1 a2 a4 x9 a6 a7) else (gd (gK S6 a0 = 13) (zI (sI S6 a0 5 (0 : Int32)) fun S11 => bd (f_X7_addCause S11 a0 (109 : Int32) a9) fun _ S14 => gd (gK S14 a0 = 13) (bd (f_X7_addCause S14 a0 x5 a6) fun _ S19 => some (.inl (-1 : Int32), S19))))))
set_option maxHeartbeats 2000000 in
set_option maxRecDepth 100000 in
theorem t_X7_doAll_101 {l : Launch} (hls : l.stackTraces = false) {C : cT} (hC : CX C cX7_doAll 12 yX7_doAll rm_X7_doAll) (hl : C.2.1 = l) {S0 : mS} (hE : CE C S0 (Option.some Jvm.ClassFile.FieldType.int) []) {o : Rs Int32} {rc9 : mS → Nat → Nat → Nat → Int32 → Int32 → Int32 → Int32 → Option (Rs Int32)} (hrc9 : ∀ (S : mS) (a0 : Nat) (a1 : Nat) (a2 : Nat) (a4 : Int32) (a5 : Int32) (a6 : Int32) (a7 : Int32), rc9 S a0 a1 a2 a4 a5 a6 a7 = some o → XX C 12 (QQ C (fun r : Int32 => some (.int r)) S0 o) (0) (0) S 9 [(0, .ref a0), (1, .ref a1), (2, .ref a2), (4, .int a4), (5, .int a5), (6, .int a6), (7, .int a7)] []) {S : mS} {a0 : Nat} {a1 : Nat} {a2 : Nat} {a4 : Int32} {a5 : Int32} {a6 : Int32} {a7 : Int32} {a8 : Int32} {a9 : Int32} {a10 : Int32} (h : f_X7_doAll_101 rc9 S a0 a1 a2 a4 a5 a6 a7 a8 a9 a10 = some o) : XX C 12 (QQ C (fun r : Int32 => some (.int r)) S0 o) (0) (0) S 101 [(0, .ref a0), (1, .ref a1), (2, .ref a2), (4, .int a4), (5, .int a5), (6, .int a6), (7, .int a7), (8, .int a8), (9, .int a9), (10, .int a10)] [] := by
  unfold f_X7_doAll_101 at h
  refine x_aload_n (pc := 101) hC 1 dX7_doAll_101 rfl rfl ?_
  refine x_iload (pc := 102) hC 5 dX7_doAll_102 rfl ?_
  obtain ⟨g3, h⟩ := gd_some h
  obtain ⟨g2, h⟩ := gd_some h
  refine x_raldv (pc := 104) (t0 := 4) hC dX7_doAll_104 g3 (by decide) (fun _ => rfl) g2 (fun r4 hr4 => ?_)
  replace h := lt_x hr4 h
  refine x_iload (pc := 105) hC 7 dX7_doAll_105 rfl ?_
  refine x_iload (pc := 107) hC 9 dX7_doAll_107 rfl ?_
  obtain ⟨o7, ho7, h⟩ := bd_some h
  refine x_callS (pc := 109) (As := [.ref r4, .int a8, .int a10]) (rest := []) hC hl (c_X7_doOne l hls ho7) lk_RX7_65 dX7_doAll_109 rfl rfl (Nat.le_of_ble_eq_true rfl) ⟨Nat.le_of_ble_eq_true rfl, Nat.le_of_ble_eq_true rfl⟩ ⟨(Nat.le_of_ble_eq_true rfl), (Nat.le_of_ble_eq_true rfl)⟩ ?_
  rcases o7 with ⟨x5 | E8, S6⟩
  · refine xk_i ?_
    replace h := bk_l h
    refine x_istore (pc := 112) hC dX7_doAll_112 (by decide) (by decide) rfl ?_
    refine x_iload (pc := 114) hC 0 dX7_doAll_114 rfl ?_
    refine x_bipush (pc := 116) (v := (32 : Int32)) hC dX7_doAll_116 (by decide) ?_
    refine x_icmp_eq (pc := 118) hC 144 dX7_doAll_118 (by decide) (fun c22 => ?_) (fun c22 => ?_)
    · rw [if_pos c22] at h
      obtain ⟨x9, hx9⟩ : ∃ z, z = (a5 + Int32.ofInt (1)) := ⟨_, rfl⟩
      replace h := lt_x hx9 h
      refine x_iinc (pc := 144) hC 5 dX7_doAll_144 rfl hx9.symm (by decide) (by decide) rfl ?_
      refine x_pick [2, 3, 4, 5, 0, 6, 7] rfl ?_
      exact t_X7_doAll_147 hls hC hl hE hrc9 h
    · rw [if_neg c22] at h
      refine x_aload_n (pc := 121) hC 1 dX7_doAll_121 rfl rfl ?_
      refine x_iconst (pc := 122) (v := (0 : Int32)) hC dX7_doAll_122 (by decide) ?_
      obtain ⟨g10, h⟩ := gd_some h
      refine x_putIv (pc := 123) (k := 5) hC fc_13 fl_RX7_35 dX7_doAll_123 rfl rfl (nf_int _) g10 (fun S11 hS11 => ?_)
      replace h := zI_x hS11 h
      have g12 : gK S11 a0 = 13 := by rw [hS11]; exact g10
      refine x_aload_n (pc := 126) hC 1 dX7_doAll_126 rfl rfl ?_
      refine x_bipush (pc := 127) (v := (109 : Int32)) hC dX7_doAll_127 (by decide) ?_
      refine x_iload (pc := 129) hC 9 dX7_doAll_129 rfl ?_
      obtain ⟨o15, ho15, h⟩ := bd_some h
      refine x_callV (pc := 131) (As := [.int (109 : Int32), .int a9]) (rest := []) hC hl (c_X7_addCause l hls ho15) lk_RX7_42 fc_13 g12 dX7_doAll_131 rfl rfl (Nat.le_of_ble_eq_true rfl) ⟨Nat.le_of_ble_eq_true rfl, Nat.le_of_ble_eq_true rfl⟩ ⟨(Nat.le_of_ble_eq_true rfl), (Nat.le_of_ble_eq_true rfl)⟩ ?_
      rcases o15 with ⟨_ | E16, S14⟩
      · refine xk_v ?_
        replace h := bk_l h
        refine x_aload_n (pc := 134) hC 1 dX7_doAll_134 rfl rfl ?_
        refine x_iload (pc := 135) hC 0 dX7_doAll_135 rfl ?_
        refine x_iload (pc := 137) hC 6 dX7_doAll_137 rfl ?_
        obtain ⟨g17, h⟩ := gd_some h
        obtain ⟨o20, ho20, h⟩ := bd_some h
        refine x_callV (pc := 139) (As := [.int x5, .int a6]) (rest := []) hC hl (c_X7_addCause l hls ho20) lk_RX7_42 fc_13 g17 dX7_doAll_139 rfl rfl (Nat.le_of_ble_eq_true rfl) ⟨Nat.le_of_ble_eq_true rfl, Nat.le_of_ble_eq_true rfl⟩ ⟨(Nat.le_of_ble_eq_true rfl), (Nat.le_of_ble_eq_true rfl)⟩ ?_
        rcases o20 with ⟨_ | E21, S19⟩
        · refine xk_v ?_
          replace h := bk_l h
          refine x_iconst (pc := 142) (v := (-1 : Int32)) hC dX7_doAll_142 (by decide) ?_
          exact x_ireturn (pc := 143) hC hE dX7_doAll_143 (so h) (Nat.le_of_ble_eq_true rfl) (Nat.le_of_ble_eq_true rfl)
        · exact xk_r (xt_out hC hE (bk_r h) (Nat.le_of_ble_eq_true rfl) (Nat.le_of_ble_eq_true rfl))
      · exact xk_r (xt_out hC hE (bk_r h) (Nat.le_of_ble_eq_true rfl) (Nat.le_of_ble_eq_true rfl))
  · exact xk_r (xt_out hC hE (bk_r h) (Nat.le_of_ble_eq_true rfl) (Nat.le_of_ble_eq_true rfl))
def f_X7_doAll_9  : Nat → mS → Nat → Nat → Nat → Int32 → Int32 → Int32 → Int32 → Option (Rs Int32)
  | 0, _, _, _, _, _, _, _, _ => none
  | k + 1, S, a0, a1, a2, a4, a5, a6, a7 => if a7 < 0 then (f_X7_doAll_153  S a5) else (if a4 ≤ a7 then (f_X7_doAll_153  S a5) else (gd (gK S a2 = 31) (lt9 (Int32.ofNat (gZ S a2)) fun x2 => if x2 ≤ a7 then (f_X7_doAll_153  S a5) else (gd (¬ (a7 < 0 ∨ gZ S a2 ≤ (a7).toNatClampNeg)) (lt9 (gI S a2 (a7).toNatClampNeg) fun x5 => bd (f_X7_isDeckLetter S x5) fun x6 S7 => if x6 = 0 then (if a6 < 0 then (f_X7_doAll_147 (f_X7_doAll_9 k) S7 a0 a1 a2 a4 a5 a6 a7) else (gd (gK S7 a1 = 34) (lt9 (Int32.ofNat (gZ S7 a1)) fun x11 => if x11 ≤ a6 then (f_X7_doAll_147 (f_X7_doAll_9 k) S7 a0 a1 a2 a4 a5 a6 a7) else (bd (f_X7_mostAfter S7 x5) fun x12 S13 => if x12 = (-1 : Int32) then (f_X7_doAll_101 (f_X7_doAll_9 k) S13 a0 a1 a2 a4 a5 a6 a7 x5 a7 (0 : Int32)) else (lt9 (a7 + (1 : Int32)) fun x16 => gd (gK S13 a2 = 31) (lt9 (Int32.ofNat (gZ S13 a2)) fun x18 => if x18 ≤ x16 then (f_X7_doAll_101 (f_X7_doAll_9 k) S13 a0 a1 a2 a4 a5 a6 a7 x5 a7 (0 : Int32)) else (lt9 (a7 + Int32.ofInt (1)) fun x19 => gd (¬ (x19 < 0 ∨ gZ S13 a2 ≤ (x19).toNatClampNeg)) (lt9 (gI S13 a2 (x19).toNatClampNeg) fun x22 => lt9 (x22 - (48 : Int32)) fun x23 => f_X7_doAll_101 (f_X7_doAll_9 k) S13 a0 a1 a2 a4 a5 a6 x19 x5 a7 x23)))))))) else (lt9 (x5 - (65 : Int32)) fun x28 => f_X7_doAll_147 (f_X7_doAll_9 k) S7 a0 a1 a2 a4 a5 x28 a7))))))
set_option maxHeartbeats 2000000 in
set_option maxRecDepth 100000 in
theorem t_X7_doAll_9 {l : Launch} (hls : l.stackTraces = false) {C : cT} (hC : CX C cX7_doAll 12 yX7_doAll rm_X7_doAll) (hl : C.2.1 = l) {S0 : mS} (hE : CE C S0 (Option.some Jvm.ClassFile.FieldType.int) []) {o : Rs Int32} : ∀ (k : Nat) (S : mS) (a0 : Nat) (a1 : Nat) (a2 : Nat) (a4 : Int32) (a5 : Int32) (a6 : Int32) (a7 : Int32), f_X7_doAll_9  k S a0 a1 a2 a4 a5 a6 a7 = some o → XX C 12 (QQ C (fun r : Int32 => some (.int r)) S0 o) (0) (0) S 9 [(0, .ref a0), (1, .ref a1), (2, .ref a2), (4, .int a4), (5, .int a5), (6, .int a6), (7, .int a7)] [] := by
  intro k
  induction k with
  | zero => intro S a0 a1 a2 a4 a5 a6 a7 h; cases h
  | succ k ih =>
    intro S a0 a1 a2 a4 a5 a6 a7 h
    unfold f_X7_doAll_9 at h
    refine x_iload (pc := 9) hC 6 dX7_doAll_9 rfl ?_
    refine x_if_lt (pc := 11) hC 153 dX7_doAll_11 (by decide) (fun c32 => ?_) (fun c32 => ?_)
    · rw [if_pos c32] at h
      refine x_pick [4] rfl ?_
      exact t_X7_doAll_153 hls hC hl hE h
    · rw [if_neg c32] at h
      refine x_iload (pc := 14) hC 6 dX7_doAll_14 rfl ?_
      refine x_iload (pc := 16) hC 3 dX7_doAll_16 rfl ?_
      refine x_icmp_ge (pc := 18) hC 153 dX7_doAll_18 (by decide) (fun c31 => ?_) (fun c31 => ?_)
      · rw [if_pos c31] at h
        refine x_pick [4] rfl ?_
        exact t_X7_doAll_153 hls hC hl hE h
      · rw [if_neg c31] at h
        refine x_iload (pc := 21) hC 6 dX7_doAll_21 rfl ?_
        refine x_aload_n (pc := 23) hC 2 dX7_doAll_23 rfl rfl ?_
        obtain ⟨g1, h⟩ := gd_some h
        refine x_alenv (pc := 24) (t0 := 1) hC dX7_doAll_24 g1 (by decide) (fun _ => rfl) (fun x2 hx2 => ?_)
        replace h := lt_x hx2 h
        refine x_icmp_ge (pc := 25) hC 153 dX7_doAll_25 (by decide) (fun c30 => ?_) (fun c30 => ?_)
        · rw [if_pos c30] at h
          refine x_pick [4] rfl ?_
          exact t_X7_doAll_153 hls hC hl hE h
        · rw [if_neg c30] at h
          refine x_aload_n (pc := 28) hC 2 dX7_doAll_28 rfl rfl ?_
          refine x_iload (pc := 29) hC 6 dX7_doAll_29 rfl ?_
          obtain ⟨g4, h⟩ := gd_some h
          refine x_caldv (pc := 31) hC dX7_doAll_31 g1 g4 (fun x5 hx5 => ?_)
          replace h := lt_x hx5 h
          refine x_istore (pc := 32) hC dX7_doAll_32 (by decide) (by decide) rfl ?_
          refine x_iload (pc := 34) hC 0 dX7_doAll_34 rfl ?_
          obtain ⟨o8, ho8, h⟩ := bd_some h
          refine x_callS (pc := 36) (As := [.int x5]) (rest := []) hC hl (c_X7_isDeckLetter l hls ho8) lk_RX7_46 dX7_doAll_36 rfl rfl (Nat.le_of_ble_eq_true rfl) ⟨Nat.le_of_ble_eq_true rfl, Nat.le_of_ble_eq_true rfl⟩ ⟨(Nat.le_of_ble_eq_true rfl), (Nat.le_of_ble_eq_true rfl)⟩ ?_
          rcases o8 with ⟨x6 | E9, S7⟩
          · refine xk_i ?_
            replace h := bk_l h
            refine x_if_eq (pc := 39) hC 52 dX7_doAll_39 (by decide) (fun c29 => ?_) (fun c29 => ?_)
            · rw [if_pos c29] at h
              refine x_iload (pc := 52) hC 6 dX7_doAll_52 rfl ?_
              refine x_if_lt (pc := 54) hC 147 dX7_doAll_54 (by decide) (fun c27 => ?_) (fun c27 => ?_)
              · rw [if_pos c27] at h
                refine x_pick [1, 2, 3, 4, 5, 6, 7] rfl ?_
                exact t_X7_doAll_147 hls hC hl hE (fun z0 z1 z2 z3 z4 z5 z6 z7 hz => ih z0 z1 z2 z3 z4 z5 z6 z7 hz) h
              · rw [if_neg c27] at h
                refine x_iload (pc := 57) hC 6 dX7_doAll_57 rfl ?_
                refine x_aload_n (pc := 59) hC 2 dX7_doAll_59 rfl rfl ?_
                obtain ⟨g10, h⟩ := gd_some h
                refine x_alenv (pc := 60) (t0 := 4) hC dX7_doAll_60 g10 (by decide) (fun _ => rfl) (fun x11 hx11 => ?_)
                replace h := lt_x hx11 h
                refine x_icmp_ge (pc := 61) hC 147 dX7_doAll_61 (by decide) (fun c26 => ?_) (fun c26 => ?_)
                · rw [if_pos c26] at h
                  refine x_pick [1, 2, 3, 4, 5, 6, 7] rfl ?_
                  exact t_X7_doAll_147 hls hC hl hE (fun z0 z1 z2 z3 z4 z5 z6 z7 hz => ih z0 z1 z2 z3 z4 z5 z6 z7 hz) h
                · rw [if_neg c26] at h
                  refine x_iload (pc := 64) hC 7 dX7_doAll_64 rfl ?_
                  refine x_istore (pc := 66) hC dX7_doAll_66 (by decide) (by decide) rfl ?_
                  refine x_iconst (pc := 68) (v := (0 : Int32)) hC dX7_doAll_68 (by decide) ?_
                  refine x_istore (pc := 69) hC dX7_doAll_69 (by decide) (by decide) rfl ?_
                  refine x_iload (pc := 71) hC 2 dX7_doAll_71 rfl ?_
                  obtain ⟨o14, ho14, h⟩ := bd_some h
                  refine x_callS (pc := 73) (As := [.int x5]) (rest := []) hC hl (c_X7_mostAfter l hls ho14) lk_RX7_50 dX7_doAll_73 rfl rfl (Nat.le_of_ble_eq_true rfl) ⟨Nat.le_of_ble_eq_true rfl, Nat.le_of_ble_eq_true rfl⟩ ⟨(Nat.le_of_ble_eq_true rfl), (Nat.le_of_ble_eq_true rfl)⟩ ?_
                  rcases o14 with ⟨x12 | E15, S13⟩
                  · refine xk_i ?_
                    replace h := bk_l h
                    refine x_iconst (pc := 76) (v := (-1 : Int32)) hC dX7_doAll_76 (by decide) ?_
                    refine x_icmp_eq (pc := 77) hC 101 dX7_doAll_77 (by decide) (fun c25 => ?_) (fun c25 => ?_)
                    · rw [if_pos c25] at h
                      refine x_pick [3, 4, 5, 6, 7, 8, 9, 2, 1, 0] rfl ?_
                      exact t_X7_doAll_101 hls hC hl hE (fun z0 z1 z2 z3 z4 z5 z6 z7 hz => ih z0 z1 z2 z3 z4 z5 z6 z7 hz) h
                    · rw [if_neg c25] at h
                      refine x_iload (pc := 80) hC 9 dX7_doAll_80 rfl ?_
                      refine x_iconst (pc := 82) (v := (1 : Int32)) hC dX7_doAll_82 (by decide) ?_
                      refine x_iaddv (pc := 83) hC dX7_doAll_83 (fun x16 hx16 => ?_)
                      replace h := lt_x hx16 h
                      refine x_aload_n (pc := 84) hC 5 dX7_doAll_84 rfl rfl ?_
                      obtain ⟨g17, h⟩ := gd_some h
                      refine x_alenv (pc := 85) (t0 := 1) hC dX7_doAll_85 g17 (by decide) (fun _ => rfl) (fun x18 hx18 => ?_)
                      replace h := lt_x hx18 h
                      refine x_icmp_ge (pc := 86) hC 101 dX7_doAll_86 (by decide) (fun c24 => ?_) (fun c24 => ?_)
                      · rw [if_pos c24] at h
                        refine x_pick [3, 4, 5, 6, 7, 8, 9, 2, 1, 0] rfl ?_
                        exact t_X7_doAll_101 hls hC hl hE (fun z0 z1 z2 z3 z4 z5 z6 z7 hz => ih z0 z1 z2 z3 z4 z5 z6 z7 hz) h
                      · rw [if_neg c24] at h
                        obtain ⟨x19, hx19⟩ : ∃ z, z = (a7 + Int32.ofInt (1)) := ⟨_, rfl⟩
                        replace h := lt_x hx19 h
                        refine x_iinc (pc := 89) hC 9 dX7_doAll_89 rfl hx19.symm (by decide) (by decide) rfl ?_
                        refine x_aload_n (pc := 92) hC 6 dX7_doAll_92 rfl rfl ?_
                        refine x_iload (pc := 93) hC 0 dX7_doAll_93 rfl ?_
                        obtain ⟨g21, h⟩ := gd_some h
                        refine x_caldv (pc := 95) hC dX7_doAll_95 g17 g21 (fun x22 hx22 => ?_)
                        replace h := lt_x hx22 h
                        refine x_bipush (pc := 96) (v := (48 : Int32)) hC dX7_doAll_96 (by decide) ?_
                        refine x_isubv (pc := 98) hC dX7_doAll_98 (fun x23 hx23 => ?_)
                        replace h := lt_x hx23 h
                        refine x_istore (pc := 99) hC dX7_doAll_99 (by decide) (by decide) rfl ?_
                        refine x_pick [4, 5, 6, 7, 8, 9, 1, 3, 2, 0] rfl ?_
                        exact t_X7_doAll_101 hls hC hl hE (fun z0 z1 z2 z3 z4 z5 z6 z7 hz => ih z0 z1 z2 z3 z4 z5 z6 z7 hz) h
                  · exact xk_r (xt_out hC hE (bk_r h) (Nat.le_of_ble_eq_true rfl) (Nat.le_of_ble_eq_true rfl))
            · rw [if_neg c29] at h
              refine x_iload (pc := 42) hC 0 dX7_doAll_42 rfl ?_
              refine x_bipush (pc := 44) (v := (65 : Int32)) hC dX7_doAll_44 (by decide) ?_
              refine x_isubv (pc := 46) hC dX7_doAll_46 (fun x28 hx28 => ?_)
              replace h := lt_x hx28 h
              refine x_istore (pc := 47) hC dX7_doAll_47 (by decide) (by decide) rfl ?_
              refine x_goto (pc := 49) hC 147 dX7_doAll_49 (by decide) ?_
              refine x_pick [2, 3, 4, 5, 6, 0, 7] rfl ?_
              exact t_X7_doAll_147 hls hC hl hE (fun z0 z1 z2 z3 z4 z5 z6 z7 hz => ih z0 z1 z2 z3 z4 z5 z6 z7 hz) h
          · exact xk_r (xt_out hC hE (bk_r h) (Nat.le_of_ble_eq_true rfl) (Nat.le_of_ble_eq_true rfl))
def f_X7_doAll (S : mS) (a0 : Nat) (a1 : Nat) (a2 : Nat) (a3 : Int32) (a4 : Int32) : Option (Rs Int32) :=
  f_X7_doAll_9  16 S a0 a1 a2 a4 (0 : Int32) (-1 : Int32) a3
set_option maxHeartbeats 2000000 in
set_option maxRecDepth 100000 in
theorem t_X7_doAll {l : Launch} (hls : l.stackTraces = false) {C : cT} (hC : CX C cX7_doAll 12 yX7_doAll rm_X7_doAll) (hl : C.2.1 = l) {S0 : mS} (hE : CE C S0 (Option.some Jvm.ClassFile.FieldType.int) []) {o : Rs Int32} {S : mS} {a0 : Nat} {a1 : Nat} {a2 : Nat} {a3 : Int32} {a4 : Int32} (h : f_X7_doAll S a0 a1 a2 a3 a4 = some o) : XX C 12 (QQ C (fun r : Int32 => some (.int r)) S0 o) 0 0 S 0 [(0, .ref a0), (1, .ref a1), (2, .ref a2), (3, .int a3), (4, .int a4)] [] := by
  unfold f_X7_doAll at h
  refine x_iconst (pc := 0) (v := (0 : Int32)) hC dX7_doAll_0 (by decide) ?_
  refine x_istore (pc := 1) hC dX7_doAll_1 (by decide) (by decide) rfl ?_
  refine x_iconst (pc := 3) (v := (-1 : Int32)) hC dX7_doAll_3 (by decide) ?_
  refine x_istore (pc := 4) hC dX7_doAll_4 (by decide) (by decide) rfl ?_
  refine x_iload_n (pc := 6) hC 5 dX7_doAll_6 rfl rfl ?_
  refine x_istore (pc := 7) hC dX7_doAll_7 (by decide) (by decide) rfl ?_
  refine x_pick [3, 4, 5, 7, 2, 1, 0] rfl ?_
  exact t_X7_doAll_9 hls hC hl hE 16 _ _ _ _ _ _ _ _ h
theorem c_X7_doAll (l : Launch) (hls : l.stackTraces = false) {S : mS} {a0 : Nat} {a1 : Nat} {a2 : Nat} {a3 : Int32} {a4 : Int32} {o : Rs Int32} (h : f_X7_doAll S a0 a1 a2 a3 a4 = some o) : CT (fun r : Int32 => some (.int r)) l yX7_doAll (.code yX7_doAll cX7_doAll 12 (Option.some Jvm.ClassFile.FieldType.int)) rm_X7_doAll S [.ref a0, .ref a1, .ref a2, .int a3, .int a4] o := ct_of (by decide +kernel) hls (Nat.le_of_ble_eq_true rfl) (fun C hl hC hE => t_X7_doAll hls hC hl hE h)
abbrev rm_X7_canBeDone : Room := { frames := 13, cells := 0, slots := 0, locals := 268 }
def f_X7_canBeDone_61  (S : mS) (s0 : Int32) : Option (Rs Int32) :=
  gd (s0 = 0 ∨ s0 = 1) (some (.inl s0, S))
set_option maxHeartbeats 2000000 in
set_option maxRecDepth 100000 in
theorem t_X7_canBeDone_61 {l : Launch} (hls : l.stackTraces = false) {C : cT} (hC : CX C cX7_canBeDone 3 yX7_canBeDone rm_X7_canBeDone) (hl : C.2.1 = l) {S0 : mS} (hE : CE C S0 (Option.some Jvm.ClassFile.FieldType.boolean) []) {o : Rs Int32} {S : mS} {s0 : Int32} (h : f_X7_canBeDone_61  S s0 = some o) : XX C 3 (QQ C (fun r : Int32 => some (.int r)) S0 o) (0) (0) S 61 [] [.int s0] := by
  unfold f_X7_canBeDone_61 at h
  obtain ⟨g1, h⟩ := gd_some h
  exact x_zreturn (pc := 61) hC hE dX7_canBeDone_61 (nf_B g1).1 (so h) (Nat.le_of_ble_eq_true rfl) (Nat.le_of_ble_eq_true rfl)
def f_X7_canBeDone_35  (S : mS) (a0 : Nat) : Option (Rs Int32) :=
  gd (gK S a0 = 13) (lt9 (gR S a0 3) fun r2 => lt9 (gR S a0 0) fun r3 => lt9 (gI S a0 4) fun x4 => bd (f_X7_doAll S a0 r2 r3 (0 : Int32) x4) fun x5 S6 => if x5 = (-1 : Int32) then (f_X7_canBeDone_61  S6 (0 : Int32)) else (f_X7_canBeDone_61  S6 (1 : Int32)))
set_option maxHeartbeats 2000000 in
set_option maxRecDepth 100000 in
theorem t_X7_canBeDone_35 {l : Launch} (hls : l.stackTraces = false) {C : cT} (hC : CX C cX7_canBeDone 3 yX7_canBeDone rm_X7_canBeDone) (hl : C.2.1 = l) {S0 : mS} (hE : CE C S0 (Option.some Jvm.ClassFile.FieldType.boolean) []) {o : Rs Int32} {S : mS} {a0 : Nat} (h : f_X7_canBeDone_35  S a0 = some o) : XX C 3 (QQ C (fun r : Int32 => some (.int r)) S0 o) (0) (0) S 35 [(0, .ref a0)] [] := by
  unfold f_X7_canBeDone_35 at h
  refine x_aload_n (pc := 35) hC 0 dX7_canBeDone_35 rfl rfl ?_
  refine x_aload_n (pc := 36) hC 0 dX7_canBeDone_36 rfl rfl ?_
  obtain ⟨g1, h⟩ := gd_some h
  refine x_getRv (pc := 37) (k := 3) hC fc_13 fl_RX7_26 dX7_canBeDone_37 rfl g1 (fun r2 hr2 => ?_)
  replace h := lt_x hr2 h
  refine x_aload_n (pc := 40) hC 0 dX7_canBeDone_40 rfl rfl ?_
  refine x_getRv (pc := 41) (k := 0) hC fc_13 fl_RX7_9 dX7_canBeDone_41 rfl g1 (fun r3 hr3 => ?_)
  replace h := lt_x hr3 h
  refine x_iconst (pc := 44) (v := (0 : Int32)) hC dX7_canBeDone_44 (by decide) ?_
  refine x_aload_n (pc := 45) hC 0 dX7_canBeDone_45 rfl rfl ?_
  refine x_getIv (pc := 46) (k := 4) hC fc_13 fl_RX7_31 dX7_canBeDone_46 rfl g1 (fun x4 hx4 => ?_)
  replace h := lt_x hx4 h
  obtain ⟨o7, ho7, h⟩ := bd_some h
  refine x_callV (pc := 49) (As := [.ref r2, .ref r3, .int (0 : Int32), .int x4]) (rest := []) hC hl (c_X7_doAll l hls ho7) lk_RX7_61 fc_13 g1 dX7_canBeDone_49 rfl rfl (Nat.le_of_ble_eq_true rfl) ⟨Nat.le_of_ble_eq_true rfl, Nat.le_of_ble_eq_true rfl⟩ ⟨(Nat.le_of_ble_eq_true rfl), (Nat.le_of_ble_eq_true rfl)⟩ ?_
  rcases o7 with ⟨x5 | E8, S6⟩
  · refine xk_i ?_
    replace h := bk_l h
    refine x_iconst (pc := 52) (v := (-1 : Int32)) hC dX7_canBeDone_52 (by decide) ?_
    refine x_icmp_eq (pc := 53) hC 60 dX7_canBeDone_53 (by decide) (fun c9 => ?_) (fun c9 => ?_)
    · rw [if_pos c9] at h
      refine x_iconst (pc := 60) (v := (0 : Int32)) hC dX7_canBeDone_60 (by decide) ?_
      refine x_pick [] rfl ?_
      exact t_X7_canBeDone_61 hls hC hl hE h
    · rw [if_neg c9] at h
      refine x_iconst (pc := 56) (v := (1 : Int32)) hC dX7_canBeDone_56 (by decide) ?_
      refine x_goto (pc := 57) hC 61 dX7_canBeDone_57 (by decide) ?_
      refine x_pick [] rfl ?_
      exact t_X7_canBeDone_61 hls hC hl hE h
  · exact xk_r (xt_out hC hE (bk_r h) (Nat.le_of_ble_eq_true rfl) (Nat.le_of_ble_eq_true rfl))
def f_X7_canBeDone_2  : Nat → mS → Nat → Nat → Int32 → Option (Rs Int32)
  | 0, _, _, _, _ => none
  | k + 1, S, a0, a1, a2 => gd (gK S a0 = 13) (lt9 (gR S a0 3) fun r2 => gd (gK S r2 = 34) (lt9 (Int32.ofNat (gZ S r2)) fun x4 => if x4 ≤ a2 then (f_X7_canBeDone_35  S a0) else (gd (gK S a1 = 34) (lt9 (Int32.ofNat (gZ S a1)) fun x6 => if x6 ≤ a2 then (f_X7_canBeDone_35  S a0) else (lt9 (gR S a0 3) fun r7 => gd (gK S r7 = 34) (gd (¬ (a2 < 0 ∨ gZ S r7 ≤ (a2).toNatClampNeg)) (lt9 (gR S r7 (a2).toNatClampNeg) fun r11 => gd (¬ (a2 < 0 ∨ gZ S a1 ≤ (a2).toNatClampNeg)) (lt9 (gR S a1 (a2).toNatClampNeg) fun r14 => gd (gK S r11 = 7) (bd (f_X1_copyFrom S r11 r14) fun _ S17 => lt9 (a2 + Int32.ofInt (1)) fun x20 => f_X7_canBeDone_2 k S17 a0 a1 x20)))))))))
set_option maxHeartbeats 2000000 in
set_option maxRecDepth 100000 in
theorem t_X7_canBeDone_2 {l : Launch} (hls : l.stackTraces = false) {C : cT} (hC : CX C cX7_canBeDone 3 yX7_canBeDone rm_X7_canBeDone) (hl : C.2.1 = l) {S0 : mS} (hE : CE C S0 (Option.some Jvm.ClassFile.FieldType.boolean) []) {o : Rs Int32} : ∀ (k : Nat) (S : mS) (a0 : Nat) (a1 : Nat) (a2 : Int32), f_X7_canBeDone_2  k S a0 a1 a2 = some o → XX C 3 (QQ C (fun r : Int32 => some (.int r)) S0 o) (0) (0) S 2 [(0, .ref a0), (1, .ref a1), (2, .int a2)] [] := by
  intro k
  induction k with
  | zero => intro S a0 a1 a2 h; cases h
  | succ k ih =>
    intro S a0 a1 a2 h
    unfold f_X7_canBeDone_2 at h
    refine x_iload_n (pc := 2) hC 2 dX7_canBeDone_2 rfl rfl ?_
    refine x_aload_n (pc := 3) hC 0 dX7_canBeDone_3 rfl rfl ?_
    obtain ⟨g1, h⟩ := gd_some h
    refine x_getRv (pc := 4) (k := 3) hC fc_13 fl_RX7_26 dX7_canBeDone_4 rfl g1 (fun r2 hr2 => ?_)
    replace h := lt_x hr2 h
    obtain ⟨g3, h⟩ := gd_some h
    refine x_alenv (pc := 7) (t0 := 4) hC dX7_canBeDone_7 g3 (by decide) (fun _ => rfl) (fun x4 hx4 => ?_)
    replace h := lt_x hx4 h
    refine x_icmp_ge (pc := 8) hC 35 dX7_canBeDone_8 (by decide) (fun c22 => ?_) (fun c22 => ?_)
    · rw [if_pos c22] at h
      refine x_pick [0] rfl ?_
      exact t_X7_canBeDone_35 hls hC hl hE h
    · rw [if_neg c22] at h
      refine x_iload_n (pc := 11) hC 2 dX7_canBeDone_11 rfl rfl ?_
      refine x_aload_n (pc := 12) hC 1 dX7_canBeDone_12 rfl rfl ?_
      obtain ⟨g5, h⟩ := gd_some h
      refine x_alenv (pc := 13) (t0 := 4) hC dX7_canBeDone_13 g5 (by decide) (fun _ => rfl) (fun x6 hx6 => ?_)
      replace h := lt_x hx6 h
      refine x_icmp_ge (pc := 14) hC 35 dX7_canBeDone_14 (by decide) (fun c21 => ?_) (fun c21 => ?_)
      · rw [if_pos c21] at h
        refine x_pick [0] rfl ?_
        exact t_X7_canBeDone_35 hls hC hl hE h
      · rw [if_neg c21] at h
        refine x_aload_n (pc := 17) hC 0 dX7_canBeDone_17 rfl rfl ?_
        refine x_getRv (pc := 18) (k := 3) hC fc_13 fl_RX7_26 dX7_canBeDone_18 rfl g1 (fun r7 hr7 => ?_)
        replace h := lt_x hr7 h
        refine x_iload_n (pc := 21) hC 2 dX7_canBeDone_21 rfl rfl ?_
        obtain ⟨g10, h⟩ := gd_some h
        obtain ⟨g9, h⟩ := gd_some h
        refine x_raldv (pc := 22) (t0 := 4) hC dX7_canBeDone_22 g10 (by decide) (fun _ => rfl) g9 (fun r11 hr11 => ?_)
        replace h := lt_x hr11 h
        refine x_aload_n (pc := 23) hC 1 dX7_canBeDone_23 rfl rfl ?_
        refine x_iload_n (pc := 24) hC 2 dX7_canBeDone_24 rfl rfl ?_
        obtain ⟨g13, h⟩ := gd_some h
        refine x_raldv (pc := 25) (t0 := 4) hC dX7_canBeDone_25 g5 (by decide) (fun _ => rfl) g13 (fun r14 hr14 => ?_)
        replace h := lt_x hr14 h
        obtain ⟨g15, h⟩ := gd_some h
        obtain ⟨o18, ho18, h⟩ := bd_some h
        refine x_callV (pc := 26) (As := [.ref r14]) (rest := []) hC hl (c_X1_copyFrom l hls ho18) lk_RX7_57 fc_7 g15 dX7_canBeDone_26 rfl rfl (Nat.le_of_ble_eq_true rfl) ⟨Nat.le_of_ble_eq_true rfl, Nat.le_of_ble_eq_true rfl⟩ ⟨(Nat.le_of_ble_eq_true rfl), (Nat.le_of_ble_eq_true rfl)⟩ ?_
        rcases o18 with ⟨_ | E19, S17⟩
        · refine xk_v ?_
          replace h := bk_l h
          obtain ⟨x20, hx20⟩ : ∃ z, z = (a2 + Int32.ofInt (1)) := ⟨_, rfl⟩
          replace h := lt_x hx20 h
          refine x_iinc (pc := 29) hC 2 dX7_canBeDone_29 rfl hx20.symm (by decide) (by decide) rfl ?_
          refine x_goto (pc := 32) hC 2 dX7_canBeDone_32 (by decide) ?_
          refine x_pick [1, 2, 0] rfl ?_
          exact ih _ _ _ _ h
        · exact xk_r (xt_out hC hE (bk_r h) (Nat.le_of_ble_eq_true rfl) (Nat.le_of_ble_eq_true rfl))
def f_X7_canBeDone (S : mS) (a0 : Nat) (a1 : Nat) : Option (Rs Int32) :=
  f_X7_canBeDone_2  16 S a0 a1 (0 : Int32)
set_option maxHeartbeats 2000000 in
set_option maxRecDepth 100000 in
theorem t_X7_canBeDone {l : Launch} (hls : l.stackTraces = false) {C : cT} (hC : CX C cX7_canBeDone 3 yX7_canBeDone rm_X7_canBeDone) (hl : C.2.1 = l) {S0 : mS} (hE : CE C S0 (Option.some Jvm.ClassFile.FieldType.boolean) []) {o : Rs Int32} {S : mS} {a0 : Nat} {a1 : Nat} (h : f_X7_canBeDone S a0 a1 = some o) : XX C 3 (QQ C (fun r : Int32 => some (.int r)) S0 o) 0 0 S 0 [(0, .ref a0), (1, .ref a1)] [] := by
  unfold f_X7_canBeDone at h
  refine x_iconst (pc := 0) (v := (0 : Int32)) hC dX7_canBeDone_0 (by decide) ?_
  refine x_istore_n (pc := 1) hC dX7_canBeDone_1 rfl (by decide) (by decide) rfl ?_
  refine x_pick [1, 2, 0] rfl ?_
  exact t_X7_canBeDone_2 hls hC hl hE 16 _ _ _ _ h
theorem c_X7_canBeDone (l : Launch) (hls : l.stackTraces = false) {S : mS} {a0 : Nat} {a1 : Nat} {o : Rs Int32} (h : f_X7_canBeDone S a0 a1 = some o) : CT (fun r : Int32 => some (.int r)) l yX7_canBeDone (.code yX7_canBeDone cX7_canBeDone 3 (Option.some Jvm.ClassFile.FieldType.boolean)) rm_X7_canBeDone S [.ref a0, .ref a1] o := ct_of (by decide +kernel) hls (Nat.le_of_ble_eq_true rfl) (fun C hl hC hE => t_X7_canBeDone hls hC hl hE h)
abbrev rm_X8_init : Room := { frames := 11, cells := 163, slots := 833, locals := 211 }
def f_X8_init_54  : Nat → mS → Nat → Int32 → Option (Rs Unit)
  | 0, _, _, _ => none
  | k + 1, S, a0, a1 => gd (gK S a0 = 14) (lt9 (gR S a0 1) fun r2 => gd (gK S r2 = 34) (lt9 (Int32.ofNat (gZ S r2)) fun x4 => if x4 ≤ a1 then (gd (gN S + 1 < KB) (zW (sW S 10 0) fun S6 => lt9 (gN S + 1) fun r7 => bd (f_X4_init S6 r7) fun _ S10 => gd (gK S10 a0 = 14) (zR (sR S10 a0 2 r7) fun S14 => gd (gN S14 + 1 < KB) (zW (sW S14 11 0) fun S17 => lt9 (gN S14 + 1) fun r18 => bd (f_X5_init S17 r18) fun _ S21 => gd (gK S21 a0 = 14) (zR (sR S21 a0 3 r18) fun S25 => some (.inl (), S25)))))) else (lt9 (gR S a0 1) fun r27 => gd (gN S + 1 < KB) (zW (sW S 7 0) fun S29 => lt9 (gN S + 1) fun r30 => bd (f_X1_init S29 r30) fun _ S33 => gd (gK S33 r27 = 34) (gd (¬ (a1 < 0 ∨ gZ S33 r27 ≤ (a1).toNatClampNeg)) (gd (gK S33 r30 = 7) (zR (sR S33 r27 (a1).toNatClampNeg r30) fun S38 => lt9 (a1 + Int32.ofInt (1)) fun x42 => f_X8_init_54 k S38 a0 x42)))))))
set_option maxHeartbeats 2000000 in
set_option maxRecDepth 100000 in
theorem t_X8_init_54 {l : Launch} (hls : l.stackTraces = false) {C : cT} (hC : CX C cX8_init 2 yX8_init rm_X8_init) (hl : C.2.1 = l) {S0 : mS} (hE : CE C S0 (Option.none : Option Jvm.ClassFile.FieldType) []) {o : Rs Unit} : ∀ (k cs54 sl54 : Nat) (S : mS) (a0 : Nat) (a1 : Int32), cs54 + k * 13 ≤ 80 → sl54 + k * 51 ≤ 414 → f_X8_init_54  k S a0 a1 = some o → XX C 2 (QQ C (fun _ : Unit => none) S0 o) cs54 sl54 S 54 [(0, .ref a0), (1, .int a1)] [] := by
  intro k
  induction k with
  | zero => intro cs54 sl54 S a0 a1 hcs54 hsl54 h; cases h
  | succ k ih =>
    intro cs54 sl54 S a0 a1 hcs54 hsl54 h
    unfold f_X8_init_54 at h
    refine x_iload_n (pc := 54) hC 1 dX8_init_54 rfl rfl ?_
    refine x_aload_n (pc := 55) hC 0 dX8_init_55 rfl rfl ?_
    obtain ⟨g1, h⟩ := gd_some h
    refine x_getRv (pc := 56) (k := 1) hC fc_14 fl_RX8_22 dX8_init_56 rfl g1 (fun r2 hr2 => ?_)
    replace h := lt_x hr2 h
    obtain ⟨g3, h⟩ := gd_some h
    refine x_alenv (pc := 59) (t0 := 4) hC dX8_init_59 g3 (by decide) (fun _ => rfl) (fun x4 hx4 => ?_)
    replace h := lt_x hx4 h
    refine x_icmp_ge (pc := 60) hC 82 dX8_init_60 (by decide) (fun c43 => ?_) (fun c43 => ?_)
    · rw [if_pos c43] at h
      refine x_aload_n (pc := 82) hC 0 dX8_init_82 rfl rfl ?_
      obtain ⟨g5, h⟩ := gd_some h
      refine x_newv (pc := 83) hC fc_10 fn_10 wm_255 wm_256 wm_52 dX8_init_83 g5 (show cs54 + 1 ≤ (163 : Nat) from by omega) (show sl54 + 2 ≤ (833 : Nat) from by omega) (fun S6 r7 hS6 hr7 => ?_)
      replace h := zW_x hS6 h
      replace h := lt_x hr7 h
      have g8 : gK S6 r7 = 10 := by rw [hr7, hS6]; exact sW_K
      refine x_dup (pc := 86) hC dX8_init_86 rfl ?_
      obtain ⟨o11, ho11, h⟩ := bd_some h
      refine x_callI (pc := 87) (As := []) (rest := [.ref r7, .ref a0]) hC hl (c_X4_init l hls ho11) lk_RX8_29 (by rw [g8]; decide) dX8_init_87 rfl rfl (Nat.le_of_ble_eq_true rfl) ⟨Nat.le_of_ble_eq_true rfl, Nat.le_of_ble_eq_true rfl⟩ ⟨(show cs54 + 3 ≤ (163 : Nat) from by omega), (show sl54 + 14 ≤ (833 : Nat) from by omega)⟩ ?_
      rcases o11 with ⟨_ | E12, S10⟩
      · refine xk_v ?_
        replace h := bk_l h
        refine x_widen (ce' := cs54 + 3) (sl' := sl54 + 14) (Nat.le_refl _) (Nat.le_refl _) ?_
        obtain ⟨g13, h⟩ := gd_some h
        refine x_putRFv (pc := 90) (k := 2) hC fc_14 wm_290 rfl dX8_init_90 rfl rfl rfl rfl (Or.inl ⟨_, rfl⟩) g13 (fun S14 hS14 => ?_)
        replace h := zR_x hS14 h
        have g15 : gK S14 a0 = 14 := by rw [hS14]; exact g13
        refine x_aload_n (pc := 93) hC 0 dX8_init_93 rfl rfl ?_
        obtain ⟨g16, h⟩ := gd_some h
        refine x_newv (pc := 94) hC fc_11 fn_11 wm_268 wm_269 wm_53 dX8_init_94 g16 (show cs54 + 4 ≤ (163 : Nat) from by omega) (show sl54 + 17 ≤ (833 : Nat) from by omega) (fun S17 r18 hS17 hr18 => ?_)
        replace h := zW_x hS17 h
        replace h := lt_x hr18 h
        have g19 : gK S17 r18 = 11 := by rw [hr18, hS17]; exact sW_K
        refine x_dup (pc := 97) hC dX8_init_97 rfl ?_
        obtain ⟨o22, ho22, h⟩ := bd_some h
        refine x_callI (pc := 98) (As := []) (rest := [.ref r18, .ref a0]) hC hl (c_X5_init l hls ho22) lk_RX8_36 (by rw [g19]; decide) dX8_init_98 rfl rfl (Nat.le_of_ble_eq_true rfl) ⟨Nat.le_of_ble_eq_true rfl, Nat.le_of_ble_eq_true rfl⟩ ⟨(show cs54 + 5 ≤ (163 : Nat) from by omega), (show sl54 + 21 ≤ (833 : Nat) from by omega)⟩ ?_
        rcases o22 with ⟨_ | E23, S21⟩
        · refine xk_v ?_
          replace h := bk_l h
          refine x_widen (ce' := cs54 + 5) (sl' := sl54 + 21) (Nat.le_refl _) (Nat.le_refl _) ?_
          obtain ⟨g24, h⟩ := gd_some h
          refine x_putRFv (pc := 101) (k := 3) hC fc_14 wm_292 rfl dX8_init_101 rfl rfl rfl rfl (Or.inl ⟨_, rfl⟩) g24 (fun S25 hS25 => ?_)
          replace h := zR_x hS25 h
          have g26 : gK S25 a0 = 14 := by rw [hS25]; exact g24
          exact x_vreturn (pc := 104) hC hE dX8_init_104 (so h) (show cs54 + 5 ≤ (163 : Nat) from by omega) (show sl54 + 21 ≤ (833 : Nat) from by omega)
        · exact xk_r (xt_out hC hE (bk_r h) (show cs54 + 5 ≤ (163 : Nat) from by omega) (show sl54 + 21 ≤ (833 : Nat) from by omega))
      · exact xk_r (xt_out hC hE (bk_r h) (show cs54 + 3 ≤ (163 : Nat) from by omega) (show sl54 + 14 ≤ (833 : Nat) from by omega))
    · rw [if_neg c43] at h
      refine x_aload_n (pc := 63) hC 0 dX8_init_63 rfl rfl ?_
      refine x_getRv (pc := 64) (k := 1) hC fc_14 fl_RX8_22 dX8_init_64 rfl g1 (fun r27 hr27 => ?_)
      replace h := lt_x hr27 h
      refine x_iload_n (pc := 67) hC 1 dX8_init_67 rfl rfl ?_
      obtain ⟨g28, h⟩ := gd_some h
      refine x_newv (pc := 68) hC fc_7 fn_7 wm_154 wm_156 wm_49 dX8_init_68 g28 (show cs54 + 1 ≤ (163 : Nat) from by omega) (show sl54 + 12 ≤ (833 : Nat) from by omega) (fun S29 r30 hS29 hr30 => ?_)
      replace h := zW_x hS29 h
      replace h := lt_x hr30 h
      have g31 : gK S29 r30 = 7 := by rw [hr30, hS29]; exact sW_K
      refine x_dup (pc := 71) hC dX8_init_71 rfl ?_
      obtain ⟨o34, ho34, h⟩ := bd_some h
      refine x_callI (pc := 72) (As := []) (rest := [.ref r30, .int a1, .ref r27]) hC hl (c_X1_init l hls ho34) lk_RX8_26 (by rw [g31]; decide) dX8_init_72 rfl rfl (Nat.le_of_ble_eq_true rfl) ⟨Nat.le_of_ble_eq_true rfl, Nat.le_of_ble_eq_true rfl⟩ ⟨(show cs54 + 13 ≤ (163 : Nat) from by omega), (show sl54 + 51 ≤ (833 : Nat) from by omega)⟩ ?_
      rcases o34 with ⟨_ | E35, S33⟩
      · refine xk_v ?_
        replace h := bk_l h
        refine x_widen (ce' := cs54 + 13) (sl' := sl54 + 51) (Nat.le_refl _) (Nat.le_refl _) ?_
        obtain ⟨g37, h⟩ := gd_some h
        obtain ⟨g36, h⟩ := gd_some h
        obtain ⟨g39, h⟩ := gd_some h
        refine x_rastv (pc := 75) (t0 := 4) hC fc_7 dX8_init_75 g37 (by decide) (fun _ => rfl) (Or.inl rfl) g39 g36 (fun S38 hS38 => ?_)
        replace h := zR_x hS38 h
        have g40 : gK S38 r27 = 34 := by rw [hS38]; exact g37
        have g41 : gK S38 r30 = 7 := by rw [hS38]; exact g39
        obtain ⟨x42, hx42⟩ : ∃ z, z = (a1 + Int32.ofInt (1)) := ⟨_, rfl⟩
        replace h := lt_x hx42 h
        refine x_iinc (pc := 76) hC 1 dX8_init_76 rfl hx42.symm (by decide) (by decide) rfl ?_
        refine x_goto (pc := 79) hC 54 dX8_init_79 (by decide) ?_
        refine x_pick [1, 0] rfl ?_
        refine x_widen (ce' := cs54 + 13) (sl' := sl54 + 51) (by omega) (by omega) ?_
        exact ih _ _ _ _ _ (by omega) (by omega) h
      · exact xk_r (xt_out hC hE (bk_r h) (show cs54 + 13 ≤ (163 : Nat) from by omega) (show sl54 + 51 ≤ (833 : Nat) from by omega))
def f_X8_init_15  : Nat → mS → Nat → Int32 → Option (Rs Unit)
  | 0, _, _, _ => none
  | k + 1, S, a0, a1 => gd (gK S a0 = 14) (lt9 (gR S a0 0) fun r2 => gd (gK S r2 = 36) (lt9 (Int32.ofNat (gZ S r2)) fun x4 => if x4 ≤ a1 then (gd (gN S + 1 < KB) (zW (sW S 34 4) fun S6 => lt9 (gN S + 1) fun r7 => gd (gK S6 a0 = 14) (zR (sR S6 a0 1 r7) fun S10 => f_X8_init_54  5 S10 a0 (0 : Int32)))) else (lt9 (gR S a0 0) fun r13 => gd (gN S + 1 < KB) (zW (sW S 8 0) fun S15 => lt9 (gN S + 1) fun r16 => bd (f_X2_init S15 r16 a1) fun _ S19 => gd (gK S19 r13 = 36) (gd (¬ (a1 < 0 ∨ gZ S19 r13 ≤ (a1).toNatClampNeg)) (gd (gK S19 r16 = 8) (zR (sR S19 r13 (a1).toNatClampNeg r16) fun S24 => lt9 (a1 + Int32.ofInt (1)) fun x28 => f_X8_init_15 k S24 a0 x28)))))))
set_option maxHeartbeats 2000000 in
set_option maxRecDepth 100000 in
theorem t_X8_init_15 {l : Launch} (hls : l.stackTraces = false) {C : cT} (hC : CX C cX8_init 2 yX8_init rm_X8_init) (hl : C.2.1 = l) {S0 : mS} (hE : CE C S0 (Option.none : Option Jvm.ClassFile.FieldType) []) {o : Rs Unit} : ∀ (k cs15 sl15 : Nat) (S : mS) (a0 : Nat) (a1 : Int32), cs15 + k * 1 ≤ 14 → sl15 + k * 11 ≤ 155 → f_X8_init_15  k S a0 a1 = some o → XX C 2 (QQ C (fun _ : Unit => none) S0 o) cs15 sl15 S 15 [(0, .ref a0), (1, .int a1)] [] := by
  intro k
  induction k with
  | zero => intro cs15 sl15 S a0 a1 hcs15 hsl15 h; cases h
  | succ k ih =>
    intro cs15 sl15 S a0 a1 hcs15 hsl15 h
    unfold f_X8_init_15 at h
    refine x_iload_n (pc := 15) hC 1 dX8_init_15 rfl rfl ?_
    refine x_aload_n (pc := 16) hC 0 dX8_init_16 rfl rfl ?_
    obtain ⟨g1, h⟩ := gd_some h
    refine x_getRv (pc := 17) (k := 0) hC fc_14 fl_RX8_13 dX8_init_17 rfl g1 (fun r2 hr2 => ?_)
    replace h := lt_x hr2 h
    obtain ⟨g3, h⟩ := gd_some h
    refine x_alenv (pc := 20) (t0 := 6) hC dX8_init_20 g3 (by decide) (fun _ => rfl) (fun x4 hx4 => ?_)
    replace h := lt_x hx4 h
    refine x_icmp_ge (pc := 21) hC 44 dX8_init_21 (by decide) (fun c29 => ?_) (fun c29 => ?_)
    · rw [if_pos c29] at h
      refine x_aload_n (pc := 44) hC 0 dX8_init_44 rfl rfl ?_
      refine x_iconst (pc := 45) (v := (4 : Int32)) hC dX8_init_45 (by decide) ?_
      obtain ⟨g5, h⟩ := gd_some h
      refine x_newrv (pc := 46) (z := 4) (kd := 34) (t0 := 4) hC wm_154 wm_155 (by decide) (fun _ => rfl) dX8_init_46 (by decide) (by decide) (Nat.le_of_ble_eq_true rfl) g5 (show cs15 + 1 ≤ (163 : Nat) from by omega) (show sl15 + 4 ≤ (833 : Nat) from by omega) (fun S6 r7 hS6 hr7 => ?_)
      replace h := zW_x hS6 h
      replace h := lt_x hr7 h
      have g8 : gK S6 r7 = 34 := by rw [hr7, hS6]; exact sW_K
      obtain ⟨g9, h⟩ := gd_some h
      refine x_putRFv (pc := 49) (k := 1) hC fc_14 wm_288 rfl dX8_init_49 rfl rfl rfl rfl (Or.inr ⟨_, rfl⟩) g9 (fun S10 hS10 => ?_)
      replace h := zR_x hS10 h
      have g11 : gK S10 r7 = 34 := by rw [hS10]; exact g8
      have g12 : gK S10 a0 = 14 := by rw [hS10]; exact g9
      refine x_iconst (pc := 52) (v := (0 : Int32)) hC dX8_init_52 (by decide) ?_
      refine x_istore_n (pc := 53) hC dX8_init_53 rfl (by decide) (by decide) rfl ?_
      refine x_pick [1, 0] rfl ?_
      refine x_widen (ce' := 15) (sl' := 159) (by omega) (by omega) ?_
      exact t_X8_init_54 hls hC hl hE 5 _ _ _ _ _ (by omega) (by omega) h
    · rw [if_neg c29] at h
      refine x_aload_n (pc := 24) hC 0 dX8_init_24 rfl rfl ?_
      refine x_getRv (pc := 25) (k := 0) hC fc_14 fl_RX8_13 dX8_init_25 rfl g1 (fun r13 hr13 => ?_)
      replace h := lt_x hr13 h
      refine x_iload_n (pc := 28) hC 1 dX8_init_28 rfl rfl ?_
      obtain ⟨g14, h⟩ := gd_some h
      refine x_newv (pc := 29) hC fc_8 fn_8 wm_102 wm_104 wm_48 dX8_init_29 g14 (show cs15 + 1 ≤ (163 : Nat) from by omega) (show sl15 + 11 ≤ (833 : Nat) from by omega) (fun S15 r16 hS15 hr16 => ?_)
      replace h := zW_x hS15 h
      replace h := lt_x hr16 h
      have g17 : gK S15 r16 = 8 := by rw [hr16, hS15]; exact sW_K
      refine x_dup (pc := 32) hC dX8_init_32 rfl ?_
      refine x_iload_n (pc := 33) hC 1 dX8_init_33 rfl rfl ?_
      obtain ⟨o20, ho20, h⟩ := bd_some h
      refine x_callI (pc := 34) (As := [.int a1]) (rest := [.ref r16, .int a1, .ref r13]) hC hl (c_X2_init l hls ho20) lk_RX8_17 (by rw [g17]; decide) dX8_init_34 rfl rfl (Nat.le_of_ble_eq_true rfl) ⟨Nat.le_of_ble_eq_true rfl, Nat.le_of_ble_eq_true rfl⟩ ⟨(show cs15 + 1 ≤ (163 : Nat) from by omega), (show sl15 + 11 ≤ (833 : Nat) from by omega)⟩ ?_
      rcases o20 with ⟨_ | E21, S19⟩
      · refine xk_v ?_
        replace h := bk_l h
        refine x_widen (ce' := cs15 + 1) (sl' := sl15 + 11) (Nat.le_refl _) (Nat.le_refl _) ?_
        obtain ⟨g23, h⟩ := gd_some h
        obtain ⟨g22, h⟩ := gd_some h
        obtain ⟨g25, h⟩ := gd_some h
        refine x_rastv (pc := 37) (t0 := 6) hC fc_8 dX8_init_37 g23 (by decide) (fun _ => rfl) (Or.inl rfl) g25 g22 (fun S24 hS24 => ?_)
        replace h := zR_x hS24 h
        have g26 : gK S24 r13 = 36 := by rw [hS24]; exact g23
        have g27 : gK S24 r16 = 8 := by rw [hS24]; exact g25
        obtain ⟨x28, hx28⟩ : ∃ z, z = (a1 + Int32.ofInt (1)) := ⟨_, rfl⟩
        replace h := lt_x hx28 h
        refine x_iinc (pc := 38) hC 1 dX8_init_38 rfl hx28.symm (by decide) (by decide) rfl ?_
        refine x_goto (pc := 41) hC 15 dX8_init_41 (by decide) ?_
        refine x_pick [1, 0] rfl ?_
        refine x_widen (ce' := cs15 + 1) (sl' := sl15 + 11) (by omega) (by omega) ?_
        exact ih _ _ _ _ _ (by omega) (by omega) h
      · exact xk_r (xt_out hC hE (bk_r h) (show cs15 + 1 ≤ (163 : Nat) from by omega) (show sl15 + 11 ≤ (833 : Nat) from by omega))
def f_X8_init (S : mS) (a0 : Nat) : Option (Rs Unit) :=
  gd (gK S a0 = 14) (gd (gN S + 1 < KB) (zW (sW S 36 12) fun S3 => lt9 (gN S + 1) fun r4 => gd (gK S3 a0 = 14) (zR (sR S3 a0 0 r4) fun S7 => f_X8_init_15  13 S7 a0 (0 : Int32))))
set_option maxHeartbeats 2000000 in
set_option maxRecDepth 100000 in
theorem t_X8_init {l : Launch} (hls : l.stackTraces = false) {C : cT} (hC : CX C cX8_init 2 yX8_init rm_X8_init) (hl : C.2.1 = l) {S0 : mS} (hE : CE C S0 (Option.none : Option Jvm.ClassFile.FieldType) []) {o : Rs Unit} {S : mS} {a0 : Nat} (h : f_X8_init S a0 = some o) : XX C 2 (QQ C (fun _ : Unit => none) S0 o) 0 0 S 0 [(0, .ref a0)] [] := by
  unfold f_X8_init at h
  refine x_aload_n (pc := 0) hC 0 dX8_init_0 rfl rfl ?_
  obtain ⟨g1, h⟩ := gd_some h
  refine x_objInit (pc := 1) hC wm_101 wm_94 wm_95 dX8_init_1 (by rw [g1]; decide) (Nat.le_of_ble_eq_true rfl) (Nat.le_of_ble_eq_true rfl) ?_
  refine x_aload_n (pc := 4) hC 0 dX8_init_4 rfl rfl ?_
  refine x_bipush (pc := 5) (v := (12 : Int32)) hC dX8_init_5 (by decide) ?_
  obtain ⟨g2, h⟩ := gd_some h
  refine x_newrv (pc := 7) (z := 12) (kd := 36) (t0 := 6) hC wm_102 wm_103 (by decide) (fun _ => rfl) dX8_init_7 (by decide) (by decide) (Nat.le_of_ble_eq_true rfl) g2 (Nat.le_of_ble_eq_true rfl) (Nat.le_of_ble_eq_true rfl) (fun S3 r4 hS3 hr4 => ?_)
  replace h := zW_x hS3 h
  replace h := lt_x hr4 h
  have g5 : gK S3 r4 = 36 := by rw [hr4, hS3]; exact sW_K
  obtain ⟨g6, h⟩ := gd_some h
  refine x_putRFv (pc := 10) (k := 0) hC fc_14 wm_286 rfl dX8_init_10 rfl rfl rfl rfl (Or.inr ⟨_, rfl⟩) g6 (fun S7 hS7 => ?_)
  replace h := zR_x hS7 h
  have g8 : gK S7 r4 = 36 := by rw [hS7]; exact g5
  have g9 : gK S7 a0 = 14 := by rw [hS7]; exact g6
  refine x_iconst (pc := 13) (v := (0 : Int32)) hC dX8_init_13 (by decide) ?_
  refine x_istore_n (pc := 14) hC dX8_init_14 rfl (by decide) (by decide) rfl ?_
  refine x_pick [1, 0] rfl ?_
  refine x_widen (ce' := 1) (sl' := 12) (Nat.le_of_ble_eq_true rfl) (Nat.le_of_ble_eq_true rfl) ?_
  exact t_X8_init_15 hls hC hl hE 13 _ _ _ _ _ (by omega) (by omega) h
theorem c_X8_init (l : Launch) (hls : l.stackTraces = false) {S : mS} {a0 : Nat} {o : Rs Unit} (h : f_X8_init S a0 = some o) : CT (fun _ : Unit => none) l yX8_init (.code yX8_init cX8_init 2 (Option.none : Option Jvm.ClassFile.FieldType)) rm_X8_init S [.ref a0] o := ct_of (by decide +kernel) hls (Nat.le_of_ble_eq_true rfl) (fun C hl hC hE => t_X8_init hls hC hl hE h)
abbrev rm_X8_addDisc : Room := { frames := 9, cells := 0, slots := 0, locals := 177 }
def f_X8_addDisc_19  (S : mS) : Option (Rs Int32) :=
  some (.inl (-1 : Int32), S)
set_option maxHeartbeats 2000000 in
set_option maxRecDepth 100000 in
theorem t_X8_addDisc_19 {l : Launch} (hls : l.stackTraces = false) {C : cT} (hC : CX C cX8_addDisc 8 yX8_addDisc rm_X8_addDisc) (hl : C.2.1 = l) {S0 : mS} (hE : CE C S0 (Option.some Jvm.ClassFile.FieldType.int) []) {o : Rs Int32} {S : mS} (h : f_X8_addDisc_19  S = some o) : XX C 8 (QQ C (fun r : Int32 => some (.int r)) S0 o) (0) (0) S 19 [] [] := by
  unfold f_X8_addDisc_19 at h
  refine x_iconst (pc := 19) (v := (-1 : Int32)) hC dX8_addDisc_19 (by decide) ?_
  exact x_ireturn (pc := 20) hC hE dX8_addDisc_20 (so h) (Nat.le_of_ble_eq_true rfl) (Nat.le_of_ble_eq_true rfl)
def f_X8_addDisc (S : mS) (a0 : Nat) (a1 : Int32) (a2 : Int32) (a3 : Int32) (a4 : Int32) (a5 : Int32) (a6 : Int32) (a7 : Int32) : Option (Rs Int32) :=
  gd (gK S a0 = 14) (lt9 (gI S a0 4) fun x2 => if x2 < 0 then (f_X8_addDisc_19  S) else (lt9 (gI S a0 4) fun x3 => lt9 (gR S a0 0) fun r4 => gd (gK S r4 = 36) (lt9 (Int32.ofNat (gZ S r4)) fun x6 => if x3 < x6 then (lt9 (gR S a0 0) fun r7 => lt9 (gI S a0 4) fun x8 => gd (gK S r7 = 36) (gd (¬ (x8 < 0 ∨ gZ S r7 ≤ (x8).toNatClampNeg)) (lt9 (gR S r7 (x8).toNatClampNeg) fun r12 => gd (gK S r12 = 8) (bd (f_X2_fill S r12 a1 a2 a3 a4 a5 a6 a7) fun _ S15 => gd (gK S15 a0 = 14) (lt9 (gI S15 a0 4) fun x19 => lt9 (x19 + (1 : Int32)) fun x20 => zI (sI S15 a0 4 x20) fun S21 => lt9 (gI S21 a0 4) fun x23 => lt9 (x23 - (1 : Int32)) fun x24 => some (.inl x24, S21)))))) else (f_X8_addDisc_19  S))))
set_option maxHeartbeats 2000000 in
set_option maxRecDepth 100000 in
theorem t_X8_addDisc {l : Launch} (hls : l.stackTraces = false) {C : cT} (hC : CX C cX8_addDisc 8 yX8_addDisc rm_X8_addDisc) (hl : C.2.1 = l) {S0 : mS} (hE : CE C S0 (Option.some Jvm.ClassFile.FieldType.int) []) {o : Rs Int32} {S : mS} {a0 : Nat} {a1 : Int32} {a2 : Int32} {a3 : Int32} {a4 : Int32} {a5 : Int32} {a6 : Int32} {a7 : Int32} (h : f_X8_addDisc S a0 a1 a2 a3 a4 a5 a6 a7 = some o) : XX C 8 (QQ C (fun r : Int32 => some (.int r)) S0 o) 0 0 S 0 [(0, .ref a0), (1, .int a1), (2, .int a2), (3, .int a3), (4, .int a4), (5, .int a5), (6, .int a6), (7, .int a7)] [] := by
  unfold f_X8_addDisc at h
  refine x_aload_n (pc := 0) hC 0 dX8_addDisc_0 rfl rfl ?_
  obtain ⟨g1, h⟩ := gd_some h
  refine x_getIv (pc := 1) (k := 4) hC fc_14 fl_RX8_41 dX8_addDisc_1 rfl g1 (fun x2 hx2 => ?_)
  replace h := lt_x hx2 h
  refine x_if_lt (pc := 4) hC 19 dX8_addDisc_4 (by decide) (fun c26 => ?_) (fun c26 => ?_)
  · rw [if_pos c26] at h
    refine x_pick [] rfl ?_
    exact t_X8_addDisc_19 hls hC hl hE h
  · rw [if_neg c26] at h
    refine x_aload_n (pc := 7) hC 0 dX8_addDisc_7 rfl rfl ?_
    refine x_getIv (pc := 8) (k := 4) hC fc_14 fl_RX8_41 dX8_addDisc_8 rfl g1 (fun x3 hx3 => ?_)
    replace h := lt_x hx3 h
    refine x_aload_n (pc := 11) hC 0 dX8_addDisc_11 rfl rfl ?_
    refine x_getRv (pc := 12) (k := 0) hC fc_14 fl_RX8_13 dX8_addDisc_12 rfl g1 (fun r4 hr4 => ?_)
    replace h := lt_x hr4 h
    obtain ⟨g5, h⟩ := gd_some h
    refine x_alenv (pc := 15) (t0 := 6) hC dX8_addDisc_15 g5 (by decide) (fun _ => rfl) (fun x6 hx6 => ?_)
    replace h := lt_x hx6 h
    refine x_icmp_lt (pc := 16) hC 21 dX8_addDisc_16 (by decide) (fun c25 => ?_) (fun c25 => ?_)
    · rw [if_pos c25] at h
      refine x_aload_n (pc := 21) hC 0 dX8_addDisc_21 rfl rfl ?_
      refine x_getRv (pc := 22) (k := 0) hC fc_14 fl_RX8_13 dX8_addDisc_22 rfl g1 (fun r7 hr7 => ?_)
      replace h := lt_x hr7 h
      refine x_aload_n (pc := 25) hC 0 dX8_addDisc_25 rfl rfl ?_
      refine x_getIv (pc := 26) (k := 4) hC fc_14 fl_RX8_41 dX8_addDisc_26 rfl g1 (fun x8 hx8 => ?_)
      replace h := lt_x hx8 h
      obtain ⟨g11, h⟩ := gd_some h
      obtain ⟨g10, h⟩ := gd_some h
      refine x_raldv (pc := 29) (t0 := 6) hC dX8_addDisc_29 g11 (by decide) (fun _ => rfl) g10 (fun r12 hr12 => ?_)
      replace h := lt_x hr12 h
      refine x_iload_n (pc := 30) hC 1 dX8_addDisc_30 rfl rfl ?_
      refine x_iload_n (pc := 31) hC 2 dX8_addDisc_31 rfl rfl ?_
      refine x_iload_n (pc := 32) hC 3 dX8_addDisc_32 rfl rfl ?_
      refine x_iload (pc := 33) hC 4 dX8_addDisc_33 rfl ?_
      refine x_iload (pc := 35) hC 5 dX8_addDisc_35 rfl ?_
      refine x_iload (pc := 37) hC 6 dX8_addDisc_37 rfl ?_
      refine x_iload (pc := 39) hC 7 dX8_addDisc_39 rfl ?_
      obtain ⟨g13, h⟩ := gd_some h
      obtain ⟨o16, ho16, h⟩ := bd_some h
      refine x_callV (pc := 41) (As := [.int a1, .int a2, .int a3, .int a4, .int a5, .int a6, .int a7]) (rest := []) hC hl (c_X2_fill l hls ho16) lk_RX8_45 fc_8 g13 dX8_addDisc_41 rfl rfl (Nat.le_of_ble_eq_true rfl) ⟨Nat.le_of_ble_eq_true rfl, Nat.le_of_ble_eq_true rfl⟩ ⟨(Nat.le_of_ble_eq_true rfl), (Nat.le_of_ble_eq_true rfl)⟩ ?_
      rcases o16 with ⟨_ | E17, S15⟩
      · refine xk_v ?_
        replace h := bk_l h
        refine x_aload_n (pc := 44) hC 0 dX8_addDisc_44 rfl rfl ?_
        refine x_dup (pc := 45) hC dX8_addDisc_45 rfl ?_
        obtain ⟨g18, h⟩ := gd_some h
        refine x_getIv (pc := 46) (k := 4) hC fc_14 fl_RX8_41 dX8_addDisc_46 rfl g18 (fun x19 hx19 => ?_)
        replace h := lt_x hx19 h
        refine x_iconst (pc := 49) (v := (1 : Int32)) hC dX8_addDisc_49 (by decide) ?_
        refine x_iaddv (pc := 50) hC dX8_addDisc_50 (fun x20 hx20 => ?_)
        replace h := lt_x hx20 h
        refine x_putIv (pc := 51) (k := 4) hC fc_14 fl_RX8_41 dX8_addDisc_51 rfl rfl (nf_int _) g18 (fun S21 hS21 => ?_)
        replace h := zI_x hS21 h
        have g22 : gK S21 a0 = 14 := by rw [hS21]; exact g18
        refine x_aload_n (pc := 54) hC 0 dX8_addDisc_54 rfl rfl ?_
        refine x_getIv (pc := 55) (k := 4) hC fc_14 fl_RX8_41 dX8_addDisc_55 rfl g22 (fun x23 hx23 => ?_)
        replace h := lt_x hx23 h
        refine x_iconst (pc := 58) (v := (1 : Int32)) hC dX8_addDisc_58 (by decide) ?_
        refine x_isubv (pc := 59) hC dX8_addDisc_59 (fun x24 hx24 => ?_)
        replace h := lt_x hx24 h
        exact x_ireturn (pc := 60) hC hE dX8_addDisc_60 (so h) (Nat.le_of_ble_eq_true rfl) (Nat.le_of_ble_eq_true rfl)
      · exact xk_r (xt_out hC hE (bk_r h) (Nat.le_of_ble_eq_true rfl) (Nat.le_of_ble_eq_true rfl))
    · rw [if_neg c25] at h
      refine x_pick [] rfl ?_
      exact t_X8_addDisc_19 hls hC hl hE h
theorem c_X8_addDisc (l : Launch) (hls : l.stackTraces = false) {S : mS} {a0 : Nat} {a1 : Int32} {a2 : Int32} {a3 : Int32} {a4 : Int32} {a5 : Int32} {a6 : Int32} {a7 : Int32} {o : Rs Int32} (h : f_X8_addDisc S a0 a1 a2 a3 a4 a5 a6 a7 = some o) : CT (fun r : Int32 => some (.int r)) l yX8_addDisc (.code yX8_addDisc cX8_addDisc 8 (Option.some Jvm.ClassFile.FieldType.int)) rm_X8_addDisc S [.ref a0, .int a1, .int a2, .int a3, .int a4, .int a5, .int a6, .int a7] o := ct_of (by decide +kernel) hls (Nat.le_of_ble_eq_true rfl) (fun C hl hC hE => t_X8_addDisc hls hC hl hE h)
abbrev rm_X8_discAt : Room := { frames := 8, cells := 0, slots := 0, locals := 150 }
def f_X8_discAt_31  (S : mS) (s0 : Nat) : Option (Rs Nat) :=
  some (.inl s0, S)
set_option maxHeartbeats 2000000 in
set_option maxRecDepth 100000 in
theorem t_X8_discAt_31 {l : Launch} (hls : l.stackTraces = false) {C : cT} (hC : CX C cX8_discAt 2 yX8_discAt rm_X8_discAt) (hl : C.2.1 = l) {S0 : mS} (hE : CE C S0 (Option.some (Jvm.ClassFile.FieldType.object "MixBooth$Disc")) []) {o : Rs Nat} {S : mS} {s0 : Nat} (h : f_X8_discAt_31  S s0 = some o) : XX C 2 (QQ C (fun r : Nat => some (.ref r)) S0 o) (0) (0) S 31 [] [.ref s0] := by
  unfold f_X8_discAt_31 at h
  exact x_areturn (pc := 31) hC hE (Or.inl ⟨_, rfl⟩) dX8_discAt_31 (so h) (Nat.le_of_ble_eq_true rfl) (Nat.le_of_ble_eq_true rfl)
def f_X8_discAt_30  (S : mS) : Option (Rs Nat) :=
  f_X8_discAt_31  S 0
set_option maxHeartbeats 2000000 in
set_option maxRecDepth 100000 in
theorem t_X8_discAt_30 {l : Launch} (hls : l.stackTraces = false) {C : cT} (hC : CX C cX8_discAt 2 yX8_discAt rm_X8_discAt) (hl : C.2.1 = l) {S0 : mS} (hE : CE C S0 (Option.some (Jvm.ClassFile.FieldType.object "MixBooth$Disc")) []) {o : Rs Nat} {S : mS} (h : f_X8_discAt_30  S = some o) : XX C 2 (QQ C (fun r : Nat => some (.ref r)) S0 o) (0) (0) S 30 [] [] := by
  unfold f_X8_discAt_30 at h
  refine x_null (pc := 30) hC dX8_discAt_30 ?_
  refine x_pick [] rfl ?_
  exact t_X8_discAt_31 hls hC hl hE h
def f_X8_discAt (S : mS) (a0 : Nat) (a1 : Int32) : Option (Rs Nat) :=
  if a1 < 0 then (f_X8_discAt_30  S) else (gd (gK S a0 = 14) (lt9 (gI S a0 4) fun x2 => if x2 ≤ a1 then (f_X8_discAt_30  S) else (lt9 (gR S a0 0) fun r3 => gd (gK S r3 = 36) (lt9 (Int32.ofNat (gZ S r3)) fun x5 => if x5 ≤ a1 then (f_X8_discAt_30  S) else (lt9 (gR S a0 0) fun r6 => gd (gK S r6 = 36) (gd (¬ (a1 < 0 ∨ gZ S r6 ≤ (a1).toNatClampNeg)) (lt9 (gR S r6 (a1).toNatClampNeg) fun r10 => f_X8_discAt_31  S r10)))))))
set_option maxHeartbeats 2000000 in
set_option maxRecDepth 100000 in
theorem t_X8_discAt {l : Launch} (hls : l.stackTraces = false) {C : cT} (hC : CX C cX8_discAt 2 yX8_discAt rm_X8_discAt) (hl : C.2.1 = l) {S0 : mS} (hE : CE C S0 (Option.some (Jvm.ClassFile.FieldType.object "MixBooth$Disc")) []) {o : Rs Nat} {S : mS} {a0 : Nat} {a1 : Int32} (h : f_X8_discAt S a0 a1 = some o) : XX C 2 (QQ C (fun r : Nat => some (.ref r)) S0 o) 0 0 S 0 [(0, .ref a0), (1, .int a1)] [] := by
  unfold f_X8_discAt at h
  refine x_iload_n (pc := 0) hC 1 dX8_discAt_0 rfl rfl ?_
  refine x_if_lt (pc := 1) hC 30 dX8_discAt_1 (by decide) (fun c13 => ?_) (fun c13 => ?_)
  · rw [if_pos c13] at h
    refine x_pick [] rfl ?_
    exact t_X8_discAt_30 hls hC hl hE h
  · rw [if_neg c13] at h
    refine x_iload_n (pc := 4) hC 1 dX8_discAt_4 rfl rfl ?_
    refine x_aload_n (pc := 5) hC 0 dX8_discAt_5 rfl rfl ?_
    obtain ⟨g1, h⟩ := gd_some h
    refine x_getIv (pc := 6) (k := 4) hC fc_14 fl_RX8_41 dX8_discAt_6 rfl g1 (fun x2 hx2 => ?_)
    replace h := lt_x hx2 h
    refine x_icmp_ge (pc := 9) hC 30 dX8_discAt_9 (by decide) (fun c12 => ?_) (fun c12 => ?_)
    · rw [if_pos c12] at h
      refine x_pick [] rfl ?_
      exact t_X8_discAt_30 hls hC hl hE h
    · rw [if_neg c12] at h
      refine x_iload_n (pc := 12) hC 1 dX8_discAt_12 rfl rfl ?_
      refine x_aload_n (pc := 13) hC 0 dX8_discAt_13 rfl rfl ?_
      refine x_getRv (pc := 14) (k := 0) hC fc_14 fl_RX8_13 dX8_discAt_14 rfl g1 (fun r3 hr3 => ?_)
      replace h := lt_x hr3 h
      obtain ⟨g4, h⟩ := gd_some h
      refine x_alenv (pc := 17) (t0 := 6) hC dX8_discAt_17 g4 (by decide) (fun _ => rfl) (fun x5 hx5 => ?_)
      replace h := lt_x hx5 h
      refine x_icmp_ge (pc := 18) hC 30 dX8_discAt_18 (by decide) (fun c11 => ?_) (fun c11 => ?_)
      · rw [if_pos c11] at h
        refine x_pick [] rfl ?_
        exact t_X8_discAt_30 hls hC hl hE h
      · rw [if_neg c11] at h
        refine x_aload_n (pc := 21) hC 0 dX8_discAt_21 rfl rfl ?_
        refine x_getRv (pc := 22) (k := 0) hC fc_14 fl_RX8_13 dX8_discAt_22 rfl g1 (fun r6 hr6 => ?_)
        replace h := lt_x hr6 h
        refine x_iload_n (pc := 25) hC 1 dX8_discAt_25 rfl rfl ?_
        obtain ⟨g9, h⟩ := gd_some h
        obtain ⟨g8, h⟩ := gd_some h
        refine x_raldv (pc := 26) (t0 := 6) hC dX8_discAt_26 g9 (by decide) (fun _ => rfl) g8 (fun r10 hr10 => ?_)
        replace h := lt_x hr10 h
        refine x_goto (pc := 27) hC 31 dX8_discAt_27 (by decide) ?_
        refine x_pick [] rfl ?_
        exact t_X8_discAt_31 hls hC hl hE h
theorem c_X8_discAt (l : Launch) (hls : l.stackTraces = false) {S : mS} {a0 : Nat} {a1 : Int32} {o : Rs Nat} (h : f_X8_discAt S a0 a1 = some o) : CT (fun r : Nat => some (.ref r)) l yX8_discAt (.code yX8_discAt cX8_discAt 2 (Option.some (Jvm.ClassFile.FieldType.object "MixBooth$Disc"))) rm_X8_discAt S [.ref a0, .int a1] o := ct_of (by decide +kernel) hls (Nat.le_of_ble_eq_true rfl) (fun C hl hC hE => t_X8_discAt hls hC hl hE h)
abbrev rm_X8_deckAt : Room := { frames := 8, cells := 0, slots := 0, locals := 150 }
def f_X8_deckAt_23  (S : mS) (s0 : Nat) : Option (Rs Nat) :=
  some (.inl s0, S)
set_option maxHeartbeats 2000000 in
set_option maxRecDepth 100000 in
theorem t_X8_deckAt_23 {l : Launch} (hls : l.stackTraces = false) {C : cT} (hC : CX C cX8_deckAt 2 yX8_deckAt rm_X8_deckAt) (hl : C.2.1 = l) {S0 : mS} (hE : CE C S0 (Option.some (Jvm.ClassFile.FieldType.object "MixBooth$Deck")) []) {o : Rs Nat} {S : mS} {s0 : Nat} (h : f_X8_deckAt_23  S s0 = some o) : XX C 2 (QQ C (fun r : Nat => some (.ref r)) S0 o) (0) (0) S 23 [] [.ref s0] := by
  unfold f_X8_deckAt_23 at h
  exact x_areturn (pc := 23) hC hE (Or.inl ⟨_, rfl⟩) dX8_deckAt_23 (so h) (Nat.le_of_ble_eq_true rfl) (Nat.le_of_ble_eq_true rfl)
def f_X8_deckAt_22  (S : mS) : Option (Rs Nat) :=
  f_X8_deckAt_23  S 0
set_option maxHeartbeats 2000000 in
set_option maxRecDepth 100000 in
theorem t_X8_deckAt_22 {l : Launch} (hls : l.stackTraces = false) {C : cT} (hC : CX C cX8_deckAt 2 yX8_deckAt rm_X8_deckAt) (hl : C.2.1 = l) {S0 : mS} (hE : CE C S0 (Option.some (Jvm.ClassFile.FieldType.object "MixBooth$Deck")) []) {o : Rs Nat} {S : mS} (h : f_X8_deckAt_22  S = some o) : XX C 2 (QQ C (fun r : Nat => some (.ref r)) S0 o) (0) (0) S 22 [] [] := by
  unfold f_X8_deckAt_22 at h
  refine x_null (pc := 22) hC dX8_deckAt_22 ?_
  refine x_pick [] rfl ?_
  exact t_X8_deckAt_23 hls hC hl hE h
def f_X8_deckAt (S : mS) (a0 : Nat) (a1 : Int32) : Option (Rs Nat) :=
  if a1 < 0 then (f_X8_deckAt_22  S) else (gd (gK S a0 = 14) (lt9 (gR S a0 1) fun r2 => gd (gK S r2 = 34) (lt9 (Int32.ofNat (gZ S r2)) fun x4 => if x4 ≤ a1 then (f_X8_deckAt_22  S) else (lt9 (gR S a0 1) fun r5 => gd (gK S r5 = 34) (gd (¬ (a1 < 0 ∨ gZ S r5 ≤ (a1).toNatClampNeg)) (lt9 (gR S r5 (a1).toNatClampNeg) fun r9 => f_X8_deckAt_23  S r9))))))
set_option maxHeartbeats 2000000 in
set_option maxRecDepth 100000 in
theorem t_X8_deckAt {l : Launch} (hls : l.stackTraces = false) {C : cT} (hC : CX C cX8_deckAt 2 yX8_deckAt rm_X8_deckAt) (hl : C.2.1 = l) {S0 : mS} (hE : CE C S0 (Option.some (Jvm.ClassFile.FieldType.object "MixBooth$Deck")) []) {o : Rs Nat} {S : mS} {a0 : Nat} {a1 : Int32} (h : f_X8_deckAt S a0 a1 = some o) : XX C 2 (QQ C (fun r : Nat => some (.ref r)) S0 o) 0 0 S 0 [(0, .ref a0), (1, .int a1)] [] := by
  unfold f_X8_deckAt at h
  refine x_iload_n (pc := 0) hC 1 dX8_deckAt_0 rfl rfl ?_
  refine x_if_lt (pc := 1) hC 22 dX8_deckAt_1 (by decide) (fun c11 => ?_) (fun c11 => ?_)
  · rw [if_pos c11] at h
    refine x_pick [] rfl ?_
    exact t_X8_deckAt_22 hls hC hl hE h
  · rw [if_neg c11] at h
    refine x_iload_n (pc := 4) hC 1 dX8_deckAt_4 rfl rfl ?_
    refine x_aload_n (pc := 5) hC 0 dX8_deckAt_5 rfl rfl ?_
    obtain ⟨g1, h⟩ := gd_some h
    refine x_getRv (pc := 6) (k := 1) hC fc_14 fl_RX8_22 dX8_deckAt_6 rfl g1 (fun r2 hr2 => ?_)
    replace h := lt_x hr2 h
    obtain ⟨g3, h⟩ := gd_some h
    refine x_alenv (pc := 9) (t0 := 4) hC dX8_deckAt_9 g3 (by decide) (fun _ => rfl) (fun x4 hx4 => ?_)
    replace h := lt_x hx4 h
    refine x_icmp_ge (pc := 10) hC 22 dX8_deckAt_10 (by decide) (fun c10 => ?_) (fun c10 => ?_)
    · rw [if_pos c10] at h
      refine x_pick [] rfl ?_
      exact t_X8_deckAt_22 hls hC hl hE h
    · rw [if_neg c10] at h
      refine x_aload_n (pc := 13) hC 0 dX8_deckAt_13 rfl rfl ?_
      refine x_getRv (pc := 14) (k := 1) hC fc_14 fl_RX8_22 dX8_deckAt_14 rfl g1 (fun r5 hr5 => ?_)
      replace h := lt_x hr5 h
      refine x_iload_n (pc := 17) hC 1 dX8_deckAt_17 rfl rfl ?_
      obtain ⟨g8, h⟩ := gd_some h
      obtain ⟨g7, h⟩ := gd_some h
      refine x_raldv (pc := 18) (t0 := 4) hC dX8_deckAt_18 g8 (by decide) (fun _ => rfl) g7 (fun r9 hr9 => ?_)
      replace h := lt_x hr9 h
      refine x_goto (pc := 19) hC 23 dX8_deckAt_19 (by decide) ?_
      refine x_pick [] rfl ?_
      exact t_X8_deckAt_23 hls hC hl hE h
theorem c_X8_deckAt (l : Launch) (hls : l.stackTraces = false) {S : mS} {a0 : Nat} {a1 : Int32} {o : Rs Nat} (h : f_X8_deckAt S a0 a1 = some o) : CT (fun r : Nat => some (.ref r)) l yX8_deckAt (.code yX8_deckAt cX8_deckAt 2 (Option.some (Jvm.ClassFile.FieldType.object "MixBooth$Deck"))) rm_X8_deckAt S [.ref a0, .int a1] o := ct_of (by decide +kernel) hls (Nat.le_of_ble_eq_true rfl) (fun C hl hC hE => t_X8_deckAt hls hC hl hE h)
abbrev rm_X8_isOnDeck : Room := { frames := 8, cells := 0, slots := 0, locals := 150 }
def f_X8_isOnDeck_2  : Nat → mS → Nat → Nat → Int32 → Option (Rs Int32)
  | 0, _, _, _, _ => none
  | k + 1, S, a0, a1, a2 => gd (gK S a0 = 14) (lt9 (gR S a0 1) fun r2 => gd (gK S r2 = 34) (lt9 (Int32.ofNat (gZ S r2)) fun x4 => if x4 ≤ a2 then (some (.inl (0 : Int32), S)) else (lt9 (gR S a0 1) fun r5 => gd (gK S r5 = 34) (gd (¬ (a2 < 0 ∨ gZ S r5 ≤ (a2).toNatClampNeg)) (lt9 (gR S r5 (a2).toNatClampNeg) fun r9 => gd (gK S r9 = 7) (lt9 (gR S r9 2) fun r11 => gd (r11 < KB ∧ a1 < KB) (if r11 = a1 then (some (.inl (1 : Int32), S)) else (lt9 (a2 + Int32.ofInt (1)) fun x14 => f_X8_isOnDeck_2 k S a0 a1 x14))))))))
set_option maxHeartbeats 2000000 in
set_option maxRecDepth 100000 in
theorem t_X8_isOnDeck_2 {l : Launch} (hls : l.stackTraces = false) {C : cT} (hC : CX C cX8_isOnDeck 3 yX8_isOnDeck rm_X8_isOnDeck) (hl : C.2.1 = l) {S0 : mS} (hE : CE C S0 (Option.some Jvm.ClassFile.FieldType.boolean) []) {o : Rs Int32} : ∀ (k : Nat) (S : mS) (a0 : Nat) (a1 : Nat) (a2 : Int32), f_X8_isOnDeck_2  k S a0 a1 a2 = some o → XX C 3 (QQ C (fun r : Int32 => some (.int r)) S0 o) (0) (0) S 2 [(0, .ref a0), (1, .ref a1), (2, .int a2)] [] := by
  intro k
  induction k with
  | zero => intro S a0 a1 a2 h; cases h
  | succ k ih =>
    intro S a0 a1 a2 h
    unfold f_X8_isOnDeck_2 at h
    refine x_iload_n (pc := 2) hC 2 dX8_isOnDeck_2 rfl rfl ?_
    refine x_aload_n (pc := 3) hC 0 dX8_isOnDeck_3 rfl rfl ?_
    obtain ⟨g1, h⟩ := gd_some h
    refine x_getRv (pc := 4) (k := 1) hC fc_14 fl_RX8_22 dX8_isOnDeck_4 rfl g1 (fun r2 hr2 => ?_)
    replace h := lt_x hr2 h
    obtain ⟨g3, h⟩ := gd_some h
    refine x_alenv (pc := 7) (t0 := 4) hC dX8_isOnDeck_7 g3 (by decide) (fun _ => rfl) (fun x4 hx4 => ?_)
    replace h := lt_x hx4 h
    refine x_icmp_ge (pc := 8) hC 32 dX8_isOnDeck_8 (by decide) (fun c16 => ?_) (fun c16 => ?_)
    · rw [if_pos c16] at h
      refine x_iconst (pc := 32) (v := (0 : Int32)) hC dX8_isOnDeck_32 (by decide) ?_
      exact x_zreturn (pc := 33) hC hE dX8_isOnDeck_33 (show NF .boolean _ from ⟨rfl, rfl⟩).1 (so h) (Nat.le_of_ble_eq_true rfl) (Nat.le_of_ble_eq_true rfl)
    · rw [if_neg c16] at h
      refine x_aload_n (pc := 11) hC 0 dX8_isOnDeck_11 rfl rfl ?_
      refine x_getRv (pc := 12) (k := 1) hC fc_14 fl_RX8_22 dX8_isOnDeck_12 rfl g1 (fun r5 hr5 => ?_)
      replace h := lt_x hr5 h
      refine x_iload_n (pc := 15) hC 2 dX8_isOnDeck_15 rfl rfl ?_
      obtain ⟨g8, h⟩ := gd_some h
      obtain ⟨g7, h⟩ := gd_some h
      refine x_raldv (pc := 16) (t0 := 4) hC dX8_isOnDeck_16 g8 (by decide) (fun _ => rfl) g7 (fun r9 hr9 => ?_)
      replace h := lt_x hr9 h
      obtain ⟨g10, h⟩ := gd_some h
      refine x_getRv (pc := 17) (k := 2) hC fc_7 fl_RX8_49 dX8_isOnDeck_17 rfl g10 (fun r11 hr11 => ?_)
      replace h := lt_x hr11 h
      refine x_aload_n (pc := 20) hC 1 dX8_isOnDeck_20 rfl rfl ?_
      obtain ⟨⟨g12, g13⟩, h⟩ := gd_some h
      refine x_acmp_ne (pc := 21) hC g12 g13 26 dX8_isOnDeck_21 (by decide) (fun c15 => ?_) (fun c15 => ?_)
      · rw [if_neg c15] at h
        obtain ⟨x14, hx14⟩ : ∃ z, z = (a2 + Int32.ofInt (1)) := ⟨_, rfl⟩
        replace h := lt_x hx14 h
        refine x_iinc (pc := 26) hC 2 dX8_isOnDeck_26 rfl hx14.symm (by decide) (by decide) rfl ?_
        refine x_goto (pc := 29) hC 2 dX8_isOnDeck_29 (by decide) ?_
        refine x_pick [1, 2, 0] rfl ?_
        exact ih _ _ _ _ h
      · rw [if_pos c15] at h
        refine x_iconst (pc := 24) (v := (1 : Int32)) hC dX8_isOnDeck_24 (by decide) ?_
        exact x_zreturn (pc := 25) hC hE dX8_isOnDeck_25 (show NF .boolean _ from ⟨rfl, rfl⟩).1 (so h) (Nat.le_of_ble_eq_true rfl) (Nat.le_of_ble_eq_true rfl)
def f_X8_isOnDeck (S : mS) (a0 : Nat) (a1 : Nat) : Option (Rs Int32) :=
  f_X8_isOnDeck_2  16 S a0 a1 (0 : Int32)
set_option maxHeartbeats 2000000 in
set_option maxRecDepth 100000 in
theorem t_X8_isOnDeck {l : Launch} (hls : l.stackTraces = false) {C : cT} (hC : CX C cX8_isOnDeck 3 yX8_isOnDeck rm_X8_isOnDeck) (hl : C.2.1 = l) {S0 : mS} (hE : CE C S0 (Option.some Jvm.ClassFile.FieldType.boolean) []) {o : Rs Int32} {S : mS} {a0 : Nat} {a1 : Nat} (h : f_X8_isOnDeck S a0 a1 = some o) : XX C 3 (QQ C (fun r : Int32 => some (.int r)) S0 o) 0 0 S 0 [(0, .ref a0), (1, .ref a1)] [] := by
  unfold f_X8_isOnDeck at h
  refine x_iconst (pc := 0) (v := (0 : Int32)) hC dX8_isOnDeck_0 (by decide) ?_
  refine x_istore_n (pc := 1) hC dX8_isOnDeck_1 rfl (by decide) (by decide) rfl ?_
  refine x_pick [1, 2, 0] rfl ?_
  exact t_X8_isOnDeck_2 hls hC hl hE 16 _ _ _ _ h
theorem c_X8_isOnDeck (l : Launch) (hls : l.stackTraces = false) {S : mS} {a0 : Nat} {a1 : Nat} {o : Rs Int32} (h : f_X8_isOnDeck S a0 a1 = some o) : CT (fun r : Int32 => some (.int r)) l yX8_isOnDeck (.code yX8_isOnDeck cX8_isOnDeck 3 (Option.some Jvm.ClassFile.FieldType.boolean)) rm_X8_isOnDeck S [.ref a0, .ref a1] o := ct_of (by decide +kernel) hls (Nat.le_of_ble_eq_true rfl) (fun C hl hC hE => t_X8_isOnDeck hls hC hl hE h)
abbrev rm_X8_slideCross : Room := { frames := 8, cells := 0, slots := 0, locals := 150 }
def f_X8_slideCross (S : mS) (a0 : Nat) (a1 : Int32) : Option (Rs Int32) :=
  gd (gK S a0 = 14) (lt9 (gI S a0 5) fun x2 => zI (sI S a0 5 a1) fun S3 => some (.inl x2, S3))
set_option maxHeartbeats 2000000 in
set_option maxRecDepth 100000 in
theorem t_X8_slideCross {l : Launch} (hls : l.stackTraces = false) {C : cT} (hC : CX C cX8_slideCross 3 yX8_slideCross rm_X8_slideCross) (hl : C.2.1 = l) {S0 : mS} (hE : CE C S0 (Option.some Jvm.ClassFile.FieldType.int) []) {o : Rs Int32} {S : mS} {a0 : Nat} {a1 : Int32} (h : f_X8_slideCross S a0 a1 = some o) : XX C 3 (QQ C (fun r : Int32 => some (.int r)) S0 o) 0 0 S 0 [(0, .ref a0), (1, .int a1)] [] := by
  unfold f_X8_slideCross at h
  refine x_aload_n (pc := 0) hC 0 dX8_slideCross_0 rfl rfl ?_
  obtain ⟨g1, h⟩ := gd_some h
  refine x_getIv (pc := 1) (k := 5) hC fc_14 fl_RX8_53 dX8_slideCross_1 rfl g1 (fun x2 hx2 => ?_)
  replace h := lt_x hx2 h
  refine x_istore_n (pc := 4) hC dX8_slideCross_4 rfl (by decide) (by decide) rfl ?_
  refine x_aload_n (pc := 5) hC 1 dX8_slideCross_5 rfl rfl ?_
  refine x_iload_n (pc := 6) hC 2 dX8_slideCross_6 rfl rfl ?_
  refine x_putIv (pc := 7) (k := 5) hC fc_14 fl_RX8_53 dX8_slideCross_7 rfl rfl (nf_int _) g1 (fun S3 hS3 => ?_)
  replace h := zI_x hS3 h
  have g4 : gK S3 a0 = 14 := by rw [hS3]; exact g1
  refine x_iload_n (pc := 10) hC 0 dX8_slideCross_10 rfl rfl ?_
  exact x_ireturn (pc := 11) hC hE dX8_slideCross_11 (so h) (Nat.le_of_ble_eq_true rfl) (Nat.le_of_ble_eq_true rfl)
theorem c_X8_slideCross (l : Launch) (hls : l.stackTraces = false) {S : mS} {a0 : Nat} {a1 : Int32} {o : Rs Int32} (h : f_X8_slideCross S a0 a1 = some o) : CT (fun r : Int32 => some (.int r)) l yX8_slideCross (.code yX8_slideCross cX8_slideCross 3 (Option.some Jvm.ClassFile.FieldType.int)) rm_X8_slideCross S [.ref a0, .int a1] o := ct_of (by decide +kernel) hls (Nat.le_of_ble_eq_true rfl) (fun C hl hC hE => t_X8_slideCross hls hC hl hE h)
abbrev rm_X8_setLights : Room := { frames := 9, cells := 0, slots := 0, locals := 171 }
def f_X8_setLights (S : mS) (a0 : Nat) (a1 : Int32) (a2 : Int32) : Option (Rs Int32) :=
  gd (gK S a0 = 14) (zI (sI S a0 6 a2) fun S2 => lt9 (if (10 : Int32) < a1 then (10 : Int32) else a1) fun x4 => some (.inl x4, S2))
set_option maxHeartbeats 2000000 in
set_option maxRecDepth 100000 in
theorem t_X8_setLights {l : Launch} (hls : l.stackTraces = false) {C : cT} (hC : CX C cX8_setLights 3 yX8_setLights rm_X8_setLights) (hl : C.2.1 = l) {S0 : mS} (hE : CE C S0 (Option.some Jvm.ClassFile.FieldType.int) []) {o : Rs Int32} {S : mS} {a0 : Nat} {a1 : Int32} {a2 : Int32} (h : f_X8_setLights S a0 a1 a2 = some o) : XX C 3 (QQ C (fun r : Int32 => some (.int r)) S0 o) 0 0 S 0 [(0, .ref a0), (1, .int a1), (2, .int a2)] [] := by
  unfold f_X8_setLights at h
  refine x_aload_n (pc := 0) hC 0 dX8_setLights_0 rfl rfl ?_
  refine x_iload_n (pc := 1) hC 2 dX8_setLights_1 rfl rfl ?_
  obtain ⟨g1, h⟩ := gd_some h
  refine x_putIv (pc := 2) (k := 6) hC fc_14 fl_RX8_56 dX8_setLights_2 rfl rfl (nf_int _) g1 (fun S2 hS2 => ?_)
  replace h := zI_x hS2 h
  have g3 : gK S2 a0 = 14 := by rw [hS2]; exact g1
  refine x_iload_n (pc := 5) hC 1 dX8_setLights_5 rfl rfl ?_
  refine x_bipush (pc := 6) (v := (10 : Int32)) hC dX8_setLights_6 (by decide) ?_
  refine x_mmin (pc := 8) hC wm_597 wm_598 wm_69 wm_599 dX8_setLights_8 (Nat.le_of_ble_eq_true rfl) (Nat.le_of_ble_eq_true rfl) (Nat.le_of_ble_eq_true rfl) (Nat.le_of_ble_eq_true rfl) (fun x4 hx4 => ?_)
  replace h := lt_x hx4 h
  exact x_ireturn (pc := 11) hC hE dX8_setLights_11 (so h) (Nat.le_of_ble_eq_true rfl) (Nat.le_of_ble_eq_true rfl)
theorem c_X8_setLights (l : Launch) (hls : l.stackTraces = false) {S : mS} {a0 : Nat} {a1 : Int32} {a2 : Int32} {o : Rs Int32} (h : f_X8_setLights S a0 a1 a2 = some o) : CT (fun r : Int32 => some (.int r)) l yX8_setLights (.code yX8_setLights cX8_setLights 3 (Option.some Jvm.ClassFile.FieldType.int)) rm_X8_setLights S [.ref a0, .int a1, .int a2] o := ct_of (by decide +kernel) hls (Nat.le_of_ble_eq_true rfl) (fun C hl hC hE => t_X8_setLights hls hC hl hE h)
abbrev rm_X8_advanceDecks : Room := { frames := 11, cells := 0, slots := 0, locals := 215 }
def f_X8_advanceDecks_2  : Nat → mS → Nat → Int32 → Option (Rs Unit)
  | 0, _, _, _ => none
  | k + 1, S, a0, a1 => gd (gK S a0 = 14) (lt9 (gR S a0 1) fun r2 => gd (gK S r2 = 34) (lt9 (Int32.ofNat (gZ S r2)) fun x4 => if x4 ≤ a1 then (some (.inl (), S)) else (lt9 (gR S a0 1) fun r5 => gd (gK S r5 = 34) (gd (¬ (a1 < 0 ∨ gZ S r5 ≤ (a1).toNatClampNeg)) (lt9 (gR S r5 (a1).toNatClampNeg) fun r9 => gd (gK S r9 = 7) (bd (f_X1_advance S r9) fun _ S12 => lt9 (a1 + Int32.ofInt (1)) fun x15 => f_X8_advanceDecks_2 k S12 a0 x15))))))
set_option maxHeartbeats 2000000 in
set_option maxRecDepth 100000 in
theorem t_X8_advanceDecks_2 {l : Launch} (hls : l.stackTraces = false) {C : cT} (hC : CX C cX8_advanceDecks 2 yX8_advanceDecks rm_X8_advanceDecks) (hl : C.2.1 = l) {S0 : mS} (hE : CE C S0 (Option.none : Option Jvm.ClassFile.FieldType) []) {o : Rs Unit} : ∀ (k : Nat) (S : mS) (a0 : Nat) (a1 : Int32), f_X8_advanceDecks_2  k S a0 a1 = some o → XX C 2 (QQ C (fun _ : Unit => none) S0 o) (0) (0) S 2 [(0, .ref a0), (1, .int a1)] [] := by
  intro k
  induction k with
  | zero => intro S a0 a1 h; cases h
  | succ k ih =>
    intro S a0 a1 h
    unfold f_X8_advanceDecks_2 at h
    refine x_iload_n (pc := 2) hC 1 dX8_advanceDecks_2 rfl rfl ?_
    refine x_aload_n (pc := 3) hC 0 dX8_advanceDecks_3 rfl rfl ?_
    obtain ⟨g1, h⟩ := gd_some h
    refine x_getRv (pc := 4) (k := 1) hC fc_14 fl_RX8_22 dX8_advanceDecks_4 rfl g1 (fun r2 hr2 => ?_)
    replace h := lt_x hr2 h
    obtain ⟨g3, h⟩ := gd_some h
    refine x_alenv (pc := 7) (t0 := 4) hC dX8_advanceDecks_7 g3 (by decide) (fun _ => rfl) (fun x4 hx4 => ?_)
    replace h := lt_x hx4 h
    refine x_icmp_ge (pc := 8) hC 26 dX8_advanceDecks_8 (by decide) (fun c16 => ?_) (fun c16 => ?_)
    · rw [if_pos c16] at h
      exact x_vreturn (pc := 26) hC hE dX8_advanceDecks_26 (so h) (Nat.le_of_ble_eq_true rfl) (Nat.le_of_ble_eq_true rfl)
    · rw [if_neg c16] at h
      refine x_aload_n (pc := 11) hC 0 dX8_advanceDecks_11 rfl rfl ?_
      refine x_getRv (pc := 12) (k := 1) hC fc_14 fl_RX8_22 dX8_advanceDecks_12 rfl g1 (fun r5 hr5 => ?_)
      replace h := lt_x hr5 h
      refine x_iload_n (pc := 15) hC 1 dX8_advanceDecks_15 rfl rfl ?_
      obtain ⟨g8, h⟩ := gd_some h
      obtain ⟨g7, h⟩ := gd_some h
      refine x_raldv (pc := 16) (t0 := 4) hC dX8_advanceDecks_16 g8 (by decide) (fun _ => rfl) g7 (fun r9 hr9 => ?_)
      replace h := lt_x hr9 h
      obtain ⟨g10, h⟩ := gd_some h
      obtain ⟨o13, ho13, h⟩ := bd_some h
      refine x_callV (pc := 17) (As := []) (rest := []) hC hl (c_X1_advance l hls ho13) lk_RX8_87 fc_7 g10 dX8_advanceDecks_17 rfl rfl (Nat.le_of_ble_eq_true rfl) ⟨Nat.le_of_ble_eq_true rfl, Nat.le_of_ble_eq_true rfl⟩ ⟨(Nat.le_of_ble_eq_true rfl), (Nat.le_of_ble_eq_true rfl)⟩ ?_
      rcases o13 with ⟨_ | E14, S12⟩
      · refine xk_v ?_
        replace h := bk_l h
        obtain ⟨x15, hx15⟩ : ∃ z, z = (a1 + Int32.ofInt (1)) := ⟨_, rfl⟩
        replace h := lt_x hx15 h
        refine x_iinc (pc := 20) hC 1 dX8_advanceDecks_20 rfl hx15.symm (by decide) (by decide) rfl ?_
        refine x_goto (pc := 23) hC 2 dX8_advanceDecks_23 (by decide) ?_
        refine x_pick [1, 0] rfl ?_
        exact ih _ _ _ h
      · exact xk_r (xt_out hC hE (bk_r h) (Nat.le_of_ble_eq_true rfl) (Nat.le_of_ble_eq_true rfl))
def f_X8_advanceDecks (S : mS) (a0 : Nat) : Option (Rs Unit) :=
  f_X8_advanceDecks_2  16 S a0 (0 : Int32)
set_option maxHeartbeats 2000000 in
set_option maxRecDepth 100000 in
theorem t_X8_advanceDecks {l : Launch} (hls : l.stackTraces = false) {C : cT} (hC : CX C cX8_advanceDecks 2 yX8_advanceDecks rm_X8_advanceDecks) (hl : C.2.1 = l) {S0 : mS} (hE : CE C S0 (Option.none : Option Jvm.ClassFile.FieldType) []) {o : Rs Unit} {S : mS} {a0 : Nat} (h : f_X8_advanceDecks S a0 = some o) : XX C 2 (QQ C (fun _ : Unit => none) S0 o) 0 0 S 0 [(0, .ref a0)] [] := by
  unfold f_X8_advanceDecks at h
  refine x_iconst (pc := 0) (v := (0 : Int32)) hC dX8_advanceDecks_0 (by decide) ?_
  refine x_istore_n (pc := 1) hC dX8_advanceDecks_1 rfl (by decide) (by decide) rfl ?_
  refine x_pick [1, 0] rfl ?_
  exact t_X8_advanceDecks_2 hls hC hl hE 16 _ _ _ h
theorem c_X8_advanceDecks (l : Launch) (hls : l.stackTraces = false) {S : mS} {a0 : Nat} {o : Rs Unit} (h : f_X8_advanceDecks S a0 = some o) : CT (fun _ : Unit => none) l yX8_advanceDecks (.code yX8_advanceDecks cX8_advanceDecks 2 (Option.none : Option Jvm.ClassFile.FieldType)) rm_X8_advanceDecks S [.ref a0] o := ct_of (by decide +kernel) hls (Nat.le_of_ble_eq_true rfl) (fun C hl hC hE => t_X8_advanceDecks hls hC hl hE h)
abbrev rm_X8_countClashes : Room := { frames := 10, cells := 0, slots := 0, locals := 196 }
def f_X8_countClashes_151  (S : mS) (s0 : Nat) (s1 : Int32) (s2 : Int32) : Option (Rs Unit) :=
  lt9 (s1 + s2) fun x1 => gd (gK S s0 = 14) (zI (sI S s0 10 x1) fun S3 => some (.inl (), S3))
set_option maxHeartbeats 2000000 in
set_option maxRecDepth 100000 in
theorem t_X8_countClashes_151 {l : Launch} (hls : l.stackTraces = false) {C : cT} (hC : CX C cX8_countClashes 6 yX8_countClashes rm_X8_countClashes) (hl : C.2.1 = l) {S0 : mS} (hE : CE C S0 (Option.none : Option Jvm.ClassFile.FieldType) []) {o : Rs Unit} {S : mS} {s0 : Nat} {s1 : Int32} {s2 : Int32} (h : f_X8_countClashes_151  S s0 s1 s2 = some o) : XX C 6 (QQ C (fun _ : Unit => none) S0 o) (0) (0) S 151 [] [.int s2, .int s1, .ref s0] := by
  unfold f_X8_countClashes_151 at h
  refine x_iaddv (pc := 151) hC dX8_countClashes_151 (fun x1 hx1 => ?_)
  replace h := lt_x hx1 h
  obtain ⟨g2, h⟩ := gd_some h
  refine x_putIv (pc := 152) (k := 10) hC fc_14 fl_RX8_141 dX8_countClashes_152 rfl rfl (nf_int _) g2 (fun S3 hS3 => ?_)
  replace h := zI_x hS3 h
  have g4 : gK S3 s0 = 14 := by rw [hS3]; exact g2
  exact x_vreturn (pc := 155) hC hE dX8_countClashes_155 (so h) (Nat.le_of_ble_eq_true rfl) (Nat.le_of_ble_eq_true rfl)
def f_X8_countClashes_132  (S : mS) (a0 : Nat) (a2 : Int32) (s0 : Nat) (s1 : Int32) (s2 : Int32) : Option (Rs Unit) :=
  lt9 (s1 + s2) fun x1 => gd (gK S s0 = 14) (zI (sI S s0 9 x1) fun S3 => gd (gK S3 a0 = 14) (lt9 (gI S3 a0 10) fun x6 => if a2 < (2 : Int32) then (f_X8_countClashes_151  S3 a0 x6 (0 : Int32)) else (f_X8_countClashes_151  S3 a0 x6 (1 : Int32))))
set_option maxHeartbeats 2000000 in
set_option maxRecDepth 100000 in
theorem t_X8_countClashes_132 {l : Launch} (hls : l.stackTraces = false) {C : cT} (hC : CX C cX8_countClashes 6 yX8_countClashes rm_X8_countClashes) (hl : C.2.1 = l) {S0 : mS} (hE : CE C S0 (Option.none : Option Jvm.ClassFile.FieldType) []) {o : Rs Unit} {S : mS} {a0 : Nat} {a2 : Int32} {s0 : Nat} {s1 : Int32} {s2 : Int32} (h : f_X8_countClashes_132  S a0 a2 s0 s1 s2 = some o) : XX C 6 (QQ C (fun _ : Unit => none) S0 o) (0) (0) S 132 [(0, .ref a0), (2, .int a2)] [.int s2, .int s1, .ref s0] := by
  unfold f_X8_countClashes_132 at h
  refine x_iaddv (pc := 132) hC dX8_countClashes_132 (fun x1 hx1 => ?_)
  replace h := lt_x hx1 h
  obtain ⟨g2, h⟩ := gd_some h
  refine x_putIv (pc := 133) (k := 9) hC fc_14 fl_RX8_138 dX8_countClashes_133 rfl rfl (nf_int _) g2 (fun S3 hS3 => ?_)
  replace h := zI_x hS3 h
  have g4 : gK S3 s0 = 14 := by rw [hS3]; exact g2
  refine x_aload_n (pc := 136) hC 0 dX8_countClashes_136 rfl rfl ?_
  refine x_dup (pc := 137) hC dX8_countClashes_137 rfl ?_
  obtain ⟨g5, h⟩ := gd_some h
  refine x_getIv (pc := 138) (k := 10) hC fc_14 fl_RX8_141 dX8_countClashes_138 rfl g5 (fun x6 hx6 => ?_)
  replace h := lt_x hx6 h
  refine x_iload_n (pc := 141) hC 1 dX8_countClashes_141 rfl rfl ?_
  refine x_iconst (pc := 142) (v := (2 : Int32)) hC dX8_countClashes_142 (by decide) ?_
  refine x_icmp_lt (pc := 143) hC 150 dX8_countClashes_143 (by decide) (fun c7 => ?_) (fun c7 => ?_)
  · rw [if_pos c7] at h
    refine x_iconst (pc := 150) (v := (0 : Int32)) hC dX8_countClashes_150 (by decide) ?_
    refine x_pick [] rfl ?_
    exact t_X8_countClashes_151 hls hC hl hE h
  · rw [if_neg c7] at h
    refine x_iconst (pc := 146) (v := (1 : Int32)) hC dX8_countClashes_146 (by decide) ?_
    refine x_goto (pc := 147) hC 151 dX8_countClashes_147 (by decide) ?_
    refine x_pick [] rfl ?_
    exact t_X8_countClashes_151 hls hC hl hE h
def f_X8_countClashes_111 (rc6 : mS → Nat → Int32 → Int32 → Int32 → Option (Rs Unit)) (S : mS) (a0 : Nat) (a1 : Int32) (a2 : Int32) (a3 : Int32) : Option (Rs Unit) :=
  lt9 (a3 + Int32.ofInt (1)) fun x1 => rc6 S a0 a1 a2 x1
set_option maxHeartbeats 2000000 in
set_option maxRecDepth 100000 in
theorem t_X8_countClashes_111 {l : Launch} (hls : l.stackTraces = false) {C : cT} (hC : CX C cX8_countClashes 6 yX8_countClashes rm_X8_countClashes) (hl : C.2.1 = l) {S0 : mS} (hE : CE C S0 (Option.none : Option Jvm.ClassFile.FieldType) []) {o : Rs Unit} {rc6 : mS → Nat → Int32 → Int32 → Int32 → Option (Rs Unit)} (hrc6 : ∀ (S : mS) (a0 : Nat) (a1 : Int32) (a2 : Int32) (a3 : Int32), rc6 S a0 a1 a2 a3 = some o → XX C 6 (QQ C (fun _ : Unit => none) S0 o) (0) (0) S 6 [(0, .ref a0), (1, .int a1), (2, .int a2), (3, .int a3)] []) {S : mS} {a0 : Nat} {a1 : Int32} {a2 : Int32} {a3 : Int32} (h : f_X8_countClashes_111 rc6 S a0 a1 a2 a3 = some o) : XX C 6 (QQ C (fun _ : Unit => none) S0 o) (0) (0) S 111 [(0, .ref a0), (1, .int a1), (2, .int a2), (3, .int a3)] [] := by
  unfold f_X8_countClashes_111 at h
  obtain ⟨x1, hx1⟩ : ∃ z, z = (a3 + Int32.ofInt (1)) := ⟨_, rfl⟩
  replace h := lt_x hx1 h
  refine x_iinc (pc := 111) hC 3 dX8_countClashes_111 rfl hx1.symm (by decide) (by decide) rfl ?_
  refine x_goto (pc := 114) hC 6 dX8_countClashes_114 (by decide) ?_
  refine x_pick [1, 2, 3, 0] rfl ?_
  exact hrc6 _ _ _ _ _ h
def f_X8_countClashes_109 (rc6 : mS → Nat → Int32 → Int32 → Int32 → Option (Rs Unit)) (S : mS) (a0 : Nat) (a1 : Int32) (a3 : Int32) (s0 : Int32) (s1 : Int32) : Option (Rs Unit) :=
  lt9 (s0 + s1) fun x1 => f_X8_countClashes_111 (rc6) S a0 a1 x1 a3
set_option maxHeartbeats 2000000 in
set_option maxRecDepth 100000 in
theorem t_X8_countClashes_109 {l : Launch} (hls : l.stackTraces = false) {C : cT} (hC : CX C cX8_countClashes 6 yX8_countClashes rm_X8_countClashes) (hl : C.2.1 = l) {S0 : mS} (hE : CE C S0 (Option.none : Option Jvm.ClassFile.FieldType) []) {o : Rs Unit} {rc6 : mS → Nat → Int32 → Int32 → Int32 → Option (Rs Unit)} (hrc6 : ∀ (S : mS) (a0 : Nat) (a1 : Int32) (a2 : Int32) (a3 : Int32), rc6 S a0 a1 a2 a3 = some o → XX C 6 (QQ C (fun _ : Unit => none) S0 o) (0) (0) S 6 [(0, .ref a0), (1, .int a1), (2, .int a2), (3, .int a3)] []) {S : mS} {a0 : Nat} {a1 : Int32} {a3 : Int32} {s0 : Int32} {s1 : Int32} (h : f_X8_countClashes_109 rc6 S a0 a1 a3 s0 s1 = some o) : XX C 6 (QQ C (fun _ : Unit => none) S0 o) (0) (0) S 109 [(0, .ref a0), (1, .int a1), (3, .int a3)] [.int s1, .int s0] := by
  unfold f_X8_countClashes_109 at h
  refine x_iaddv (pc := 109) hC dX8_countClashes_109 (fun x1 hx1 => ?_)
  replace h := lt_x hx1 h
  refine x_istore_n (pc := 110) hC dX8_countClashes_110 rfl (by decide) (by decide) rfl ?_
  refine x_pick [1, 2, 0, 3] rfl ?_
  exact t_X8_countClashes_111 hls hC hl hE hrc6 h
def f_X8_countClashes_108 (rc6 : mS → Nat → Int32 → Int32 → Int32 → Option (Rs Unit)) (S : mS) (a0 : Nat) (a1 : Int32) (a3 : Int32) (s0 : Int32) : Option (Rs Unit) :=
  f_X8_countClashes_109 (rc6) S a0 a1 a3 s0 (0 : Int32)
set_option maxHeartbeats 2000000 in
set_option maxRecDepth 100000 in
theorem t_X8_countClashes_108 {l : Launch} (hls : l.stackTraces = false) {C : cT} (hC : CX C cX8_countClashes 6 yX8_countClashes rm_X8_countClashes) (hl : C.2.1 = l) {S0 : mS} (hE : CE C S0 (Option.none : Option Jvm.ClassFile.FieldType) []) {o : Rs Unit} {rc6 : mS → Nat → Int32 → Int32 → Int32 → Option (Rs Unit)} (hrc6 : ∀ (S : mS) (a0 : Nat) (a1 : Int32) (a2 : Int32) (a3 : Int32), rc6 S a0 a1 a2 a3 = some o → XX C 6 (QQ C (fun _ : Unit => none) S0 o) (0) (0) S 6 [(0, .ref a0), (1, .int a1), (2, .int a2), (3, .int a3)] []) {S : mS} {a0 : Nat} {a1 : Int32} {a3 : Int32} {s0 : Int32} (h : f_X8_countClashes_108 rc6 S a0 a1 a3 s0 = some o) : XX C 6 (QQ C (fun _ : Unit => none) S0 o) (0) (0) S 108 [(0, .ref a0), (1, .int a1), (3, .int a3)] [.int s0] := by
  unfold f_X8_countClashes_108 at h
  refine x_iconst (pc := 108) (v := (0 : Int32)) hC dX8_countClashes_108 (by decide) ?_
  refine x_pick [0, 1, 2] rfl ?_
  exact t_X8_countClashes_109 hls hC hl hE hrc6 h
def f_X8_countClashes_77 (rc6 : mS → Nat → Int32 → Int32 → Int32 → Option (Rs Unit)) (S : mS) (a0 : Nat) (a2 : Int32) (a3 : Int32) (a4 : Nat) (a5 : Nat) (s0 : Int32) (s1 : Int32) : Option (Rs Unit) :=
  lt9 (s0 + s1) fun x1 => gd (gK S a4 = 7) (lt9 (gL S a4 3) fun x3 => gd (gK S a5 = 8) (bd (f_X2_hasBassAt S a5 x3) fun x5 S6 => if x5 = 0 then (f_X8_countClashes_108 (rc6) S6 a0 x1 a3 a2) else (gd (gK S6 a4 = 7) (lt9 (gR S6 a4 0) fun r10 => gd (gK S6 r10 = 6) (bd (f_X0_hasLowBand S6 r10) fun x12 S13 => if x12 = 0 then (f_X8_countClashes_108 (rc6) S13 a0 x1 a3 a2) else (f_X8_countClashes_109 (rc6) S13 a0 x1 a3 a2 (1 : Int32)))))))
set_option maxHeartbeats 2000000 in
set_option maxRecDepth 100000 in
theorem t_X8_countClashes_77 {l : Launch} (hls : l.stackTraces = false) {C : cT} (hC : CX C cX8_countClashes 6 yX8_countClashes rm_X8_countClashes) (hl : C.2.1 = l) {S0 : mS} (hE : CE C S0 (Option.none : Option Jvm.ClassFile.FieldType) []) {o : Rs Unit} {rc6 : mS → Nat → Int32 → Int32 → Int32 → Option (Rs Unit)} (hrc6 : ∀ (S : mS) (a0 : Nat) (a1 : Int32) (a2 : Int32) (a3 : Int32), rc6 S a0 a1 a2 a3 = some o → XX C 6 (QQ C (fun _ : Unit => none) S0 o) (0) (0) S 6 [(0, .ref a0), (1, .int a1), (2, .int a2), (3, .int a3)] []) {S : mS} {a0 : Nat} {a2 : Int32} {a3 : Int32} {a4 : Nat} {a5 : Nat} {s0 : Int32} {s1 : Int32} (h : f_X8_countClashes_77 rc6 S a0 a2 a3 a4 a5 s0 s1 = some o) : XX C 6 (QQ C (fun _ : Unit => none) S0 o) (0) (0) S 77 [(0, .ref a0), (2, .int a2), (3, .int a3), (4, .ref a4), (5, .ref a5)] [.int s1, .int s0] := by
  unfold f_X8_countClashes_77 at h
  refine x_iaddv (pc := 77) hC dX8_countClashes_77 (fun x1 hx1 => ?_)
  replace h := lt_x hx1 h
  refine x_istore_n (pc := 78) hC dX8_countClashes_78 rfl (by decide) (by decide) rfl ?_
  refine x_iload_n (pc := 79) hC 2 dX8_countClashes_79 rfl rfl ?_
  refine x_aload (pc := 80) hC 5 dX8_countClashes_80 rfl ?_
  refine x_aload (pc := 82) hC 4 dX8_countClashes_82 rfl ?_
  obtain ⟨g2, h⟩ := gd_some h
  refine x_getLv (pc := 84) (k := 3) hC fc_7 fl_RX8_101 dX8_countClashes_84 rfl g2 (fun x3 hx3 => ?_)
  replace h := lt_x hx3 h
  obtain ⟨g4, h⟩ := gd_some h
  obtain ⟨o7, ho7, h⟩ := bd_some h
  refine x_callV (pc := 87) (As := [.long x3]) (rest := [.int a2]) hC hl (c_X2_hasBassAt l hls ho7) lk_RX8_131 fc_8 g4 dX8_countClashes_87 rfl rfl (Nat.le_of_ble_eq_true rfl) ⟨Nat.le_of_ble_eq_true rfl, Nat.le_of_ble_eq_true rfl⟩ ⟨(Nat.le_of_ble_eq_true rfl), (Nat.le_of_ble_eq_true rfl)⟩ ?_
  rcases o7 with ⟨x5 | E8, S6⟩
  · refine xk_i ?_
    replace h := bk_l h
    refine x_if_eq (pc := 90) hC 108 dX8_countClashes_90 (by decide) (fun c17 => ?_) (fun c17 => ?_)
    · rw [if_pos c17] at h
      refine x_pick [1, 0, 3] rfl ?_
      exact t_X8_countClashes_108 hls hC hl hE hrc6 h
    · rw [if_neg c17] at h
      refine x_aload (pc := 93) hC 4 dX8_countClashes_93 rfl ?_
      obtain ⟨g9, h⟩ := gd_some h
      refine x_getRv (pc := 95) (k := 0) hC fc_7 fl_RX8_97 dX8_countClashes_95 rfl g9 (fun r10 hr10 => ?_)
      replace h := lt_x hr10 h
      obtain ⟨g11, h⟩ := gd_some h
      obtain ⟨o14, ho14, h⟩ := bd_some h
      refine x_callV (pc := 98) (As := []) (rest := [.int a2]) hC hl (c_X0_hasLowBand l hls ho14) lk_RX8_134 fc_6 g11 dX8_countClashes_98 rfl rfl (Nat.le_of_ble_eq_true rfl) ⟨Nat.le_of_ble_eq_true rfl, Nat.le_of_ble_eq_true rfl⟩ ⟨(Nat.le_of_ble_eq_true rfl), (Nat.le_of_ble_eq_true rfl)⟩ ?_
      rcases o14 with ⟨x12 | E15, S13⟩
      · refine xk_i ?_
        replace h := bk_l h
        refine x_if_eq (pc := 101) hC 108 dX8_countClashes_101 (by decide) (fun c16 => ?_) (fun c16 => ?_)
        · rw [if_pos c16] at h
          refine x_pick [1, 0, 3] rfl ?_
          exact t_X8_countClashes_108 hls hC hl hE hrc6 h
        · rw [if_neg c16] at h
          refine x_iconst (pc := 104) (v := (1 : Int32)) hC dX8_countClashes_104 (by decide) ?_
          refine x_goto (pc := 105) hC 109 dX8_countClashes_105 (by decide) ?_
          refine x_pick [1, 0, 3] rfl ?_
          exact t_X8_countClashes_109 hls hC hl hE hrc6 h
      · exact xk_r (xt_out hC hE (bk_r h) (Nat.le_of_ble_eq_true rfl) (Nat.le_of_ble_eq_true rfl))
  · exact xk_r (xt_out hC hE (bk_r h) (Nat.le_of_ble_eq_true rfl) (Nat.le_of_ble_eq_true rfl))
def f_X8_countClashes_6  : Nat → mS → Nat → Int32 → Int32 → Int32 → Option (Rs Unit)
  | 0, _, _, _, _, _ => none
  | k + 1, S, a0, a1, a2, a3 => gd (gK S a0 = 14) (lt9 (gR S a0 1) fun r2 => gd (gK S r2 = 34) (lt9 (Int32.ofNat (gZ S r2)) fun x4 => if x4 ≤ a3 then (lt9 (gI S a0 9) fun x5 => if a1 < (2 : Int32) then (f_X8_countClashes_132  S a0 a2 a0 x5 (0 : Int32)) else (f_X8_countClashes_132  S a0 a2 a0 x5 (1 : Int32))) else (lt9 (gR S a0 1) fun r7 => gd (gK S r7 = 34) (gd (¬ (a3 < 0 ∨ gZ S r7 ≤ (a3).toNatClampNeg)) (lt9 (gR S r7 (a3).toNatClampNeg) fun r11 => gd (gK S r11 = 7) (lt9 (gR S r11 2) fun r13 => if r13 = 0 then (f_X8_countClashes_111 (f_X8_countClashes_6 k) S a0 a1 a2 a3) else (lt9 (gI S a0 5) fun x14 => bd (f_X1_isHeard S r11 x14) fun x15 S16 => if x15 = 0 then (f_X8_countClashes_111 (f_X8_countClashes_6 k) S16 a0 a1 a2 a3) else (gd (gK S16 r13 = 8) (lt9 (gI S16 r13 10) fun x20 => lt9 (x20 + (1 : Int32)) fun x21 => zI (sI S16 r13 10 x21) fun S22 => gd (gK S22 r11 = 7) (lt9 (gL S22 r11 3) fun x25 => bd (f_X2_hasVoiceAt S22 r13 x25) fun x26 S27 => if x26 = 0 then (f_X8_countClashes_77 (f_X8_countClashes_6 k) S27 a0 a2 a3 r11 r13 a1 (0 : Int32)) else (f_X8_countClashes_77 (f_X8_countClashes_6 k) S27 a0 a2 a3 r11 r13 a1 (1 : Int32))))))))))))
set_option maxHeartbeats 2000000 in
set_option maxRecDepth 100000 in
theorem t_X8_countClashes_6 {l : Launch} (hls : l.stackTraces = false) {C : cT} (hC : CX C cX8_countClashes 6 yX8_countClashes rm_X8_countClashes) (hl : C.2.1 = l) {S0 : mS} (hE : CE C S0 (Option.none : Option Jvm.ClassFile.FieldType) []) {o : Rs Unit} : ∀ (k : Nat) (S : mS) (a0 : Nat) (a1 : Int32) (a2 : Int32) (a3 : Int32), f_X8_countClashes_6  k S a0 a1 a2 a3 = some o → XX C 6 (QQ C (fun _ : Unit => none) S0 o) (0) (0) S 6 [(0, .ref a0), (1, .int a1), (2, .int a2), (3, .int a3)] [] := by
  intro k
  induction k with
  | zero => intro S a0 a1 a2 a3 h; cases h
  | succ k ih =>
    intro S a0 a1 a2 a3 h
    unfold f_X8_countClashes_6 at h
    refine x_iload_n (pc := 6) hC 3 dX8_countClashes_6 rfl rfl ?_
    refine x_aload_n (pc := 7) hC 0 dX8_countClashes_7 rfl rfl ?_
    obtain ⟨g1, h⟩ := gd_some h
    refine x_getRv (pc := 8) (k := 1) hC fc_14 fl_RX8_22 dX8_countClashes_8 rfl g1 (fun r2 hr2 => ?_)
    replace h := lt_x hr2 h
    obtain ⟨g3, h⟩ := gd_some h
    refine x_alenv (pc := 11) (t0 := 4) hC dX8_countClashes_11 g3 (by decide) (fun _ => rfl) (fun x4 hx4 => ?_)
    replace h := lt_x hx4 h
    refine x_icmp_ge (pc := 12) hC 117 dX8_countClashes_12 (by decide) (fun c33 => ?_) (fun c33 => ?_)
    · rw [if_pos c33] at h
      refine x_aload_n (pc := 117) hC 0 dX8_countClashes_117 rfl rfl ?_
      refine x_dup (pc := 118) hC dX8_countClashes_118 rfl ?_
      refine x_getIv (pc := 119) (k := 9) hC fc_14 fl_RX8_138 dX8_countClashes_119 rfl g1 (fun x5 hx5 => ?_)
      replace h := lt_x hx5 h
      refine x_iload_n (pc := 122) hC 1 dX8_countClashes_122 rfl rfl ?_
      refine x_iconst (pc := 123) (v := (2 : Int32)) hC dX8_countClashes_123 (by decide) ?_
      refine x_icmp_lt (pc := 124) hC 131 dX8_countClashes_124 (by decide) (fun c6 => ?_) (fun c6 => ?_)
      · rw [if_pos c6] at h
        refine x_iconst (pc := 131) (v := (0 : Int32)) hC dX8_countClashes_131 (by decide) ?_
        refine x_pick [0, 2] rfl ?_
        exact t_X8_countClashes_132 hls hC hl hE h
      · rw [if_neg c6] at h
        refine x_iconst (pc := 127) (v := (1 : Int32)) hC dX8_countClashes_127 (by decide) ?_
        refine x_goto (pc := 128) hC 132 dX8_countClashes_128 (by decide) ?_
        refine x_pick [0, 2] rfl ?_
        exact t_X8_countClashes_132 hls hC hl hE h
    · rw [if_neg c33] at h
      refine x_aload_n (pc := 15) hC 0 dX8_countClashes_15 rfl rfl ?_
      refine x_getRv (pc := 16) (k := 1) hC fc_14 fl_RX8_22 dX8_countClashes_16 rfl g1 (fun r7 hr7 => ?_)
      replace h := lt_x hr7 h
      refine x_iload_n (pc := 19) hC 3 dX8_countClashes_19 rfl rfl ?_
      obtain ⟨g10, h⟩ := gd_some h
      obtain ⟨g9, h⟩ := gd_some h
      refine x_raldv (pc := 20) (t0 := 4) hC dX8_countClashes_20 g10 (by decide) (fun _ => rfl) g9 (fun r11 hr11 => ?_)
      replace h := lt_x hr11 h
      refine x_astore (pc := 21) hC dX8_countClashes_21 (by decide) (by decide) rfl ?_
      refine x_aload (pc := 23) hC 0 dX8_countClashes_23 rfl ?_
      obtain ⟨g12, h⟩ := gd_some h
      refine x_getRv (pc := 25) (k := 2) hC fc_7 fl_RX8_49 dX8_countClashes_25 rfl g12 (fun r13 hr13 => ?_)
      replace h := lt_x hr13 h
      refine x_astore (pc := 28) hC dX8_countClashes_28 (by decide) (by decide) rfl ?_
      refine x_aload (pc := 30) hC 0 dX8_countClashes_30 rfl ?_
      refine x_ifnull (pc := 32) hC 111 dX8_countClashes_32 (by decide) (fun c32 => ?_) (fun c32 => ?_)
      · rw [if_pos c32] at h
        refine x_pick [2, 3, 4, 5] rfl ?_
        exact t_X8_countClashes_111 hls hC hl hE (fun z0 z1 z2 z3 z4 hz => ih z0 z1 z2 z3 z4 hz) h
      · rw [if_neg c32] at h
        refine x_aload (pc := 35) hC 1 dX8_countClashes_35 rfl ?_
        refine x_aload_n (pc := 37) hC 2 dX8_countClashes_37 rfl rfl ?_
        refine x_getIv (pc := 38) (k := 5) hC fc_14 fl_RX8_53 dX8_countClashes_38 rfl g1 (fun x14 hx14 => ?_)
        replace h := lt_x hx14 h
        obtain ⟨o17, ho17, h⟩ := bd_some h
        refine x_callV (pc := 41) (As := [.int x14]) (rest := []) hC hl (c_X1_isHeard l hls ho17) lk_RX8_120 fc_7 g12 dX8_countClashes_41 rfl rfl (Nat.le_of_ble_eq_true rfl) ⟨Nat.le_of_ble_eq_true rfl, Nat.le_of_ble_eq_true rfl⟩ ⟨(Nat.le_of_ble_eq_true rfl), (Nat.le_of_ble_eq_true rfl)⟩ ?_
        rcases o17 with ⟨x15 | E18, S16⟩
        · refine xk_i ?_
          replace h := bk_l h
          refine x_if_eq (pc := 44) hC 111 dX8_countClashes_44 (by decide) (fun c31 => ?_) (fun c31 => ?_)
          · rw [if_pos c31] at h
            refine x_pick [2, 3, 4, 5] rfl ?_
            exact t_X8_countClashes_111 hls hC hl hE (fun z0 z1 z2 z3 z4 hz => ih z0 z1 z2 z3 z4 hz) h
          · rw [if_neg c31] at h
            refine x_aload (pc := 47) hC 0 dX8_countClashes_47 rfl ?_
            refine x_dup (pc := 49) hC dX8_countClashes_49 rfl ?_
            obtain ⟨g19, h⟩ := gd_some h
            refine x_getIv (pc := 50) (k := 10) hC fc_8 fl_RX8_124 dX8_countClashes_50 rfl g19 (fun x20 hx20 => ?_)
            replace h := lt_x hx20 h
            refine x_iconst (pc := 53) (v := (1 : Int32)) hC dX8_countClashes_53 (by decide) ?_
            refine x_iaddv (pc := 54) hC dX8_countClashes_54 (fun x21 hx21 => ?_)
            replace h := lt_x hx21 h
            refine x_putIv (pc := 55) (k := 10) hC fc_8 fl_RX8_124 dX8_countClashes_55 rfl rfl (nf_int _) g19 (fun S22 hS22 => ?_)
            replace h := zI_x hS22 h
            have g23 : gK S22 r13 = 8 := by rw [hS22]; exact g19
            refine x_iload_n (pc := 58) hC 3 dX8_countClashes_58 rfl rfl ?_
            refine x_aload (pc := 59) hC 0 dX8_countClashes_59 rfl ?_
            refine x_aload (pc := 61) hC 1 dX8_countClashes_61 rfl ?_
            obtain ⟨g24, h⟩ := gd_some h
            refine x_getLv (pc := 63) (k := 3) hC fc_7 fl_RX8_101 dX8_countClashes_63 rfl g24 (fun x25 hx25 => ?_)
            replace h := lt_x hx25 h
            obtain ⟨o28, ho28, h⟩ := bd_some h
            refine x_callV (pc := 66) (As := [.long x25]) (rest := [.int a1]) hC hl (c_X2_hasVoiceAt l hls ho28) lk_RX8_127 fc_8 g23 dX8_countClashes_66 rfl rfl (Nat.le_of_ble_eq_true rfl) ⟨Nat.le_of_ble_eq_true rfl, Nat.le_of_ble_eq_true rfl⟩ ⟨(Nat.le_of_ble_eq_true rfl), (Nat.le_of_ble_eq_true rfl)⟩ ?_
            rcases o28 with ⟨x26 | E29, S27⟩
            · refine xk_i ?_
              replace h := bk_l h
              refine x_if_eq (pc := 69) hC 76 dX8_countClashes_69 (by decide) (fun c30 => ?_) (fun c30 => ?_)
              · rw [if_pos c30] at h
                refine x_iconst (pc := 76) (v := (0 : Int32)) hC dX8_countClashes_76 (by decide) ?_
                refine x_pick [2, 4, 5, 1, 0] rfl ?_
                exact t_X8_countClashes_77 hls hC hl hE (fun z0 z1 z2 z3 z4 hz => ih z0 z1 z2 z3 z4 hz) h
              · rw [if_neg c30] at h
                refine x_iconst (pc := 72) (v := (1 : Int32)) hC dX8_countClashes_72 (by decide) ?_
                refine x_goto (pc := 73) hC 77 dX8_countClashes_73 (by decide) ?_
                refine x_pick [2, 4, 5, 1, 0] rfl ?_
                exact t_X8_countClashes_77 hls hC hl hE (fun z0 z1 z2 z3 z4 hz => ih z0 z1 z2 z3 z4 hz) h
            · exact xk_r (xt_out hC hE (bk_r h) (Nat.le_of_ble_eq_true rfl) (Nat.le_of_ble_eq_true rfl))
        · exact xk_r (xt_out hC hE (bk_r h) (Nat.le_of_ble_eq_true rfl) (Nat.le_of_ble_eq_true rfl))
def f_X8_countClashes (S : mS) (a0 : Nat) : Option (Rs Unit) :=
  f_X8_countClashes_6  16 S a0 (0 : Int32) (0 : Int32) (0 : Int32)
set_option maxHeartbeats 2000000 in
set_option maxRecDepth 100000 in
theorem t_X8_countClashes {l : Launch} (hls : l.stackTraces = false) {C : cT} (hC : CX C cX8_countClashes 6 yX8_countClashes rm_X8_countClashes) (hl : C.2.1 = l) {S0 : mS} (hE : CE C S0 (Option.none : Option Jvm.ClassFile.FieldType) []) {o : Rs Unit} {S : mS} {a0 : Nat} (h : f_X8_countClashes S a0 = some o) : XX C 6 (QQ C (fun _ : Unit => none) S0 o) 0 0 S 0 [(0, .ref a0)] [] := by
  unfold f_X8_countClashes at h
  refine x_iconst (pc := 0) (v := (0 : Int32)) hC dX8_countClashes_0 (by decide) ?_
  refine x_istore_n (pc := 1) hC dX8_countClashes_1 rfl (by decide) (by decide) rfl ?_
  refine x_iconst (pc := 2) (v := (0 : Int32)) hC dX8_countClashes_2 (by decide) ?_
  refine x_istore_n (pc := 3) hC dX8_countClashes_3 rfl (by decide) (by decide) rfl ?_
  refine x_iconst (pc := 4) (v := (0 : Int32)) hC dX8_countClashes_4 (by decide) ?_
  refine x_istore_n (pc := 5) hC dX8_countClashes_5 rfl (by decide) (by decide) rfl ?_
  refine x_pick [3, 2, 1, 0] rfl ?_
  exact t_X8_countClashes_6 hls hC hl hE 16 _ _ _ _ _ h
theorem c_X8_countClashes (l : Launch) (hls : l.stackTraces = false) {S : mS} {a0 : Nat} {o : Rs Unit} (h : f_X8_countClashes S a0 = some o) : CT (fun _ : Unit => none) l yX8_countClashes (.code yX8_countClashes cX8_countClashes 6 (Option.none : Option Jvm.ClassFile.FieldType)) rm_X8_countClashes S [.ref a0] o := ct_of (by decide +kernel) hls (Nat.le_of_ble_eq_true rfl) (fun C hl hC hE => t_X8_countClashes hls hC hl hE h)
abbrev rm_X8_mixDecks : Room := { frames := 10, cells := 0, slots := 0, locals := 198 }
def f_X8_mixDecks_109  (S : mS) : Option (Rs Unit) :=
  some (.inl (), S)
set_option maxHeartbeats 2000000 in
set_option maxRecDepth 100000 in
theorem t_X8_mixDecks_109 {l : Launch} (hls : l.stackTraces = false) {C : cT} (hC : CX C cX8_mixDecks 5 yX8_mixDecks rm_X8_mixDecks) (hl : C.2.1 = l) {S0 : mS} (hE : CE C S0 (Option.none : Option Jvm.ClassFile.FieldType) []) {o : Rs Unit} {S : mS} (h : f_X8_mixDecks_109  S = some o) : XX C 5 (QQ C (fun _ : Unit => none) S0 o) (0) (0) S 109 [] [] := by
  unfold f_X8_mixDecks_109 at h
  exact x_vreturn (pc := 109) hC hE dX8_mixDecks_109 (so h) (Nat.le_of_ble_eq_true rfl) (Nat.le_of_ble_eq_true rfl)
def f_X8_mixDecks_4  : Nat → mS → Nat → Int32 → Int32 → Option (Rs Unit)
  | 0, _, _, _, _ => none
  | k + 1, S, a0, a1, a2 => gd (gK S a0 = 14) (lt9 (gR S a0 1) fun r2 => gd (gK S r2 = 34) (lt9 (Int32.ofNat (gZ S r2)) fun x4 => if x4 ≤ a2 then (lt9 (if (2000 : Int32) < a1 then (2000 : Int32) else a1) fun x5 => zI (sI S a0 11 x5) fun S6 => lt9 (gL S6 a0 12) fun x9 => lt9 (gI S6 a0 11) fun x10 => lt9 ((x10).toInt64) fun x11 => lt9 (x9 + x11) fun x12 => zL (sL S6 a0 12 x12) fun S13 => lt9 (gR S13 a0 3) fun r16 => lt9 (gI S13 a0 11) fun x17 => gd (gK S13 r16 = 11) (bd (f_X5_listen S13 r16 x17) fun _ S20 => gd (gK S20 a0 = 14) (lt9 (gI S20 a0 11) fun x24 => if x24 = 0 then (lt9 (gI S20 a0 8) fun x25 => lt9 (x25 + (1 : Int32)) fun x26 => zI (sI S20 a0 8 x26) fun S27 => f_X8_mixDecks_109  S27) else (f_X8_mixDecks_109  S20)))) else (lt9 (gR S a0 1) fun r30 => gd (gK S r30 = 34) (gd (¬ (a2 < 0 ∨ gZ S r30 ≤ (a2).toNatClampNeg)) (lt9 (gR S r30 (a2).toNatClampNeg) fun r34 => lt9 (gI S a0 5) fun x35 => gd (gK S r34 = 7) (bd (f_X1_levelAt S r34 x35) fun x37 S38 => gd (gK S38 r34 = 7) (bd (f_X1_loudnessAt S38 r34 x37) fun x42 S43 => gd (gK S43 r34 = 7) (lt9 (gR S43 r34 0) fun r47 => lt9 (gL S43 r34 3) fun x48 => gd (gK S43 r47 = 6) (bd (f_X0_soundOf S43 r47 x42 x48) fun x50 S51 => lt9 (a1 + x50) fun x54 => lt9 (a2 + Int32.ofInt (1)) fun x55 => f_X8_mixDecks_4 k S51 a0 x54 x55)))))))))
set_option maxHeartbeats 2000000 in
set_option maxRecDepth 100000 in
theorem t_X8_mixDecks_4 {l : Launch} (hls : l.stackTraces = false) {C : cT} (hC : CX C cX8_mixDecks 5 yX8_mixDecks rm_X8_mixDecks) (hl : C.2.1 = l) {S0 : mS} (hE : CE C S0 (Option.none : Option Jvm.ClassFile.FieldType) []) {o : Rs Unit} : ∀ (k : Nat) (S : mS) (a0 : Nat) (a1 : Int32) (a2 : Int32), f_X8_mixDecks_4  k S a0 a1 a2 = some o → XX C 5 (QQ C (fun _ : Unit => none) S0 o) (0) (0) S 4 [(0, .ref a0), (1, .int a1), (2, .int a2)] [] := by
  intro k
  induction k with
  | zero => intro S a0 a1 a2 h; cases h
  | succ k ih =>
    intro S a0 a1 a2 h
    unfold f_X8_mixDecks_4 at h
    refine x_iload_n (pc := 4) hC 2 dX8_mixDecks_4 rfl rfl ?_
    refine x_aload_n (pc := 5) hC 0 dX8_mixDecks_5 rfl rfl ?_
    obtain ⟨g1, h⟩ := gd_some h
    refine x_getRv (pc := 6) (k := 1) hC fc_14 fl_RX8_22 dX8_mixDecks_6 rfl g1 (fun r2 hr2 => ?_)
    replace h := lt_x hr2 h
    obtain ⟨g3, h⟩ := gd_some h
    refine x_alenv (pc := 9) (t0 := 4) hC dX8_mixDecks_9 g3 (by decide) (fun _ => rfl) (fun x4 hx4 => ?_)
    replace h := lt_x hx4 h
    refine x_icmp_ge (pc := 10) hC 56 dX8_mixDecks_10 (by decide) (fun c56 => ?_) (fun c56 => ?_)
    · rw [if_pos c56] at h
      refine x_aload_n (pc := 56) hC 0 dX8_mixDecks_56 rfl rfl ?_
      refine x_iload_n (pc := 57) hC 1 dX8_mixDecks_57 rfl rfl ?_
      refine x_sipush (pc := 58) (v := (2000 : Int32)) hC dX8_mixDecks_58 (by decide) ?_
      refine x_mmin (pc := 61) hC wm_597 wm_598 wm_69 wm_599 dX8_mixDecks_61 (Nat.le_of_ble_eq_true rfl) (Nat.le_of_ble_eq_true rfl) (Nat.le_of_ble_eq_true rfl) (Nat.le_of_ble_eq_true rfl) (fun x5 hx5 => ?_)
      replace h := lt_x hx5 h
      refine x_putIv (pc := 64) (k := 11) hC fc_14 fl_RX8_111 dX8_mixDecks_64 rfl rfl (nf_int _) g1 (fun S6 hS6 => ?_)
      replace h := zI_x hS6 h
      have g7 : gK S6 a0 = 14 := by rw [hS6]; exact g1
      have g8 : gK S6 r2 = 34 := by rw [hS6]; exact g3
      refine x_aload_n (pc := 67) hC 0 dX8_mixDecks_67 rfl rfl ?_
      refine x_dup (pc := 68) hC dX8_mixDecks_68 rfl ?_
      refine x_getLv (pc := 69) (k := 12) hC fc_14 fl_RX8_114 dX8_mixDecks_69 rfl g7 (fun x9 hx9 => ?_)
      replace h := lt_x hx9 h
      refine x_aload_n (pc := 72) hC 0 dX8_mixDecks_72 rfl rfl ?_
      refine x_getIv (pc := 73) (k := 11) hC fc_14 fl_RX8_111 dX8_mixDecks_73 rfl g7 (fun x10 hx10 => ?_)
      replace h := lt_x hx10 h
      refine x_i2lv (pc := 76) hC dX8_mixDecks_76 (fun x11 hx11 => ?_)
      replace h := lt_x hx11 h
      refine x_laddv (pc := 77) hC dX8_mixDecks_77 (fun x12 hx12 => ?_)
      replace h := lt_x hx12 h
      refine x_putLv (pc := 78) (k := 12) hC fc_14 fl_RX8_114 dX8_mixDecks_78 rfl rfl rfl g7 (fun S13 hS13 => ?_)
      replace h := zL_x hS13 h
      have g14 : gK S13 a0 = 14 := by rw [hS13]; exact g7
      have g15 : gK S13 r2 = 34 := by rw [hS13]; exact g8
      refine x_aload_n (pc := 81) hC 0 dX8_mixDecks_81 rfl rfl ?_
      refine x_getRv (pc := 82) (k := 3) hC fc_14 fl_RX8_37 dX8_mixDecks_82 rfl g14 (fun r16 hr16 => ?_)
      replace h := lt_x hr16 h
      refine x_aload_n (pc := 85) hC 0 dX8_mixDecks_85 rfl rfl ?_
      refine x_getIv (pc := 86) (k := 11) hC fc_14 fl_RX8_111 dX8_mixDecks_86 rfl g14 (fun x17 hx17 => ?_)
      replace h := lt_x hx17 h
      obtain ⟨g18, h⟩ := gd_some h
      obtain ⟨o21, ho21, h⟩ := bd_some h
      refine x_callV (pc := 89) (As := [.int x17]) (rest := []) hC hl (c_X5_listen l hls ho21) lk_RX8_117 fc_11 g18 dX8_mixDecks_89 rfl rfl (Nat.le_of_ble_eq_true rfl) ⟨Nat.le_of_ble_eq_true rfl, Nat.le_of_ble_eq_true rfl⟩ ⟨(Nat.le_of_ble_eq_true rfl), (Nat.le_of_ble_eq_true rfl)⟩ ?_
      rcases o21 with ⟨_ | E22, S20⟩
      · refine xk_v ?_
        replace h := bk_l h
        refine x_aload_n (pc := 92) hC 0 dX8_mixDecks_92 rfl rfl ?_
        obtain ⟨g23, h⟩ := gd_some h
        refine x_getIv (pc := 93) (k := 11) hC fc_14 fl_RX8_111 dX8_mixDecks_93 rfl g23 (fun x24 hx24 => ?_)
        replace h := lt_x hx24 h
        refine x_if_ne (pc := 96) hC 109 dX8_mixDecks_96 (by decide) (fun c29 => ?_) (fun c29 => ?_)
        · rw [if_neg c29] at h
          refine x_pick [] rfl ?_
          exact t_X8_mixDecks_109 hls hC hl hE h
        · rw [if_pos c29] at h
          refine x_aload_n (pc := 99) hC 0 dX8_mixDecks_99 rfl rfl ?_
          refine x_dup (pc := 100) hC dX8_mixDecks_100 rfl ?_
          refine x_getIv (pc := 101) (k := 8) hC fc_14 fl_RX8_65 dX8_mixDecks_101 rfl g23 (fun x25 hx25 => ?_)
          replace h := lt_x hx25 h
          refine x_iconst (pc := 104) (v := (1 : Int32)) hC dX8_mixDecks_104 (by decide) ?_
          refine x_iaddv (pc := 105) hC dX8_mixDecks_105 (fun x26 hx26 => ?_)
          replace h := lt_x hx26 h
          refine x_putIv (pc := 106) (k := 8) hC fc_14 fl_RX8_65 dX8_mixDecks_106 rfl rfl (nf_int _) g23 (fun S27 hS27 => ?_)
          replace h := zI_x hS27 h
          have g28 : gK S27 a0 = 14 := by rw [hS27]; exact g23
          refine x_pick [] rfl ?_
          exact t_X8_mixDecks_109 hls hC hl hE h
      · exact xk_r (xt_out hC hE (bk_r h) (Nat.le_of_ble_eq_true rfl) (Nat.le_of_ble_eq_true rfl))
    · rw [if_neg c56] at h
      refine x_aload_n (pc := 13) hC 0 dX8_mixDecks_13 rfl rfl ?_
      refine x_getRv (pc := 14) (k := 1) hC fc_14 fl_RX8_22 dX8_mixDecks_14 rfl g1 (fun r30 hr30 => ?_)
      replace h := lt_x hr30 h
      refine x_iload_n (pc := 17) hC 2 dX8_mixDecks_17 rfl rfl ?_
      obtain ⟨g33, h⟩ := gd_some h
      obtain ⟨g32, h⟩ := gd_some h
      refine x_raldv (pc := 18) (t0 := 4) hC dX8_mixDecks_18 g33 (by decide) (fun _ => rfl) g32 (fun r34 hr34 => ?_)
      replace h := lt_x hr34 h
      refine x_astore_n (pc := 19) hC dX8_mixDecks_19 rfl (by decide) (by decide) rfl ?_
      refine x_aload_n (pc := 20) hC 0 dX8_mixDecks_20 rfl rfl ?_
      refine x_aload_n (pc := 21) hC 0 dX8_mixDecks_21 rfl rfl ?_
      refine x_aload_n (pc := 22) hC 1 dX8_mixDecks_22 rfl rfl ?_
      refine x_getIv (pc := 23) (k := 5) hC fc_14 fl_RX8_53 dX8_mixDecks_23 rfl g1 (fun x35 hx35 => ?_)
      replace h := lt_x hx35 h
      obtain ⟨g36, h⟩ := gd_some h
      obtain ⟨o39, ho39, h⟩ := bd_some h
      refine x_callV (pc := 26) (As := [.int x35]) (rest := [.ref r34]) hC hl (c_X1_levelAt l hls ho39) lk_RX8_90 fc_7 g36 dX8_mixDecks_26 rfl rfl (Nat.le_of_ble_eq_true rfl) ⟨Nat.le_of_ble_eq_true rfl, Nat.le_of_ble_eq_true rfl⟩ ⟨(Nat.le_of_ble_eq_true rfl), (Nat.le_of_ble_eq_true rfl)⟩ ?_
      rcases o39 with ⟨x37 | E40, S38⟩
      · refine xk_i ?_
        replace h := bk_l h
        obtain ⟨g41, h⟩ := gd_some h
        obtain ⟨o44, ho44, h⟩ := bd_some h
        refine x_callV (pc := 29) (As := [.int x37]) (rest := []) hC hl (c_X1_loudnessAt l hls ho44) lk_RX8_94 fc_7 g41 dX8_mixDecks_29 rfl rfl (Nat.le_of_ble_eq_true rfl) ⟨Nat.le_of_ble_eq_true rfl, Nat.le_of_ble_eq_true rfl⟩ ⟨(Nat.le_of_ble_eq_true rfl), (Nat.le_of_ble_eq_true rfl)⟩ ?_
        rcases o44 with ⟨x42 | E45, S43⟩
        · refine xk_i ?_
          replace h := bk_l h
          refine x_istore (pc := 32) hC dX8_mixDecks_32 (by decide) (by decide) rfl ?_
          refine x_iload_n (pc := 34) hC 3 dX8_mixDecks_34 rfl rfl ?_
          refine x_aload_n (pc := 35) hC 1 dX8_mixDecks_35 rfl rfl ?_
          obtain ⟨g46, h⟩ := gd_some h
          refine x_getRv (pc := 36) (k := 0) hC fc_7 fl_RX8_97 dX8_mixDecks_36 rfl g46 (fun r47 hr47 => ?_)
          replace h := lt_x hr47 h
          refine x_iload (pc := 39) hC 0 dX8_mixDecks_39 rfl ?_
          refine x_aload_n (pc := 41) hC 1 dX8_mixDecks_41 rfl rfl ?_
          refine x_getLv (pc := 42) (k := 3) hC fc_7 fl_RX8_101 dX8_mixDecks_42 rfl g46 (fun x48 hx48 => ?_)
          replace h := lt_x hx48 h
          obtain ⟨g49, h⟩ := gd_some h
          obtain ⟨o52, ho52, h⟩ := bd_some h
          refine x_callV (pc := 45) (As := [.int x42, .long x48]) (rest := [.int a1]) hC hl (c_X0_soundOf l hls ho52) lk_RX8_105 fc_6 g49 dX8_mixDecks_45 rfl rfl (Nat.le_of_ble_eq_true rfl) ⟨Nat.le_of_ble_eq_true rfl, Nat.le_of_ble_eq_true rfl⟩ ⟨(Nat.le_of_ble_eq_true rfl), (Nat.le_of_ble_eq_true rfl)⟩ ?_
          rcases o52 with ⟨x50 | E53, S51⟩
          · refine xk_i ?_
            replace h := bk_l h
            refine x_iaddv (pc := 48) hC dX8_mixDecks_48 (fun x54 hx54 => ?_)
            replace h := lt_x hx54 h
            refine x_istore_n (pc := 49) hC dX8_mixDecks_49 rfl (by decide) (by decide) rfl ?_
            obtain ⟨x55, hx55⟩ : ∃ z, z = (a2 + Int32.ofInt (1)) := ⟨_, rfl⟩
            replace h := lt_x hx55 h
            refine x_iinc (pc := 50) hC 4 dX8_mixDecks_50 rfl hx55.symm (by decide) (by decide) rfl ?_
            refine x_goto (pc := 53) hC 4 dX8_mixDecks_53 (by decide) ?_
            refine x_pick [4, 1, 0] rfl ?_
            exact ih _ _ _ _ h
          · exact xk_r (xt_out hC hE (bk_r h) (Nat.le_of_ble_eq_true rfl) (Nat.le_of_ble_eq_true rfl))
        · exact xk_r (xt_out hC hE (bk_r h) (Nat.le_of_ble_eq_true rfl) (Nat.le_of_ble_eq_true rfl))
      · exact xk_r (xt_out hC hE (bk_r h) (Nat.le_of_ble_eq_true rfl) (Nat.le_of_ble_eq_true rfl))
def f_X8_mixDecks (S : mS) (a0 : Nat) : Option (Rs Unit) :=
  f_X8_mixDecks_4  16 S a0 (0 : Int32) (0 : Int32)
set_option maxHeartbeats 2000000 in
set_option maxRecDepth 100000 in
theorem t_X8_mixDecks {l : Launch} (hls : l.stackTraces = false) {C : cT} (hC : CX C cX8_mixDecks 5 yX8_mixDecks rm_X8_mixDecks) (hl : C.2.1 = l) {S0 : mS} (hE : CE C S0 (Option.none : Option Jvm.ClassFile.FieldType) []) {o : Rs Unit} {S : mS} {a0 : Nat} (h : f_X8_mixDecks S a0 = some o) : XX C 5 (QQ C (fun _ : Unit => none) S0 o) 0 0 S 0 [(0, .ref a0)] [] := by
  unfold f_X8_mixDecks at h
  refine x_iconst (pc := 0) (v := (0 : Int32)) hC dX8_mixDecks_0 (by decide) ?_
  refine x_istore_n (pc := 1) hC dX8_mixDecks_1 rfl (by decide) (by decide) rfl ?_
  refine x_iconst (pc := 2) (v := (0 : Int32)) hC dX8_mixDecks_2 (by decide) ?_
  refine x_istore_n (pc := 3) hC dX8_mixDecks_3 rfl (by decide) (by decide) rfl ?_
  refine x_pick [2, 1, 0] rfl ?_
  exact t_X8_mixDecks_4 hls hC hl hE 16 _ _ _ _ h
theorem c_X8_mixDecks (l : Launch) (hls : l.stackTraces = false) {S : mS} {a0 : Nat} {o : Rs Unit} (h : f_X8_mixDecks S a0 = some o) : CT (fun _ : Unit => none) l yX8_mixDecks (.code yX8_mixDecks cX8_mixDecks 5 (Option.none : Option Jvm.ClassFile.FieldType)) rm_X8_mixDecks S [.ref a0] o := ct_of (by decide +kernel) hls (Nat.le_of_ble_eq_true rfl) (fun C hl hC hE => t_X8_mixDecks hls hC hl hE h)
abbrev rm_X8_run : Room := { frames := 12, cells := 0, slots := 0, locals := 246 }
def f_X8_run_70 (rc7 : mS → Nat → Int32 → Int32 → Int32 → Option (Rs Int32)) (S : mS) (a0 : Nat) (a1 : Int32) (a2 : Int32) (a3 : Int32) : Option (Rs Int32) :=
  lt9 (a3 + Int32.ofInt (1)) fun x1 => rc7 S a0 a1 a2 x1
set_option maxHeartbeats 2000000 in
set_option maxRecDepth 100000 in
theorem t_X8_run_70 {l : Launch} (hls : l.stackTraces = false) {C : cT} (hC : CX C cX8_run 4 yX8_run rm_X8_run) (hl : C.2.1 = l) {S0 : mS} (hE : CE C S0 (Option.some Jvm.ClassFile.FieldType.int) []) {o : Rs Int32} {rc7 : mS → Nat → Int32 → Int32 → Int32 → Option (Rs Int32)} (hrc7 : ∀ (S : mS) (a0 : Nat) (a1 : Int32) (a2 : Int32) (a3 : Int32), rc7 S a0 a1 a2 a3 = some o → XX C 4 (QQ C (fun r : Int32 => some (.int r)) S0 o) (0) (0) S 7 [(0, .ref a0), (1, .int a1), (2, .int a2), (3, .int a3)] []) {S : mS} {a0 : Nat} {a1 : Int32} {a2 : Int32} {a3 : Int32} (h : f_X8_run_70 rc7 S a0 a1 a2 a3 = some o) : XX C 4 (QQ C (fun r : Int32 => some (.int r)) S0 o) (0) (0) S 70 [(0, .ref a0), (1, .int a1), (2, .int a2), (3, .int a3)] [] := by
  unfold f_X8_run_70 at h
  obtain ⟨x1, hx1⟩ : ∃ z, z = (a3 + Int32.ofInt (1)) := ⟨_, rfl⟩
  replace h := lt_x hx1 h
  refine x_iinc (pc := 70) hC 3 dX8_run_70 rfl hx1.symm (by decide) (by decide) rfl ?_
  refine x_goto (pc := 73) hC 7 dX8_run_73 (by decide) ?_
  refine x_pick [1, 2, 3, 0] rfl ?_
  exact hrc7 _ _ _ _ _ h
def f_X8_run_7  : Nat → mS → Nat → Int32 → Int32 → Int32 → Option (Rs Int32)
  | 0, _, _, _, _, _ => none
  | k + 1, S, a0, a1, a2, a3 => if a1 ≤ a3 then (gd (gK S a0 = 14) (lt9 (gI S a0 8) fun x2 => lt9 (x2 - a2) fun x3 => some (.inl x3, S))) else (gd (gK S a0 = 14) (bd (f_X8_advanceDecks S a0) fun _ S6 => gd (gK S6 a0 = 14) (lt9 (gI S6 a0 7) fun x10 => lt9 (x10 + (1 : Int32)) fun x11 => zI (sI S6 a0 7 x11) fun S12 => bd (f_X8_mixDecks S12 a0) fun _ S15 => gd (gK S15 a0 = 14) (bd (f_X8_countClashes S15 a0) fun _ S20 => gd (gK S20 a0 = 14) (lt9 (gI S20 a0 7) fun x24 => gd (¬ (100 : Int32) = 0) (lt9 (x24 - x24 / (100 : Int32) * (100 : Int32)) fun x25 => if x25 = 0 then (lt9 (gR S20 a0 2) fun r27 => lt9 (gR S20 a0 1) fun r28 => lt9 (gI S20 a0 5) fun x29 => gd (gK S20 r27 = 10) (bd (f_X4_dance S20 r27 r28 x29) fun _ S32 => gd (gK S32 a0 = 14) (lt9 (gR S32 a0 3) fun r36 => lt9 (gI S32 a0 7) fun x37 => gd (gK S32 r36 = 11) (bd (f_X5_judge S32 r36 x37) fun _ S40 => f_X8_run_70 (f_X8_run_7 k) S40 a0 a1 a2 a3)))) else (f_X8_run_70 (f_X8_run_7 k) S20 a0 a1 a2 a3)))))))
set_option maxHeartbeats 2000000 in
set_option maxRecDepth 100000 in
theorem t_X8_run_7 {l : Launch} (hls : l.stackTraces = false) {C : cT} (hC : CX C cX8_run 4 yX8_run rm_X8_run) (hl : C.2.1 = l) {S0 : mS} (hE : CE C S0 (Option.some Jvm.ClassFile.FieldType.int) []) {o : Rs Int32} : ∀ (k : Nat) (S : mS) (a0 : Nat) (a1 : Int32) (a2 : Int32) (a3 : Int32), f_X8_run_7  k S a0 a1 a2 a3 = some o → XX C 4 (QQ C (fun r : Int32 => some (.int r)) S0 o) (0) (0) S 7 [(0, .ref a0), (1, .int a1), (2, .int a2), (3, .int a3)] [] := by
  intro k
  induction k with
  | zero => intro S a0 a1 a2 a3 h; cases h
  | succ k ih =>
    intro S a0 a1 a2 a3 h
    unfold f_X8_run_7 at h
    refine x_iload_n (pc := 7) hC 3 dX8_run_7 rfl rfl ?_
    refine x_iload_n (pc := 8) hC 1 dX8_run_8 rfl rfl ?_
    refine x_icmp_ge (pc := 9) hC 76 dX8_run_9 (by decide) (fun c44 => ?_) (fun c44 => ?_)
    · rw [if_pos c44] at h
      refine x_aload_n (pc := 76) hC 0 dX8_run_76 rfl rfl ?_
      obtain ⟨g1, h⟩ := gd_some h
      refine x_getIv (pc := 77) (k := 8) hC fc_14 fl_RX8_65 dX8_run_77 rfl g1 (fun x2 hx2 => ?_)
      replace h := lt_x hx2 h
      refine x_iload_n (pc := 80) hC 2 dX8_run_80 rfl rfl ?_
      refine x_isubv (pc := 81) hC dX8_run_81 (fun x3 hx3 => ?_)
      replace h := lt_x hx3 h
      exact x_ireturn (pc := 82) hC hE dX8_run_82 (so h) (Nat.le_of_ble_eq_true rfl) (Nat.le_of_ble_eq_true rfl)
    · rw [if_neg c44] at h
      refine x_aload_n (pc := 12) hC 0 dX8_run_12 rfl rfl ?_
      obtain ⟨g4, h⟩ := gd_some h
      obtain ⟨o7, ho7, h⟩ := bd_some h
      refine x_callV (pc := 13) (As := []) (rest := []) hC hl (c_X8_advanceDecks l hls ho7) lk_RX8_68 fc_14 g4 dX8_run_13 rfl rfl (Nat.le_of_ble_eq_true rfl) ⟨Nat.le_of_ble_eq_true rfl, Nat.le_of_ble_eq_true rfl⟩ ⟨(Nat.le_of_ble_eq_true rfl), (Nat.le_of_ble_eq_true rfl)⟩ ?_
      rcases o7 with ⟨_ | E8, S6⟩
      · refine xk_v ?_
        replace h := bk_l h
        refine x_aload_n (pc := 16) hC 0 dX8_run_16 rfl rfl ?_
        refine x_dup (pc := 17) hC dX8_run_17 rfl ?_
        obtain ⟨g9, h⟩ := gd_some h
        refine x_getIv (pc := 18) (k := 7) hC fc_14 fl_RX8_71 dX8_run_18 rfl g9 (fun x10 hx10 => ?_)
        replace h := lt_x hx10 h
        refine x_iconst (pc := 21) (v := (1 : Int32)) hC dX8_run_21 (by decide) ?_
        refine x_iaddv (pc := 22) hC dX8_run_22 (fun x11 hx11 => ?_)
        replace h := lt_x hx11 h
        refine x_putIv (pc := 23) (k := 7) hC fc_14 fl_RX8_71 dX8_run_23 rfl rfl (nf_int _) g9 (fun S12 hS12 => ?_)
        replace h := zI_x hS12 h
        have g13 : gK S12 a0 = 14 := by rw [hS12]; exact g9
        refine x_aload_n (pc := 26) hC 0 dX8_run_26 rfl rfl ?_
        obtain ⟨o16, ho16, h⟩ := bd_some h
        refine x_callV (pc := 27) (As := []) (rest := []) hC hl (c_X8_mixDecks l hls ho16) lk_RX8_74 fc_14 g13 dX8_run_27 rfl rfl (Nat.le_of_ble_eq_true rfl) ⟨Nat.le_of_ble_eq_true rfl, Nat.le_of_ble_eq_true rfl⟩ ⟨(Nat.le_of_ble_eq_true rfl), (Nat.le_of_ble_eq_true rfl)⟩ ?_
        rcases o16 with ⟨_ | E17, S15⟩
        · refine xk_v ?_
          replace h := bk_l h
          refine x_aload_n (pc := 30) hC 0 dX8_run_30 rfl rfl ?_
          obtain ⟨g18, h⟩ := gd_some h
          obtain ⟨o21, ho21, h⟩ := bd_some h
          refine x_callV (pc := 31) (As := []) (rest := []) hC hl (c_X8_countClashes l hls ho21) lk_RX8_77 fc_14 g18 dX8_run_31 rfl rfl (Nat.le_of_ble_eq_true rfl) ⟨Nat.le_of_ble_eq_true rfl, Nat.le_of_ble_eq_true rfl⟩ ⟨(Nat.le_of_ble_eq_true rfl), (Nat.le_of_ble_eq_true rfl)⟩ ?_
          rcases o21 with ⟨_ | E22, S20⟩
          · refine xk_v ?_
            replace h := bk_l h
            refine x_aload_n (pc := 34) hC 0 dX8_run_34 rfl rfl ?_
            obtain ⟨g23, h⟩ := gd_some h
            refine x_getIv (pc := 35) (k := 7) hC fc_14 fl_RX8_71 dX8_run_35 rfl g23 (fun x24 hx24 => ?_)
            replace h := lt_x hx24 h
            refine x_bipush (pc := 38) (v := (100 : Int32)) hC dX8_run_38 (by decide) ?_
            obtain ⟨g26, h⟩ := gd_some h
            refine x_iremv (pc := 40) hC dX8_run_40 g26 (fun x25 hx25 => ?_)
            replace h := lt_x hx25 h
            refine x_if_ne (pc := 41) hC 70 dX8_run_41 (by decide) (fun c43 => ?_) (fun c43 => ?_)
            · rw [if_neg c43] at h
              refine x_pick [0, 1, 2, 3] rfl ?_
              exact t_X8_run_70 hls hC hl hE (fun z0 z1 z2 z3 z4 hz => ih z0 z1 z2 z3 z4 hz) h
            · rw [if_pos c43] at h
              refine x_aload_n (pc := 44) hC 0 dX8_run_44 rfl rfl ?_
              refine x_getRv (pc := 45) (k := 2) hC fc_14 fl_RX8_30 dX8_run_45 rfl g23 (fun r27 hr27 => ?_)
              replace h := lt_x hr27 h
              refine x_aload_n (pc := 48) hC 0 dX8_run_48 rfl rfl ?_
              refine x_getRv (pc := 49) (k := 1) hC fc_14 fl_RX8_22 dX8_run_49 rfl g23 (fun r28 hr28 => ?_)
              replace h := lt_x hr28 h
              refine x_aload_n (pc := 52) hC 0 dX8_run_52 rfl rfl ?_
              refine x_getIv (pc := 53) (k := 5) hC fc_14 fl_RX8_53 dX8_run_53 rfl g23 (fun x29 hx29 => ?_)
              replace h := lt_x hx29 h
              obtain ⟨g30, h⟩ := gd_some h
              obtain ⟨o33, ho33, h⟩ := bd_some h
              refine x_callV (pc := 56) (As := [.ref r28, .int x29]) (rest := []) hC hl (c_X4_dance l hls ho33) lk_RX8_80 fc_10 g30 dX8_run_56 rfl rfl (Nat.le_of_ble_eq_true rfl) ⟨Nat.le_of_ble_eq_true rfl, Nat.le_of_ble_eq_true rfl⟩ ⟨(Nat.le_of_ble_eq_true rfl), (Nat.le_of_ble_eq_true rfl)⟩ ?_
              rcases o33 with ⟨_ | E34, S32⟩
              · refine xk_v ?_
                replace h := bk_l h
                refine x_aload_n (pc := 59) hC 0 dX8_run_59 rfl rfl ?_
                obtain ⟨g35, h⟩ := gd_some h
                refine x_getRv (pc := 60) (k := 3) hC fc_14 fl_RX8_37 dX8_run_60 rfl g35 (fun r36 hr36 => ?_)
                replace h := lt_x hr36 h
                refine x_aload_n (pc := 63) hC 0 dX8_run_63 rfl rfl ?_
                refine x_getIv (pc := 64) (k := 7) hC fc_14 fl_RX8_71 dX8_run_64 rfl g35 (fun x37 hx37 => ?_)
                replace h := lt_x hx37 h
                obtain ⟨g38, h⟩ := gd_some h
                obtain ⟨o41, ho41, h⟩ := bd_some h
                refine x_callV (pc := 67) (As := [.int x37]) (rest := []) hC hl (c_X5_judge l hls ho41) lk_RX8_84 fc_11 g38 dX8_run_67 rfl rfl (Nat.le_of_ble_eq_true rfl) ⟨Nat.le_of_ble_eq_true rfl, Nat.le_of_ble_eq_true rfl⟩ ⟨(Nat.le_of_ble_eq_true rfl), (Nat.le_of_ble_eq_true rfl)⟩ ?_
                rcases o41 with ⟨_ | E42, S40⟩
                · refine xk_v ?_
                  replace h := bk_l h
                  refine x_pick [0, 1, 2, 3] rfl ?_
                  exact t_X8_run_70 hls hC hl hE (fun z0 z1 z2 z3 z4 hz => ih z0 z1 z2 z3 z4 hz) h
                · exact xk_r (xt_out hC hE (bk_r h) (Nat.le_of_ble_eq_true rfl) (Nat.le_of_ble_eq_true rfl))
              · exact xk_r (xt_out hC hE (bk_r h) (Nat.le_of_ble_eq_true rfl) (Nat.le_of_ble_eq_true rfl))
          · exact xk_r (xt_out hC hE (bk_r h) (Nat.le_of_ble_eq_true rfl) (Nat.le_of_ble_eq_true rfl))
        · exact xk_r (xt_out hC hE (bk_r h) (Nat.le_of_ble_eq_true rfl) (Nat.le_of_ble_eq_true rfl))
      · exact xk_r (xt_out hC hE (bk_r h) (Nat.le_of_ble_eq_true rfl) (Nat.le_of_ble_eq_true rfl))
def f_X8_run (S : mS) (a0 : Nat) (a1 : Int32) : Option (Rs Int32) :=
  gd (gK S a0 = 14) (lt9 (gI S a0 8) fun x2 => f_X8_run_7  2001 S a0 a1 x2 (0 : Int32))
set_option maxHeartbeats 2000000 in
set_option maxRecDepth 100000 in
theorem t_X8_run {l : Launch} (hls : l.stackTraces = false) {C : cT} (hC : CX C cX8_run 4 yX8_run rm_X8_run) (hl : C.2.1 = l) {S0 : mS} (hE : CE C S0 (Option.some Jvm.ClassFile.FieldType.int) []) {o : Rs Int32} {S : mS} {a0 : Nat} {a1 : Int32} (h : f_X8_run S a0 a1 = some o) : XX C 4 (QQ C (fun r : Int32 => some (.int r)) S0 o) 0 0 S 0 [(0, .ref a0), (1, .int a1)] [] := by
  unfold f_X8_run at h
  refine x_aload_n (pc := 0) hC 0 dX8_run_0 rfl rfl ?_
  obtain ⟨g1, h⟩ := gd_some h
  refine x_getIv (pc := 1) (k := 8) hC fc_14 fl_RX8_65 dX8_run_1 rfl g1 (fun x2 hx2 => ?_)
  replace h := lt_x hx2 h
  refine x_istore_n (pc := 4) hC dX8_run_4 rfl (by decide) (by decide) rfl ?_
  refine x_iconst (pc := 5) (v := (0 : Int32)) hC dX8_run_5 (by decide) ?_
  refine x_istore_n (pc := 6) hC dX8_run_6 rfl (by decide) (by decide) rfl ?_
  refine x_pick [2, 3, 1, 0] rfl ?_
  exact t_X8_run_7 hls hC hl hE 2001 _ _ _ _ _ h
theorem c_X8_run (l : Launch) (hls : l.stackTraces = false) {S : mS} {a0 : Nat} {a1 : Int32} {o : Rs Int32} (h : f_X8_run S a0 a1 = some o) : CT (fun r : Int32 => some (.int r)) l yX8_run (.code yX8_run cX8_run 4 (Option.some Jvm.ClassFile.FieldType.int)) rm_X8_run S [.ref a0, .int a1] o := ct_of (by decide +kernel) hls (Nat.le_of_ble_eq_true rfl) (fun C hl hC hE => t_X8_run hls hC hl hE h)
abbrev rm_X8_loudestDeck : Room := { frames := 10, cells := 0, slots := 0, locals := 193 }
def f_X8_loudestDeck_71 (rc6 : mS → Nat → Nat → Int32 → Int32 → Option (Rs Nat)) (S : mS) (a0 : Nat) (a1 : Nat) (a2 : Int32) (a3 : Int32) : Option (Rs Nat) :=
  lt9 (a3 + Int32.ofInt (1)) fun x1 => rc6 S a0 a1 a2 x1
set_option maxHeartbeats 2000000 in
set_option maxRecDepth 100000 in
theorem t_X8_loudestDeck_71 {l : Launch} (hls : l.stackTraces = false) {C : cT} (hC : CX C cX8_loudestDeck 5 yX8_loudestDeck rm_X8_loudestDeck) (hl : C.2.1 = l) {S0 : mS} (hE : CE C S0 (Option.some (Jvm.ClassFile.FieldType.object "MixBooth$Deck")) []) {o : Rs Nat} {rc6 : mS → Nat → Nat → Int32 → Int32 → Option (Rs Nat)} (hrc6 : ∀ (S : mS) (a0 : Nat) (a1 : Nat) (a2 : Int32) (a3 : Int32), rc6 S a0 a1 a2 a3 = some o → XX C 5 (QQ C (fun r : Nat => some (.ref r)) S0 o) (0) (0) S 6 [(0, .ref a0), (1, .ref a1), (2, .int a2), (3, .int a3)] []) {S : mS} {a0 : Nat} {a1 : Nat} {a2 : Int32} {a3 : Int32} (h : f_X8_loudestDeck_71 rc6 S a0 a1 a2 a3 = some o) : XX C 5 (QQ C (fun r : Nat => some (.ref r)) S0 o) (0) (0) S 71 [(0, .ref a0), (1, .ref a1), (2, .int a2), (3, .int a3)] [] := by
  unfold f_X8_loudestDeck_71 at h
  obtain ⟨x1, hx1⟩ : ∃ z, z = (a3 + Int32.ofInt (1)) := ⟨_, rfl⟩
  replace h := lt_x hx1 h
  refine x_iinc (pc := 71) hC 3 dX8_loudestDeck_71 rfl hx1.symm (by decide) (by decide) rfl ?_
  refine x_goto (pc := 74) hC 6 dX8_loudestDeck_74 (by decide) ?_
  refine x_pick [1, 2, 3, 0] rfl ?_
  exact hrc6 _ _ _ _ _ h
def f_X8_loudestDeck_6  : Nat → mS → Nat → Nat → Int32 → Int32 → Option (Rs Nat)
  | 0, _, _, _, _, _ => none
  | k + 1, S, a0, a1, a2, a3 => gd (gK S a0 = 14) (lt9 (gR S a0 1) fun r2 => gd (gK S r2 = 34) (lt9 (Int32.ofNat (gZ S r2)) fun x4 => if x4 ≤ a3 then (some (.inl a1, S)) else (lt9 (gR S a0 1) fun r5 => gd (gK S r5 = 34) (gd (¬ (a3 < 0 ∨ gZ S r5 ≤ (a3).toNatClampNeg)) (lt9 (gR S r5 (a3).toNatClampNeg) fun r9 => lt9 (gR S a0 1) fun r10 => gd (gK S r10 = 34) (gd (¬ (a3 < 0 ∨ gZ S r10 ≤ (a3).toNatClampNeg)) (lt9 (gR S r10 (a3).toNatClampNeg) fun r14 => lt9 (gI S a0 5) fun x15 => gd (gK S r14 = 7) (bd (f_X1_levelAt S r14 x15) fun x17 S18 => gd (gK S18 r9 = 7) (bd (f_X1_loudnessAt S18 r9 x17) fun x22 S23 => gd (gK S23 a0 = 14) (lt9 (gR S23 a0 1) fun r27 => gd (gK S23 r27 = 34) (gd (¬ (a3 < 0 ∨ gZ S23 r27 ≤ (a3).toNatClampNeg)) (lt9 (gR S23 r27 (a3).toNatClampNeg) fun r31 => lt9 (gI S23 a0 5) fun x32 => gd (gK S23 r31 = 7) (bd (f_X1_isHeard S23 r31 x32) fun x34 S35 => if x34 = 0 then (f_X8_loudestDeck_71 (f_X8_loudestDeck_6 k) S35 a0 a1 a2 a3) else (if x22 ≤ a2 then (f_X8_loudestDeck_71 (f_X8_loudestDeck_6 k) S35 a0 a1 a2 a3) else (gd (gK S35 a0 = 14) (lt9 (gR S35 a0 1) fun r39 => gd (gK S35 r39 = 34) (gd (¬ (a3 < 0 ∨ gZ S35 r39 ≤ (a3).toNatClampNeg)) (lt9 (gR S35 r39 (a3).toNatClampNeg) fun r43 => f_X8_loudestDeck_71 (f_X8_loudestDeck_6 k) S35 a0 r43 x22 a3))))))))))))))))))
set_option maxHeartbeats 2000000 in
set_option maxRecDepth 100000 in
theorem t_X8_loudestDeck_6 {l : Launch} (hls : l.stackTraces = false) {C : cT} (hC : CX C cX8_loudestDeck 5 yX8_loudestDeck rm_X8_loudestDeck) (hl : C.2.1 = l) {S0 : mS} (hE : CE C S0 (Option.some (Jvm.ClassFile.FieldType.object "MixBooth$Deck")) []) {o : Rs Nat} : ∀ (k : Nat) (S : mS) (a0 : Nat) (a1 : Nat) (a2 : Int32) (a3 : Int32), f_X8_loudestDeck_6  k S a0 a1 a2 a3 = some o → XX C 5 (QQ C (fun r : Nat => some (.ref r)) S0 o) (0) (0) S 6 [(0, .ref a0), (1, .ref a1), (2, .int a2), (3, .int a3)] [] := by
  intro k
  induction k with
  | zero => intro S a0 a1 a2 a3 h; cases h
  | succ k ih =>
    intro S a0 a1 a2 a3 h
    unfold f_X8_loudestDeck_6 at h
    refine x_iload_n (pc := 6) hC 3 dX8_loudestDeck_6 rfl rfl ?_
    refine x_aload_n (pc := 7) hC 0 dX8_loudestDeck_7 rfl rfl ?_
    obtain ⟨g1, h⟩ := gd_some h
    refine x_getRv (pc := 8) (k := 1) hC fc_14 fl_RX8_22 dX8_loudestDeck_8 rfl g1 (fun r2 hr2 => ?_)
    replace h := lt_x hr2 h
    obtain ⟨g3, h⟩ := gd_some h
    refine x_alenv (pc := 11) (t0 := 4) hC dX8_loudestDeck_11 g3 (by decide) (fun _ => rfl) (fun x4 hx4 => ?_)
    replace h := lt_x hx4 h
    refine x_icmp_ge (pc := 12) hC 77 dX8_loudestDeck_12 (by decide) (fun c46 => ?_) (fun c46 => ?_)
    · rw [if_pos c46] at h
      refine x_aload_n (pc := 77) hC 1 dX8_loudestDeck_77 rfl rfl ?_
      exact x_areturn (pc := 78) hC hE (Or.inl ⟨_, rfl⟩) dX8_loudestDeck_78 (so h) (Nat.le_of_ble_eq_true rfl) (Nat.le_of_ble_eq_true rfl)
    · rw [if_neg c46] at h
      refine x_aload_n (pc := 15) hC 0 dX8_loudestDeck_15 rfl rfl ?_
      refine x_getRv (pc := 16) (k := 1) hC fc_14 fl_RX8_22 dX8_loudestDeck_16 rfl g1 (fun r5 hr5 => ?_)
      replace h := lt_x hr5 h
      refine x_iload_n (pc := 19) hC 3 dX8_loudestDeck_19 rfl rfl ?_
      obtain ⟨g8, h⟩ := gd_some h
      obtain ⟨g7, h⟩ := gd_some h
      refine x_raldv (pc := 20) (t0 := 4) hC dX8_loudestDeck_20 g8 (by decide) (fun _ => rfl) g7 (fun r9 hr9 => ?_)
      replace h := lt_x hr9 h
      refine x_aload_n (pc := 21) hC 0 dX8_loudestDeck_21 rfl rfl ?_
      refine x_getRv (pc := 22) (k := 1) hC fc_14 fl_RX8_22 dX8_loudestDeck_22 rfl g1 (fun r10 hr10 => ?_)
      replace h := lt_x hr10 h
      refine x_iload_n (pc := 25) hC 3 dX8_loudestDeck_25 rfl rfl ?_
      obtain ⟨g13, h⟩ := gd_some h
      obtain ⟨g12, h⟩ := gd_some h
      refine x_raldv (pc := 26) (t0 := 4) hC dX8_loudestDeck_26 g13 (by decide) (fun _ => rfl) g12 (fun r14 hr14 => ?_)
      replace h := lt_x hr14 h
      refine x_aload_n (pc := 27) hC 0 dX8_loudestDeck_27 rfl rfl ?_
      refine x_getIv (pc := 28) (k := 5) hC fc_14 fl_RX8_53 dX8_loudestDeck_28 rfl g1 (fun x15 hx15 => ?_)
      replace h := lt_x hx15 h
      obtain ⟨g16, h⟩ := gd_some h
      obtain ⟨o19, ho19, h⟩ := bd_some h
      refine x_callV (pc := 31) (As := [.int x15]) (rest := [.ref r9]) hC hl (c_X1_levelAt l hls ho19) lk_RX8_90 fc_7 g16 dX8_loudestDeck_31 rfl rfl (Nat.le_of_ble_eq_true rfl) ⟨Nat.le_of_ble_eq_true rfl, Nat.le_of_ble_eq_true rfl⟩ ⟨(Nat.le_of_ble_eq_true rfl), (Nat.le_of_ble_eq_true rfl)⟩ ?_
      rcases o19 with ⟨x17 | E20, S18⟩
      · refine xk_i ?_
        replace h := bk_l h
        obtain ⟨g21, h⟩ := gd_some h
        obtain ⟨o24, ho24, h⟩ := bd_some h
        refine x_callV (pc := 34) (As := [.int x17]) (rest := []) hC hl (c_X1_loudnessAt l hls ho24) lk_RX8_94 fc_7 g21 dX8_loudestDeck_34 rfl rfl (Nat.le_of_ble_eq_true rfl) ⟨Nat.le_of_ble_eq_true rfl, Nat.le_of_ble_eq_true rfl⟩ ⟨(Nat.le_of_ble_eq_true rfl), (Nat.le_of_ble_eq_true rfl)⟩ ?_
        rcases o24 with ⟨x22 | E25, S23⟩
        · refine xk_i ?_
          replace h := bk_l h
          refine x_istore (pc := 37) hC dX8_loudestDeck_37 (by decide) (by decide) rfl ?_
          refine x_aload_n (pc := 39) hC 1 dX8_loudestDeck_39 rfl rfl ?_
          obtain ⟨g26, h⟩ := gd_some h
          refine x_getRv (pc := 40) (k := 1) hC fc_14 fl_RX8_22 dX8_loudestDeck_40 rfl g26 (fun r27 hr27 => ?_)
          replace h := lt_x hr27 h
          refine x_iload_n (pc := 43) hC 4 dX8_loudestDeck_43 rfl rfl ?_
          obtain ⟨g30, h⟩ := gd_some h
          obtain ⟨g29, h⟩ := gd_some h
          refine x_raldv (pc := 44) (t0 := 4) hC dX8_loudestDeck_44 g30 (by decide) (fun _ => rfl) g29 (fun r31 hr31 => ?_)
          replace h := lt_x hr31 h
          refine x_aload_n (pc := 45) hC 1 dX8_loudestDeck_45 rfl rfl ?_
          refine x_getIv (pc := 46) (k := 5) hC fc_14 fl_RX8_53 dX8_loudestDeck_46 rfl g26 (fun x32 hx32 => ?_)
          replace h := lt_x hx32 h
          obtain ⟨g33, h⟩ := gd_some h
          obtain ⟨o36, ho36, h⟩ := bd_some h
          refine x_callV (pc := 49) (As := [.int x32]) (rest := []) hC hl (c_X1_isHeard l hls ho36) lk_RX8_120 fc_7 g33 dX8_loudestDeck_49 rfl rfl (Nat.le_of_ble_eq_true rfl) ⟨Nat.le_of_ble_eq_true rfl, Nat.le_of_ble_eq_true rfl⟩ ⟨(Nat.le_of_ble_eq_true rfl), (Nat.le_of_ble_eq_true rfl)⟩ ?_
          rcases o36 with ⟨x34 | E37, S35⟩
          · refine xk_i ?_
            replace h := bk_l h
            refine x_if_eq (pc := 52) hC 71 dX8_loudestDeck_52 (by decide) (fun c45 => ?_) (fun c45 => ?_)
            · rw [if_pos c45] at h
              refine x_pick [1, 2, 3, 4] rfl ?_
              exact t_X8_loudestDeck_71 hls hC hl hE (fun z0 z1 z2 z3 z4 hz => ih z0 z1 z2 z3 z4 hz) h
            · rw [if_neg c45] at h
              refine x_iload (pc := 55) hC 0 dX8_loudestDeck_55 rfl ?_
              refine x_iload_n (pc := 57) hC 3 dX8_loudestDeck_57 rfl rfl ?_
              refine x_icmp_le (pc := 58) hC 71 dX8_loudestDeck_58 (by decide) (fun c44 => ?_) (fun c44 => ?_)
              · rw [if_pos c44] at h
                refine x_pick [1, 2, 3, 4] rfl ?_
                exact t_X8_loudestDeck_71 hls hC hl hE (fun z0 z1 z2 z3 z4 hz => ih z0 z1 z2 z3 z4 hz) h
              · rw [if_neg c44] at h
                refine x_aload_n (pc := 61) hC 1 dX8_loudestDeck_61 rfl rfl ?_
                obtain ⟨g38, h⟩ := gd_some h
                refine x_getRv (pc := 62) (k := 1) hC fc_14 fl_RX8_22 dX8_loudestDeck_62 rfl g38 (fun r39 hr39 => ?_)
                replace h := lt_x hr39 h
                refine x_iload_n (pc := 65) hC 4 dX8_loudestDeck_65 rfl rfl ?_
                obtain ⟨g42, h⟩ := gd_some h
                obtain ⟨g41, h⟩ := gd_some h
                refine x_raldv (pc := 66) (t0 := 4) hC dX8_loudestDeck_66 g42 (by decide) (fun _ => rfl) g41 (fun r43 hr43 => ?_)
                replace h := lt_x hr43 h
                refine x_astore_n (pc := 67) hC dX8_loudestDeck_67 rfl (by decide) (by decide) rfl ?_
                refine x_iload (pc := 68) hC 1 dX8_loudestDeck_68 rfl ?_
                refine x_istore_n (pc := 70) hC dX8_loudestDeck_70 rfl (by decide) (by decide) rfl ?_
                refine x_pick [3, 1, 0, 4] rfl ?_
                exact t_X8_loudestDeck_71 hls hC hl hE (fun z0 z1 z2 z3 z4 hz => ih z0 z1 z2 z3 z4 hz) h
          · exact xk_r (xt_out hC hE (bk_r h) (Nat.le_of_ble_eq_true rfl) (Nat.le_of_ble_eq_true rfl))
        · exact xk_r (xt_out hC hE (bk_r h) (Nat.le_of_ble_eq_true rfl) (Nat.le_of_ble_eq_true rfl))
      · exact xk_r (xt_out hC hE (bk_r h) (Nat.le_of_ble_eq_true rfl) (Nat.le_of_ble_eq_true rfl))
def f_X8_loudestDeck (S : mS) (a0 : Nat) : Option (Rs Nat) :=
  f_X8_loudestDeck_6  16 S a0 0 (-1 : Int32) (0 : Int32)
set_option maxHeartbeats 2000000 in
set_option maxRecDepth 100000 in
theorem t_X8_loudestDeck {l : Launch} (hls : l.stackTraces = false) {C : cT} (hC : CX C cX8_loudestDeck 5 yX8_loudestDeck rm_X8_loudestDeck) (hl : C.2.1 = l) {S0 : mS} (hE : CE C S0 (Option.some (Jvm.ClassFile.FieldType.object "MixBooth$Deck")) []) {o : Rs Nat} {S : mS} {a0 : Nat} (h : f_X8_loudestDeck S a0 = some o) : XX C 5 (QQ C (fun r : Nat => some (.ref r)) S0 o) 0 0 S 0 [(0, .ref a0)] [] := by
  unfold f_X8_loudestDeck at h
  refine x_null (pc := 0) hC dX8_loudestDeck_0 ?_
  refine x_astore_n (pc := 1) hC dX8_loudestDeck_1 rfl (by decide) (by decide) rfl ?_
  refine x_iconst (pc := 2) (v := (-1 : Int32)) hC dX8_loudestDeck_2 (by decide) ?_
  refine x_istore_n (pc := 3) hC dX8_loudestDeck_3 rfl (by decide) (by decide) rfl ?_
  refine x_iconst (pc := 4) (v := (0 : Int32)) hC dX8_loudestDeck_4 (by decide) ?_
  refine x_istore_n (pc := 5) hC dX8_loudestDeck_5 rfl (by decide) (by decide) rfl ?_
  refine x_pick [3, 2, 1, 0] rfl ?_
  exact t_X8_loudestDeck_6 hls hC hl hE 16 _ _ _ _ _ h
theorem c_X8_loudestDeck (l : Launch) (hls : l.stackTraces = false) {S : mS} {a0 : Nat} {o : Rs Nat} (h : f_X8_loudestDeck S a0 = some o) : CT (fun r : Nat => some (.ref r)) l yX8_loudestDeck (.code yX8_loudestDeck cX8_loudestDeck 5 (Option.some (Jvm.ClassFile.FieldType.object "MixBooth$Deck"))) rm_X8_loudestDeck S [.ref a0] o := ct_of (by decide +kernel) hls (Nat.le_of_ble_eq_true rfl) (fun C hl hC hE => t_X8_loudestDeck hls hC hl hE h)
abbrev rm_X8_loseDisc : Room := { frames := 11, cells := 0, slots := 0, locals := 217 }
def f_X8_loseDisc_59 (rc15 : mS → Nat → Int32 → Option (Rs Int32)) (S : mS) (a0 : Nat) (a2 : Int32) : Option (Rs Int32) :=
  lt9 (a2 + Int32.ofInt (1)) fun x1 => rc15 S a0 x1
set_option maxHeartbeats 2000000 in
set_option maxRecDepth 100000 in
theorem t_X8_loseDisc_59 {l : Launch} (hls : l.stackTraces = false) {C : cT} (hC : CX C cX8_loseDisc 4 yX8_loseDisc rm_X8_loseDisc) (hl : C.2.1 = l) {S0 : mS} (hE : CE C S0 (Option.some Jvm.ClassFile.FieldType.int) []) {o : Rs Int32} {rc15 : mS → Nat → Int32 → Option (Rs Int32)} (hrc15 : ∀ (S : mS) (a0 : Nat) (a2 : Int32), rc15 S a0 a2 = some o → XX C 4 (QQ C (fun r : Int32 => some (.int r)) S0 o) (0) (0) S 15 [(0, .ref a0), (2, .int a2)] []) {S : mS} {a0 : Nat} {a2 : Int32} (h : f_X8_loseDisc_59 rc15 S a0 a2 = some o) : XX C 4 (QQ C (fun r : Int32 => some (.int r)) S0 o) (0) (0) S 59 [(0, .ref a0), (2, .int a2)] [] := by
  unfold f_X8_loseDisc_59 at h
  obtain ⟨x1, hx1⟩ : ∃ z, z = (a2 + Int32.ofInt (1)) := ⟨_, rfl⟩
  replace h := lt_x hx1 h
  refine x_iinc (pc := 59) hC 1 dX8_loseDisc_59 rfl hx1.symm (by decide) (by decide) rfl ?_
  refine x_goto (pc := 62) hC 15 dX8_loseDisc_62 (by decide) ?_
  refine x_pick [1, 0] rfl ?_
  exact hrc15 _ _ _ h
def f_X8_loseDisc_15  : Nat → mS → Nat → Int32 → Option (Rs Int32)
  | 0, _, _, _ => none
  | k + 1, S, a0, a2 => gd (gK S a0 = 14) (lt9 (gR S a0 1) fun r2 => gd (gK S r2 = 34) (lt9 (Int32.ofNat (gZ S r2)) fun x4 => if x4 ≤ a2 then (some (.inl (-1 : Int32), S)) else (lt9 (gR S a0 1) fun r5 => gd (gK S r5 = 34) (gd (¬ (a2 < 0 ∨ gZ S r5 ≤ (a2).toNatClampNeg)) (lt9 (gR S r5 (a2).toNatClampNeg) fun r9 => gd (gK S r9 = 7) (lt9 (gI S r9 5) fun x11 => if x11 = 0 then (lt9 (gR S r9 0) fun r12 => gd (gK S r12 = 6) (lt9 (gI S r12 3) fun x14 => if x14 < (30 : Int32) then (f_X8_loseDisc_59 (f_X8_loseDisc_15 k) S a0 a2) else (bd (f_X1_start S r9) fun x15 S16 => if x15 = 0 then (f_X8_loseDisc_59 (f_X8_loseDisc_15 k) S16 a0 a2) else (some (.inl a2, S16))))) else (f_X8_loseDisc_59 (f_X8_loseDisc_15 k) S a0 a2)))))))
set_option maxHeartbeats 2000000 in
set_option maxRecDepth 100000 in
theorem t_X8_loseDisc_15 {l : Launch} (hls : l.stackTraces = false) {C : cT} (hC : CX C cX8_loseDisc 4 yX8_loseDisc rm_X8_loseDisc) (hl : C.2.1 = l) {S0 : mS} (hE : CE C S0 (Option.some Jvm.ClassFile.FieldType.int) []) {o : Rs Int32} : ∀ (k : Nat) (S : mS) (a0 : Nat) (a2 : Int32), f_X8_loseDisc_15  k S a0 a2 = some o → XX C 4 (QQ C (fun r : Int32 => some (.int r)) S0 o) (0) (0) S 15 [(0, .ref a0), (2, .int a2)] [] := by
  intro k
  induction k with
  | zero => intro S a0 a2 h; cases h
  | succ k ih =>
    intro S a0 a2 h
    unfold f_X8_loseDisc_15 at h
    refine x_iload_n (pc := 15) hC 1 dX8_loseDisc_15 rfl rfl ?_
    refine x_aload_n (pc := 16) hC 0 dX8_loseDisc_16 rfl rfl ?_
    obtain ⟨g1, h⟩ := gd_some h
    refine x_getRv (pc := 17) (k := 1) hC fc_14 fl_RX8_22 dX8_loseDisc_17 rfl g1 (fun r2 hr2 => ?_)
    replace h := lt_x hr2 h
    obtain ⟨g3, h⟩ := gd_some h
    refine x_alenv (pc := 20) (t0 := 4) hC dX8_loseDisc_20 g3 (by decide) (fun _ => rfl) (fun x4 hx4 => ?_)
    replace h := lt_x hx4 h
    refine x_icmp_ge (pc := 21) hC 65 dX8_loseDisc_21 (by decide) (fun c22 => ?_) (fun c22 => ?_)
    · rw [if_pos c22] at h
      refine x_iconst (pc := 65) (v := (-1 : Int32)) hC dX8_loseDisc_65 (by decide) ?_
      exact x_ireturn (pc := 66) hC hE dX8_loseDisc_66 (so h) (Nat.le_of_ble_eq_true rfl) (Nat.le_of_ble_eq_true rfl)
    · rw [if_neg c22] at h
      refine x_aload_n (pc := 24) hC 0 dX8_loseDisc_24 rfl rfl ?_
      refine x_getRv (pc := 25) (k := 1) hC fc_14 fl_RX8_22 dX8_loseDisc_25 rfl g1 (fun r5 hr5 => ?_)
      replace h := lt_x hr5 h
      refine x_iload_n (pc := 28) hC 1 dX8_loseDisc_28 rfl rfl ?_
      obtain ⟨g8, h⟩ := gd_some h
      obtain ⟨g7, h⟩ := gd_some h
      refine x_raldv (pc := 29) (t0 := 4) hC dX8_loseDisc_29 g8 (by decide) (fun _ => rfl) g7 (fun r9 hr9 => ?_)
      replace h := lt_x hr9 h
      refine x_astore_n (pc := 30) hC dX8_loseDisc_30 rfl (by decide) (by decide) rfl ?_
      refine x_aload_n (pc := 31) hC 0 dX8_loseDisc_31 rfl rfl ?_
      obtain ⟨g10, h⟩ := gd_some h
      refine x_getIv (pc := 32) (k := 5) hC fc_7 fl_RX8_151 dX8_loseDisc_32 rfl g10 (fun x11 hx11 => ?_)
      replace h := lt_x hx11 h
      refine x_if_ne (pc := 35) hC 59 dX8_loseDisc_35 (by decide) (fun c21 => ?_) (fun c21 => ?_)
      · rw [if_neg c21] at h
        refine x_pick [1, 2] rfl ?_
        exact t_X8_loseDisc_59 hls hC hl hE (fun z0 z1 z2 hz => ih z0 z1 z2 hz) h
      · rw [if_pos c21] at h
        refine x_aload_n (pc := 38) hC 0 dX8_loseDisc_38 rfl rfl ?_
        refine x_getRv (pc := 39) (k := 0) hC fc_7 fl_RX8_97 dX8_loseDisc_39 rfl g10 (fun r12 hr12 => ?_)
        replace h := lt_x hr12 h
        obtain ⟨g13, h⟩ := gd_some h
        refine x_getIv (pc := 42) (k := 3) hC fc_6 fl_RX8_155 dX8_loseDisc_42 rfl g13 (fun x14 hx14 => ?_)
        replace h := lt_x hx14 h
        refine x_bipush (pc := 45) (v := (30 : Int32)) hC dX8_loseDisc_45 (by decide) ?_
        refine x_icmp_lt (pc := 47) hC 59 dX8_loseDisc_47 (by decide) (fun c20 => ?_) (fun c20 => ?_)
        · rw [if_pos c20] at h
          refine x_pick [1, 2] rfl ?_
          exact t_X8_loseDisc_59 hls hC hl hE (fun z0 z1 z2 hz => ih z0 z1 z2 hz) h
        · rw [if_neg c20] at h
          refine x_aload_n (pc := 50) hC 0 dX8_loseDisc_50 rfl rfl ?_
          obtain ⟨o17, ho17, h⟩ := bd_some h
          refine x_callV (pc := 51) (As := []) (rest := []) hC hl (c_X1_start l hls ho17) lk_RX8_158 fc_7 g10 dX8_loseDisc_51 rfl rfl (Nat.le_of_ble_eq_true rfl) ⟨Nat.le_of_ble_eq_true rfl, Nat.le_of_ble_eq_true rfl⟩ ⟨(Nat.le_of_ble_eq_true rfl), (Nat.le_of_ble_eq_true rfl)⟩ ?_
          rcases o17 with ⟨x15 | E18, S16⟩
          · refine xk_i ?_
            replace h := bk_l h
            refine x_if_eq (pc := 54) hC 59 dX8_loseDisc_54 (by decide) (fun c19 => ?_) (fun c19 => ?_)
            · rw [if_pos c19] at h
              refine x_pick [1, 2] rfl ?_
              exact t_X8_loseDisc_59 hls hC hl hE (fun z0 z1 z2 hz => ih z0 z1 z2 hz) h
            · rw [if_neg c19] at h
              refine x_iload_n (pc := 57) hC 2 dX8_loseDisc_57 rfl rfl ?_
              exact x_ireturn (pc := 58) hC hE dX8_loseDisc_58 (so h) (Nat.le_of_ble_eq_true rfl) (Nat.le_of_ble_eq_true rfl)
          · exact xk_r (xt_out hC hE (bk_r h) (Nat.le_of_ble_eq_true rfl) (Nat.le_of_ble_eq_true rfl))
def f_X8_loseDisc (S : mS) (a0 : Nat) (a1 : Nat) : Option (Rs Int32) :=
  gd (gK S a1 = 7) (bd (f_X1_takeOff S a1) fun _ S3 => gd (gK S3 a0 = 14) (bd (f_X8_loudestDeck S3 a0) fun r7 S8 => if r7 = 0 then (f_X8_loseDisc_15  16 S8 a0 (0 : Int32)) else (some (.inl (-1 : Int32), S8))))
set_option maxHeartbeats 2000000 in
set_option maxRecDepth 100000 in
theorem t_X8_loseDisc {l : Launch} (hls : l.stackTraces = false) {C : cT} (hC : CX C cX8_loseDisc 4 yX8_loseDisc rm_X8_loseDisc) (hl : C.2.1 = l) {S0 : mS} (hE : CE C S0 (Option.some Jvm.ClassFile.FieldType.int) []) {o : Rs Int32} {S : mS} {a0 : Nat} {a1 : Nat} (h : f_X8_loseDisc S a0 a1 = some o) : XX C 4 (QQ C (fun r : Int32 => some (.int r)) S0 o) 0 0 S 0 [(0, .ref a0), (1, .ref a1)] [] := by
  unfold f_X8_loseDisc at h
  refine x_aload_n (pc := 0) hC 1 dX8_loseDisc_0 rfl rfl ?_
  obtain ⟨g1, h⟩ := gd_some h
  obtain ⟨o4, ho4, h⟩ := bd_some h
  refine x_callV (pc := 1) (As := []) (rest := []) hC hl (c_X1_takeOff l hls ho4) lk_RX8_144 fc_7 g1 dX8_loseDisc_1 rfl rfl (Nat.le_of_ble_eq_true rfl) ⟨Nat.le_of_ble_eq_true rfl, Nat.le_of_ble_eq_true rfl⟩ ⟨(Nat.le_of_ble_eq_true rfl), (Nat.le_of_ble_eq_true rfl)⟩ ?_
  rcases o4 with ⟨_ | E5, S3⟩
  · refine xk_v ?_
    replace h := bk_l h
    refine x_aload_n (pc := 4) hC 0 dX8_loseDisc_4 rfl rfl ?_
    obtain ⟨g6, h⟩ := gd_some h
    obtain ⟨o9, ho9, h⟩ := bd_some h
    refine x_callV (pc := 5) (As := []) (rest := []) hC hl (c_X8_loudestDeck l hls ho9) lk_RX8_147 fc_14 g6 dX8_loseDisc_5 rfl rfl (Nat.le_of_ble_eq_true rfl) ⟨Nat.le_of_ble_eq_true rfl, Nat.le_of_ble_eq_true rfl⟩ ⟨(Nat.le_of_ble_eq_true rfl), (Nat.le_of_ble_eq_true rfl)⟩ ?_
    rcases o9 with ⟨r7 | E10, S8⟩
    · refine xk_a ?_
      replace h := bk_l h
      refine x_ifnull (pc := 8) hC 13 dX8_loseDisc_8 (by decide) (fun c11 => ?_) (fun c11 => ?_)
      · rw [if_pos c11] at h
        refine x_iconst (pc := 13) (v := (0 : Int32)) hC dX8_loseDisc_13 (by decide) ?_
        refine x_istore_n (pc := 14) hC dX8_loseDisc_14 rfl (by decide) (by decide) rfl ?_
        refine x_pick [1, 0] rfl ?_
        exact t_X8_loseDisc_15 hls hC hl hE 16 _ _ _ h
      · rw [if_neg c11] at h
        refine x_iconst (pc := 11) (v := (-1 : Int32)) hC dX8_loseDisc_11 (by decide) ?_
        exact x_ireturn (pc := 12) hC hE dX8_loseDisc_12 (so h) (Nat.le_of_ble_eq_true rfl) (Nat.le_of_ble_eq_true rfl)
    · exact xk_r (xt_out hC hE (bk_r h) (Nat.le_of_ble_eq_true rfl) (Nat.le_of_ble_eq_true rfl))
  · exact xk_r (xt_out hC hE (bk_r h) (Nat.le_of_ble_eq_true rfl) (Nat.le_of_ble_eq_true rfl))
theorem c_X8_loseDisc (l : Launch) (hls : l.stackTraces = false) {S : mS} {a0 : Nat} {a1 : Nat} {o : Rs Int32} (h : f_X8_loseDisc S a0 a1 = some o) : CT (fun r : Int32 => some (.int r)) l yX8_loseDisc (.code yX8_loseDisc cX8_loseDisc 4 (Option.some Jvm.ClassFile.FieldType.int)) rm_X8_loseDisc S [.ref a0, .ref a1] o := ct_of (by decide +kernel) hls (Nat.le_of_ble_eq_true rfl) (fun C hl hC hE => t_X8_loseDisc hls hC hl hE h)
abbrev rm_X8_fingerprint : Room := { frames := 9, cells := 0, slots := 0, locals := 172 }
def f_X8_fingerprint_6  : Nat → mS → Nat → Int64 → Int32 → Option (Rs Int64)
  | 0, _, _, _, _ => none
  | k + 1, S, a0, a1, a3 => gd (gK S a0 = 14) (lt9 (gR S a0 1) fun r2 => gd (gK S r2 = 34) (lt9 (Int32.ofNat (gZ S r2)) fun x4 => if x4 ≤ a3 then (lt9 ((31 : Int64) * a1) fun x5 => lt9 (gI S a0 7) fun x6 => lt9 ((x6).toInt64) fun x7 => lt9 (x5 + x7) fun x8 => lt9 ((31 : Int64) * x8) fun x9 => lt9 (gI S a0 8) fun x10 => lt9 ((x10).toInt64) fun x11 => lt9 (x9 + x11) fun x12 => lt9 ((31 : Int64) * x12) fun x13 => lt9 (gI S a0 9) fun x14 => lt9 ((x14).toInt64) fun x15 => lt9 (x13 + x15) fun x16 => lt9 ((31 : Int64) * x16) fun x17 => lt9 (gI S a0 10) fun x18 => lt9 ((x18).toInt64) fun x19 => lt9 (x17 + x19) fun x20 => lt9 ((31 : Int64) * x20) fun x21 => lt9 (gR S a0 2) fun r22 => gd (gK S r22 = 10) (bd (f_X4_everybody S r22) fun x24 S25 => lt9 ((x24).toInt64) fun x28 => lt9 (x21 + x28) fun x29 => lt9 ((31 : Int64) * x29) fun x30 => gd (gK S25 a0 = 14) (lt9 (gR S25 a0 3) fun r32 => gd (gK S25 r32 = 11) (lt9 (gI S25 r32 1) fun x34 => lt9 ((x34).toInt64) fun x35 => lt9 (x30 + x35) fun x36 => some (.inl x36, S25))))) else (lt9 ((31 : Int64) * a1) fun x37 => lt9 (gR S a0 1) fun r38 => gd (gK S r38 = 34) (gd (¬ (a3 < 0 ∨ gZ S r38 ≤ (a3).toNatClampNeg)) (lt9 (gR S r38 (a3).toNatClampNeg) fun r42 => gd (gK S r42 = 7) (lt9 (gL S r42 3) fun x44 => lt9 (x37 + x44) fun x45 => lt9 (a3 + Int32.ofInt (1)) fun x46 => f_X8_fingerprint_6 k S a0 x45 x46))))))
set_option maxHeartbeats 2000000 in
set_option maxRecDepth 100000 in
theorem t_X8_fingerprint_6 {l : Launch} (hls : l.stackTraces = false) {C : cT} (hC : CX C cX8_fingerprint 4 yX8_fingerprint rm_X8_fingerprint) (hl : C.2.1 = l) {S0 : mS} (hE : CE C S0 (Option.some Jvm.ClassFile.FieldType.long) []) {o : Rs Int64} : ∀ (k : Nat) (S : mS) (a0 : Nat) (a1 : Int64) (a3 : Int32), f_X8_fingerprint_6  k S a0 a1 a3 = some o → XX C 4 (QQ C (fun r : Int64 => some (.long r)) S0 o) (0) (0) S 6 [(0, .ref a0), (1, .long a1), (3, .int a3)] [] := by
  intro k
  induction k with
  | zero => intro S a0 a1 a3 h; cases h
  | succ k ih =>
    intro S a0 a1 a3 h
    unfold f_X8_fingerprint_6 at h
    refine x_iload_n (pc := 6) hC 2 dX8_fingerprint_6 rfl rfl ?_
    refine x_aload_n (pc := 7) hC 0 dX8_fingerprint_7 rfl rfl ?_
    obtain ⟨g1, h⟩ := gd_some h
    refine x_getRv (pc := 8) (k := 1) hC fc_14 fl_RX8_22 dX8_fingerprint_8 rfl g1 (fun r2 hr2 => ?_)
    replace h := lt_x hr2 h
    obtain ⟨g3, h⟩ := gd_some h
    refine x_alenv (pc := 11) (t0 := 4) hC dX8_fingerprint_11 g3 (by decide) (fun _ => rfl) (fun x4 hx4 => ?_)
    replace h := lt_x hx4 h
    refine x_icmp_ge (pc := 12) hC 37 dX8_fingerprint_12 (by decide) (fun c47 => ?_) (fun c47 => ?_)
    · rw [if_pos c47] at h
      refine x_ldc2 (pc := 37) hC wm_477 dX8_fingerprint_37 ?_
      refine x_lload_n (pc := 40) hC 1 dX8_fingerprint_40 rfl rfl ?_
      refine x_lmulv (pc := 41) hC dX8_fingerprint_41 (fun x5 hx5 => ?_)
      replace h := lt_x hx5 h
      refine x_aload_n (pc := 42) hC 0 dX8_fingerprint_42 rfl rfl ?_
      refine x_getIv (pc := 43) (k := 7) hC fc_14 fl_RX8_71 dX8_fingerprint_43 rfl g1 (fun x6 hx6 => ?_)
      replace h := lt_x hx6 h
      refine x_i2lv (pc := 46) hC dX8_fingerprint_46 (fun x7 hx7 => ?_)
      replace h := lt_x hx7 h
      refine x_laddv (pc := 47) hC dX8_fingerprint_47 (fun x8 hx8 => ?_)
      replace h := lt_x hx8 h
      refine x_lstore_n (pc := 48) hC dX8_fingerprint_48 rfl (by decide) (by decide) rfl ?_
      refine x_ldc2 (pc := 49) hC wm_477 dX8_fingerprint_49 ?_
      refine x_lload_n (pc := 52) hC 0 dX8_fingerprint_52 rfl rfl ?_
      refine x_lmulv (pc := 53) hC dX8_fingerprint_53 (fun x9 hx9 => ?_)
      replace h := lt_x hx9 h
      refine x_aload_n (pc := 54) hC 1 dX8_fingerprint_54 rfl rfl ?_
      refine x_getIv (pc := 55) (k := 8) hC fc_14 fl_RX8_65 dX8_fingerprint_55 rfl g1 (fun x10 hx10 => ?_)
      replace h := lt_x hx10 h
      refine x_i2lv (pc := 58) hC dX8_fingerprint_58 (fun x11 hx11 => ?_)
      replace h := lt_x hx11 h
      refine x_laddv (pc := 59) hC dX8_fingerprint_59 (fun x12 hx12 => ?_)
      replace h := lt_x hx12 h
      refine x_lstore_n (pc := 60) hC dX8_fingerprint_60 rfl (by decide) (by decide) rfl ?_
      refine x_ldc2 (pc := 61) hC wm_477 dX8_fingerprint_61 ?_
      refine x_lload_n (pc := 64) hC 0 dX8_fingerprint_64 rfl rfl ?_
      refine x_lmulv (pc := 65) hC dX8_fingerprint_65 (fun x13 hx13 => ?_)
      replace h := lt_x hx13 h
      refine x_aload_n (pc := 66) hC 1 dX8_fingerprint_66 rfl rfl ?_
      refine x_getIv (pc := 67) (k := 9) hC fc_14 fl_RX8_138 dX8_fingerprint_67 rfl g1 (fun x14 hx14 => ?_)
      replace h := lt_x hx14 h
      refine x_i2lv (pc := 70) hC dX8_fingerprint_70 (fun x15 hx15 => ?_)
      replace h := lt_x hx15 h
      refine x_laddv (pc := 71) hC dX8_fingerprint_71 (fun x16 hx16 => ?_)
      replace h := lt_x hx16 h
      refine x_lstore_n (pc := 72) hC dX8_fingerprint_72 rfl (by decide) (by decide) rfl ?_
      refine x_ldc2 (pc := 73) hC wm_477 dX8_fingerprint_73 ?_
      refine x_lload_n (pc := 76) hC 0 dX8_fingerprint_76 rfl rfl ?_
      refine x_lmulv (pc := 77) hC dX8_fingerprint_77 (fun x17 hx17 => ?_)
      replace h := lt_x hx17 h
      refine x_aload_n (pc := 78) hC 1 dX8_fingerprint_78 rfl rfl ?_
      refine x_getIv (pc := 79) (k := 10) hC fc_14 fl_RX8_141 dX8_fingerprint_79 rfl g1 (fun x18 hx18 => ?_)
      replace h := lt_x hx18 h
      refine x_i2lv (pc := 82) hC dX8_fingerprint_82 (fun x19 hx19 => ?_)
      replace h := lt_x hx19 h
      refine x_laddv (pc := 83) hC dX8_fingerprint_83 (fun x20 hx20 => ?_)
      replace h := lt_x hx20 h
      refine x_lstore_n (pc := 84) hC dX8_fingerprint_84 rfl (by decide) (by decide) rfl ?_
      refine x_ldc2 (pc := 85) hC wm_477 dX8_fingerprint_85 ?_
      refine x_lload_n (pc := 88) hC 0 dX8_fingerprint_88 rfl rfl ?_
      refine x_lmulv (pc := 89) hC dX8_fingerprint_89 (fun x21 hx21 => ?_)
      replace h := lt_x hx21 h
      refine x_aload_n (pc := 90) hC 1 dX8_fingerprint_90 rfl rfl ?_
      refine x_getRv (pc := 91) (k := 2) hC fc_14 fl_RX8_30 dX8_fingerprint_91 rfl g1 (fun r22 hr22 => ?_)
      replace h := lt_x hr22 h
      obtain ⟨g23, h⟩ := gd_some h
      obtain ⟨o26, ho26, h⟩ := bd_some h
      refine x_callV (pc := 94) (As := []) (rest := [.long x21]) hC hl (c_X4_everybody l hls ho26) lk_RX8_165 fc_10 g23 dX8_fingerprint_94 rfl rfl (Nat.le_of_ble_eq_true rfl) ⟨Nat.le_of_ble_eq_true rfl, Nat.le_of_ble_eq_true rfl⟩ ⟨(Nat.le_of_ble_eq_true rfl), (Nat.le_of_ble_eq_true rfl)⟩ ?_
      rcases o26 with ⟨x24 | E27, S25⟩
      · refine xk_i ?_
        replace h := bk_l h
        refine x_i2lv (pc := 97) hC dX8_fingerprint_97 (fun x28 hx28 => ?_)
        replace h := lt_x hx28 h
        refine x_laddv (pc := 98) hC dX8_fingerprint_98 (fun x29 hx29 => ?_)
        replace h := lt_x hx29 h
        refine x_lstore_n (pc := 99) hC dX8_fingerprint_99 rfl (by decide) (by decide) rfl ?_
        refine x_ldc2 (pc := 100) hC wm_477 dX8_fingerprint_100 ?_
        refine x_lload_n (pc := 103) hC 0 dX8_fingerprint_103 rfl rfl ?_
        refine x_lmulv (pc := 104) hC dX8_fingerprint_104 (fun x30 hx30 => ?_)
        replace h := lt_x hx30 h
        refine x_aload_n (pc := 105) hC 1 dX8_fingerprint_105 rfl rfl ?_
        obtain ⟨g31, h⟩ := gd_some h
        refine x_getRv (pc := 106) (k := 3) hC fc_14 fl_RX8_37 dX8_fingerprint_106 rfl g31 (fun r32 hr32 => ?_)
        replace h := lt_x hr32 h
        obtain ⟨g33, h⟩ := gd_some h
        refine x_getIv (pc := 109) (k := 1) hC fc_11 fl_RX8_169 dX8_fingerprint_109 rfl g33 (fun x34 hx34 => ?_)
        replace h := lt_x hx34 h
        refine x_i2lv (pc := 112) hC dX8_fingerprint_112 (fun x35 hx35 => ?_)
        replace h := lt_x hx35 h
        refine x_laddv (pc := 113) hC dX8_fingerprint_113 (fun x36 hx36 => ?_)
        replace h := lt_x hx36 h
        exact x_lreturn (pc := 114) hC hE dX8_fingerprint_114 (so h) (Nat.le_of_ble_eq_true rfl) (Nat.le_of_ble_eq_true rfl)
      · exact xk_r (xt_out hC hE (bk_r h) (Nat.le_of_ble_eq_true rfl) (Nat.le_of_ble_eq_true rfl))
    · rw [if_neg c47] at h
      refine x_ldc2 (pc := 15) hC wm_477 dX8_fingerprint_15 ?_
      refine x_lload_n (pc := 18) hC 1 dX8_fingerprint_18 rfl rfl ?_
      refine x_lmulv (pc := 19) hC dX8_fingerprint_19 (fun x37 hx37 => ?_)
      replace h := lt_x hx37 h
      refine x_aload_n (pc := 20) hC 0 dX8_fingerprint_20 rfl rfl ?_
      refine x_getRv (pc := 21) (k := 1) hC fc_14 fl_RX8_22 dX8_fingerprint_21 rfl g1 (fun r38 hr38 => ?_)
      replace h := lt_x hr38 h
      refine x_iload_n (pc := 24) hC 2 dX8_fingerprint_24 rfl rfl ?_
      obtain ⟨g41, h⟩ := gd_some h
      obtain ⟨g40, h⟩ := gd_some h
      refine x_raldv (pc := 25) (t0 := 4) hC dX8_fingerprint_25 g41 (by decide) (fun _ => rfl) g40 (fun r42 hr42 => ?_)
      replace h := lt_x hr42 h
      obtain ⟨g43, h⟩ := gd_some h
      refine x_getLv (pc := 26) (k := 3) hC fc_7 fl_RX8_101 dX8_fingerprint_26 rfl g43 (fun x44 hx44 => ?_)
      replace h := lt_x hx44 h
      refine x_laddv (pc := 29) hC dX8_fingerprint_29 (fun x45 hx45 => ?_)
      replace h := lt_x hx45 h
      refine x_lstore_n (pc := 30) hC dX8_fingerprint_30 rfl (by decide) (by decide) rfl ?_
      obtain ⟨x46, hx46⟩ : ∃ z, z = (a3 + Int32.ofInt (1)) := ⟨_, rfl⟩
      replace h := lt_x hx46 h
      refine x_iinc (pc := 31) hC 2 dX8_fingerprint_31 rfl hx46.symm (by decide) (by decide) rfl ?_
      refine x_goto (pc := 34) hC 6 dX8_fingerprint_34 (by decide) ?_
      refine x_pick [2, 1, 0] rfl ?_
      exact ih _ _ _ _ h
def f_X8_fingerprint (S : mS) (a0 : Nat) : Option (Rs Int64) :=
  f_X8_fingerprint_6  16 S a0 (7 : Int64) (0 : Int32)
set_option maxHeartbeats 2000000 in
set_option maxRecDepth 100000 in
theorem t_X8_fingerprint {l : Launch} (hls : l.stackTraces = false) {C : cT} (hC : CX C cX8_fingerprint 4 yX8_fingerprint rm_X8_fingerprint) (hl : C.2.1 = l) {S0 : mS} (hE : CE C S0 (Option.some Jvm.ClassFile.FieldType.long) []) {o : Rs Int64} {S : mS} {a0 : Nat} (h : f_X8_fingerprint S a0 = some o) : XX C 4 (QQ C (fun r : Int64 => some (.long r)) S0 o) 0 0 S 0 [(0, .ref a0)] [] := by
  unfold f_X8_fingerprint at h
  refine x_ldc2 (pc := 0) hC wm_476 dX8_fingerprint_0 ?_
  refine x_lstore_n (pc := 3) hC dX8_fingerprint_3 rfl (by decide) (by decide) rfl ?_
  refine x_iconst (pc := 4) (v := (0 : Int32)) hC dX8_fingerprint_4 (by decide) ?_
  refine x_istore_n (pc := 5) hC dX8_fingerprint_5 rfl (by decide) (by decide) rfl ?_
  refine x_pick [2, 1, 0] rfl ?_
  exact t_X8_fingerprint_6 hls hC hl hE 16 _ _ _ _ h
theorem c_X8_fingerprint (l : Launch) (hls : l.stackTraces = false) {S : mS} {a0 : Nat} {o : Rs Int64} (h : f_X8_fingerprint S a0 = some o) : CT (fun r : Int64 => some (.long r)) l yX8_fingerprint (.code yX8_fingerprint cX8_fingerprint 4 (Option.some Jvm.ClassFile.FieldType.long)) rm_X8_fingerprint S [.ref a0] o := ct_of (by decide +kernel) hls (Nat.le_of_ble_eq_true rfl) (fun C hl hC hE => t_X8_fingerprint hls hC hl hE h)
abbrev rm_X8_placesAreSound : Room := { frames := 9, cells := 0, slots := 0, locals := 170 }
def f_X8_placesAreSound_51 (rc2 : mS → Nat → Int32 → Option (Rs Int32)) (S : mS) (a0 : Nat) (a1 : Int32) : Option (Rs Int32) :=
  lt9 (a1 + Int32.ofInt (1)) fun x1 => rc2 S a0 x1
set_option maxHeartbeats 2000000 in
set_option maxRecDepth 100000 in
theorem t_X8_placesAreSound_51 {l : Launch} (hls : l.stackTraces = false) {C : cT} (hC : CX C cX8_placesAreSound 3 yX8_placesAreSound rm_X8_placesAreSound) (hl : C.2.1 = l) {S0 : mS} (hE : CE C S0 (Option.some Jvm.ClassFile.FieldType.boolean) []) {o : Rs Int32} {rc2 : mS → Nat → Int32 → Option (Rs Int32)} (hrc2 : ∀ (S : mS) (a0 : Nat) (a1 : Int32), rc2 S a0 a1 = some o → XX C 3 (QQ C (fun r : Int32 => some (.int r)) S0 o) (0) (0) S 2 [(0, .ref a0), (1, .int a1)] []) {S : mS} {a0 : Nat} {a1 : Int32} (h : f_X8_placesAreSound_51 rc2 S a0 a1 = some o) : XX C 3 (QQ C (fun r : Int32 => some (.int r)) S0 o) (0) (0) S 51 [(0, .ref a0), (1, .int a1)] [] := by
  unfold f_X8_placesAreSound_51 at h
  obtain ⟨x1, hx1⟩ : ∃ z, z = (a1 + Int32.ofInt (1)) := ⟨_, rfl⟩
  replace h := lt_x hx1 h
  refine x_iinc (pc := 51) hC 1 dX8_placesAreSound_51 rfl hx1.symm (by decide) (by decide) rfl ?_
  refine x_goto (pc := 54) hC 2 dX8_placesAreSound_54 (by decide) ?_
  refine x_pick [1, 0] rfl ?_
  exact hrc2 _ _ _ h
def f_X8_placesAreSound_49  (S : mS) : Option (Rs Int32) :=
  some (.inl (0 : Int32), S)
set_option maxHeartbeats 2000000 in
set_option maxRecDepth 100000 in
theorem t_X8_placesAreSound_49 {l : Launch} (hls : l.stackTraces = false) {C : cT} (hC : CX C cX8_placesAreSound 3 yX8_placesAreSound rm_X8_placesAreSound) (hl : C.2.1 = l) {S0 : mS} (hE : CE C S0 (Option.some Jvm.ClassFile.FieldType.boolean) []) {o : Rs Int32} {S : mS} (h : f_X8_placesAreSound_49  S = some o) : XX C 3 (QQ C (fun r : Int32 => some (.int r)) S0 o) (0) (0) S 49 [] [] := by
  unfold f_X8_placesAreSound_49 at h
  refine x_iconst (pc := 49) (v := (0 : Int32)) hC dX8_placesAreSound_49 (by decide) ?_
  exact x_zreturn (pc := 50) hC hE dX8_placesAreSound_50 (show NF .boolean _ from ⟨rfl, rfl⟩).1 (so h) (Nat.le_of_ble_eq_true rfl) (Nat.le_of_ble_eq_true rfl)
def f_X8_placesAreSound_2  : Nat → mS → Nat → Int32 → Option (Rs Int32)
  | 0, _, _, _ => none
  | k + 1, S, a0, a1 => gd (gK S a0 = 14) (lt9 (gR S a0 1) fun r2 => gd (gK S r2 = 34) (lt9 (Int32.ofNat (gZ S r2)) fun x4 => if x4 ≤ a1 then (some (.inl (1 : Int32), S)) else (lt9 (gR S a0 1) fun r5 => gd (gK S r5 = 34) (gd (¬ (a1 < 0 ∨ gZ S r5 ≤ (a1).toNatClampNeg)) (lt9 (gR S r5 (a1).toNatClampNeg) fun r9 => gd (gK S r9 = 7) (lt9 (gR S r9 2) fun r11 => if r11 = 0 then (f_X8_placesAreSound_51 (f_X8_placesAreSound_2 k) S a0 a1) else (lt9 (gL S r9 3) fun x12 => lt9 (lg_cmp x12 (0 : Int64)) fun x13 => if x13 < 0 then (f_X8_placesAreSound_49  S) else (lt9 (gL S r9 3) fun x14 => lt9 (gR S r9 2) fun r15 => gd (gK S r15 = 8) (bd (f_X2_lastPlace S r15) fun x17 S18 => lt9 (lg_cmp x14 x17) fun x21 => if x21 ≤ 0 then (f_X8_placesAreSound_51 (f_X8_placesAreSound_2 k) S18 a0 a1) else (f_X8_placesAreSound_49  S18))))))))))
set_option maxHeartbeats 2000000 in
set_option maxRecDepth 100000 in
theorem t_X8_placesAreSound_2 {l : Launch} (hls : l.stackTraces = false) {C : cT} (hC : CX C cX8_placesAreSound 3 yX8_placesAreSound rm_X8_placesAreSound) (hl : C.2.1 = l) {S0 : mS} (hE : CE C S0 (Option.some Jvm.ClassFile.FieldType.boolean) []) {o : Rs Int32} : ∀ (k : Nat) (S : mS) (a0 : Nat) (a1 : Int32), f_X8_placesAreSound_2  k S a0 a1 = some o → XX C 3 (QQ C (fun r : Int32 => some (.int r)) S0 o) (0) (0) S 2 [(0, .ref a0), (1, .int a1)] [] := by
  intro k
  induction k with
  | zero => intro S a0 a1 h; cases h
  | succ k ih =>
    intro S a0 a1 h
    unfold f_X8_placesAreSound_2 at h
    refine x_iload_n (pc := 2) hC 1 dX8_placesAreSound_2 rfl rfl ?_
    refine x_aload_n (pc := 3) hC 0 dX8_placesAreSound_3 rfl rfl ?_
    obtain ⟨g1, h⟩ := gd_some h
    refine x_getRv (pc := 4) (k := 1) hC fc_14 fl_RX8_22 dX8_placesAreSound_4 rfl g1 (fun r2 hr2 => ?_)
    replace h := lt_x hr2 h
    obtain ⟨g3, h⟩ := gd_some h
    refine x_alenv (pc := 7) (t0 := 4) hC dX8_placesAreSound_7 g3 (by decide) (fun _ => rfl) (fun x4 hx4 => ?_)
    replace h := lt_x hx4 h
    refine x_icmp_ge (pc := 8) hC 57 dX8_placesAreSound_8 (by decide) (fun c25 => ?_) (fun c25 => ?_)
    · rw [if_pos c25] at h
      refine x_iconst (pc := 57) (v := (1 : Int32)) hC dX8_placesAreSound_57 (by decide) ?_
      exact x_zreturn (pc := 58) hC hE dX8_placesAreSound_58 (show NF .boolean _ from ⟨rfl, rfl⟩).1 (so h) (Nat.le_of_ble_eq_true rfl) (Nat.le_of_ble_eq_true rfl)
    · rw [if_neg c25] at h
      refine x_aload_n (pc := 11) hC 0 dX8_placesAreSound_11 rfl rfl ?_
      refine x_getRv (pc := 12) (k := 1) hC fc_14 fl_RX8_22 dX8_placesAreSound_12 rfl g1 (fun r5 hr5 => ?_)
      replace h := lt_x hr5 h
      refine x_iload_n (pc := 15) hC 1 dX8_placesAreSound_15 rfl rfl ?_
      obtain ⟨g8, h⟩ := gd_some h
      obtain ⟨g7, h⟩ := gd_some h
      refine x_raldv (pc := 16) (t0 := 4) hC dX8_placesAreSound_16 g8 (by decide) (fun _ => rfl) g7 (fun r9 hr9 => ?_)
      replace h := lt_x hr9 h
      refine x_astore_n (pc := 17) hC dX8_placesAreSound_17 rfl (by decide) (by decide) rfl ?_
      refine x_aload_n (pc := 18) hC 0 dX8_placesAreSound_18 rfl rfl ?_
      obtain ⟨g10, h⟩ := gd_some h
      refine x_getRv (pc := 19) (k := 2) hC fc_7 fl_RX8_49 dX8_placesAreSound_19 rfl g10 (fun r11 hr11 => ?_)
      replace h := lt_x hr11 h
      refine x_ifnull (pc := 22) hC 51 dX8_placesAreSound_22 (by decide) (fun c24 => ?_) (fun c24 => ?_)
      · rw [if_pos c24] at h
        refine x_pick [1, 2] rfl ?_
        exact t_X8_placesAreSound_51 hls hC hl hE (fun z0 z1 z2 hz => ih z0 z1 z2 hz) h
      · rw [if_neg c24] at h
        refine x_aload_n (pc := 25) hC 0 dX8_placesAreSound_25 rfl rfl ?_
        refine x_getLv (pc := 26) (k := 3) hC fc_7 fl_RX8_101 dX8_placesAreSound_26 rfl g10 (fun x12 hx12 => ?_)
        replace h := lt_x hx12 h
        refine x_lconst (pc := 29) (v := (0 : Int64)) hC dX8_placesAreSound_29 (by decide) ?_
        refine x_lcmpv (pc := 30) hC dX8_placesAreSound_30 (fun x13 hx13 => ?_)
        replace h := lt_x hx13 h
        refine x_if_lt (pc := 31) hC 49 dX8_placesAreSound_31 (by decide) (fun c23 => ?_) (fun c23 => ?_)
        · rw [if_pos c23] at h
          refine x_pick [] rfl ?_
          exact t_X8_placesAreSound_49 hls hC hl hE h
        · rw [if_neg c23] at h
          refine x_aload_n (pc := 34) hC 0 dX8_placesAreSound_34 rfl rfl ?_
          refine x_getLv (pc := 35) (k := 3) hC fc_7 fl_RX8_101 dX8_placesAreSound_35 rfl g10 (fun x14 hx14 => ?_)
          replace h := lt_x hx14 h
          refine x_aload_n (pc := 38) hC 0 dX8_placesAreSound_38 rfl rfl ?_
          refine x_getRv (pc := 39) (k := 2) hC fc_7 fl_RX8_49 dX8_placesAreSound_39 rfl g10 (fun r15 hr15 => ?_)
          replace h := lt_x hr15 h
          obtain ⟨g16, h⟩ := gd_some h
          obtain ⟨o19, ho19, h⟩ := bd_some h
          refine x_callV (pc := 42) (As := []) (rest := [.long x14]) hC hl (c_X2_lastPlace l hls ho19) lk_RX8_172 fc_8 g16 dX8_placesAreSound_42 rfl rfl (Nat.le_of_ble_eq_true rfl) ⟨Nat.le_of_ble_eq_true rfl, Nat.le_of_ble_eq_true rfl⟩ ⟨(Nat.le_of_ble_eq_true rfl), (Nat.le_of_ble_eq_true rfl)⟩ ?_
          rcases o19 with ⟨x17 | E20, S18⟩
          · refine xk_j ?_
            replace h := bk_l h
            refine x_lcmpv (pc := 45) hC dX8_placesAreSound_45 (fun x21 hx21 => ?_)
            replace h := lt_x hx21 h
            refine x_if_le (pc := 46) hC 51 dX8_placesAreSound_46 (by decide) (fun c22 => ?_) (fun c22 => ?_)
            · rw [if_pos c22] at h
              refine x_pick [1, 2] rfl ?_
              exact t_X8_placesAreSound_51 hls hC hl hE (fun z0 z1 z2 hz => ih z0 z1 z2 hz) h
            · rw [if_neg c22] at h
              refine x_pick [] rfl ?_
              exact t_X8_placesAreSound_49 hls hC hl hE h
          · exact xk_r (xt_out hC hE (bk_r h) (Nat.le_of_ble_eq_true rfl) (Nat.le_of_ble_eq_true rfl))
def f_X8_placesAreSound (S : mS) (a0 : Nat) : Option (Rs Int32) :=
  f_X8_placesAreSound_2  16 S a0 (0 : Int32)
set_option maxHeartbeats 2000000 in
set_option maxRecDepth 100000 in
theorem t_X8_placesAreSound {l : Launch} (hls : l.stackTraces = false) {C : cT} (hC : CX C cX8_placesAreSound 3 yX8_placesAreSound rm_X8_placesAreSound) (hl : C.2.1 = l) {S0 : mS} (hE : CE C S0 (Option.some Jvm.ClassFile.FieldType.boolean) []) {o : Rs Int32} {S : mS} {a0 : Nat} (h : f_X8_placesAreSound S a0 = some o) : XX C 3 (QQ C (fun r : Int32 => some (.int r)) S0 o) 0 0 S 0 [(0, .ref a0)] [] := by
  unfold f_X8_placesAreSound at h
  refine x_iconst (pc := 0) (v := (0 : Int32)) hC dX8_placesAreSound_0 (by decide) ?_
  refine x_istore_n (pc := 1) hC dX8_placesAreSound_1 rfl (by decide) (by decide) rfl ?_
  refine x_pick [1, 0] rfl ?_
  exact t_X8_placesAreSound_2 hls hC hl hE 16 _ _ _ h
theorem c_X8_placesAreSound (l : Launch) (hls : l.stackTraces = false) {S : mS} {a0 : Nat} {o : Rs Int32} (h : f_X8_placesAreSound S a0 = some o) : CT (fun r : Int32 => some (.int r)) l yX8_placesAreSound (.code yX8_placesAreSound cX8_placesAreSound 3 (Option.some Jvm.ClassFile.FieldType.boolean)) rm_X8_placesAreSound S [.ref a0] o := ct_of (by decide +kernel) hls (Nat.le_of_ble_eq_true rfl) (fun C hl hC hE => t_X8_placesAreSound hls hC hl hE h)
abbrev rm_X9_init : Room := { frames := 8, cells := 2, slots := 8, locals := 150 }
def f_X9_init (S : mS) (a0 : Nat) (a1 : Nat) : Option (Rs Unit) :=
  gd (gK S a0 = 15) (zR (sR S a0 0 a1) fun S2 => gd (gN S2 + 1 < KB) (zW (sW S2 30 4) fun S5 => lt9 (gN S2 + 1) fun r6 => gd (gK S5 a0 = 15) (zR (sR S5 a0 1 r6) fun S9 => gd (gN S9 + 1 < KB) (zW (sW S9 30 4) fun S13 => lt9 (gN S9 + 1) fun r14 => gd (gK S13 a0 = 15) (zR (sR S13 a0 2 r14) fun S17 => some (.inl (), S17))))))
set_option maxHeartbeats 2000000 in
set_option maxRecDepth 100000 in
theorem t_X9_init {l : Launch} (hls : l.stackTraces = false) {C : cT} (hC : CX C cX9_init 2 yX9_init rm_X9_init) (hl : C.2.1 = l) {S0 : mS} (hE : CE C S0 (Option.none : Option Jvm.ClassFile.FieldType) []) {o : Rs Unit} {S : mS} {a0 : Nat} {a1 : Nat} (h : f_X9_init S a0 a1 = some o) : XX C 2 (QQ C (fun _ : Unit => none) S0 o) 0 0 S 0 [(0, .ref a0), (1, .ref a1)] [] := by
  unfold f_X9_init at h
  refine x_aload_n (pc := 0) hC 0 dX9_init_0 rfl rfl ?_
  obtain ⟨g1, h⟩ := gd_some h
  refine x_objInit (pc := 1) hC wm_400 wm_94 wm_95 dX9_init_1 (by rw [g1]; decide) (Nat.le_of_ble_eq_true rfl) (Nat.le_of_ble_eq_true rfl) ?_
  refine x_aload_n (pc := 4) hC 0 dX9_init_4 rfl rfl ?_
  refine x_aload_n (pc := 5) hC 1 dX9_init_5 rfl rfl ?_
  refine x_putRFv (pc := 6) (k := 0) hC fc_15 wm_401 rfl dX9_init_6 rfl rfl rfl rfl (Or.inl ⟨_, rfl⟩) g1 (fun S2 hS2 => ?_)
  replace h := zR_x hS2 h
  have g3 : gK S2 a0 = 15 := by rw [hS2]; exact g1
  refine x_aload_n (pc := 9) hC 0 dX9_init_9 rfl rfl ?_
  refine x_iconst (pc := 10) (v := (4 : Int32)) hC dX9_init_10 (by decide) ?_
  obtain ⟨g4, h⟩ := gd_some h
  refine x_newaIv (pc := 11) (z := 4) hC wm_186 dX9_init_11 (by decide) (by decide) (Nat.le_of_ble_eq_true rfl) g4 (Nat.le_of_ble_eq_true rfl) (Nat.le_of_ble_eq_true rfl) (fun S5 r6 hS5 hr6 => ?_)
  replace h := zW_x hS5 h
  replace h := lt_x hr6 h
  have g7 : gK S5 r6 = 30 := by rw [hr6, hS5]; exact sW_K
  obtain ⟨g8, h⟩ := gd_some h
  refine x_putRFv (pc := 13) (k := 1) hC fc_15 wm_402 rfl dX9_init_13 rfl rfl rfl rfl (Or.inr ⟨_, rfl⟩) g8 (fun S9 hS9 => ?_)
  replace h := zR_x hS9 h
  have g10 : gK S9 r6 = 30 := by rw [hS9]; exact g7
  have g11 : gK S9 a0 = 15 := by rw [hS9]; exact g8
  refine x_aload_n (pc := 16) hC 0 dX9_init_16 rfl rfl ?_
  refine x_iconst (pc := 17) (v := (4 : Int32)) hC dX9_init_17 (by decide) ?_
  obtain ⟨g12, h⟩ := gd_some h
  refine x_newaIv (pc := 18) (z := 4) hC wm_186 dX9_init_18 (by decide) (by decide) (Nat.le_of_ble_eq_true rfl) g12 (Nat.le_of_ble_eq_true rfl) (Nat.le_of_ble_eq_true rfl) (fun S13 r14 hS13 hr14 => ?_)
  replace h := zW_x hS13 h
  replace h := lt_x hr14 h
  have g15 : gK S13 r14 = 30 := by rw [hr14, hS13]; exact sW_K
  obtain ⟨g16, h⟩ := gd_some h
  refine x_putRFv (pc := 20) (k := 2) hC fc_15 wm_403 rfl dX9_init_20 rfl rfl rfl rfl (Or.inr ⟨_, rfl⟩) g16 (fun S17 hS17 => ?_)
  replace h := zR_x hS17 h
  have g18 : gK S17 r14 = 30 := by rw [hS17]; exact g15
  have g19 : gK S17 a0 = 15 := by rw [hS17]; exact g16
  exact x_vreturn (pc := 23) hC hE dX9_init_23 (so h) (Nat.le_of_ble_eq_true rfl) (Nat.le_of_ble_eq_true rfl)
theorem c_X9_init (l : Launch) (hls : l.stackTraces = false) {S : mS} {a0 : Nat} {a1 : Nat} {o : Rs Unit} (h : f_X9_init S a0 a1 = some o) : CT (fun _ : Unit => none) l yX9_init (.code yX9_init cX9_init 2 (Option.none : Option Jvm.ClassFile.FieldType)) rm_X9_init S [.ref a0, .ref a1] o := ct_of (by decide +kernel) hls (Nat.le_of_ble_eq_true rfl) (fun C hl hC hE => t_X9_init hls hC hl hE h)
abbrev rm_X9_keepIfCheaper : Room := { frames := 8, cells := 0, slots := 0, locals := 150 }
def f_X9_keepIfCheaper_64  (S : mS) : Option (Rs Unit) :=
  some (.inl (), S)
set_option maxHeartbeats 2000000 in
set_option maxRecDepth 100000 in
theorem t_X9_keepIfCheaper_64 {l : Launch} (hls : l.stackTraces = false) {C : cT} (hC : CX C cX9_keepIfCheaper 3 yX9_keepIfCheaper rm_X9_keepIfCheaper) (hl : C.2.1 = l) {S0 : mS} (hE : CE C S0 (Option.none : Option Jvm.ClassFile.FieldType) []) {o : Rs Unit} {S : mS} (h : f_X9_keepIfCheaper_64  S = some o) : XX C 3 (QQ C (fun _ : Unit => none) S0 o) (0) (0) S 64 [] [] := by
  unfold f_X9_keepIfCheaper_64 at h
  exact x_vreturn (pc := 64) hC hE dX9_keepIfCheaper_64 (so h) (Nat.le_of_ble_eq_true rfl) (Nat.le_of_ble_eq_true rfl)
def f_X9_keepIfCheaper_28  : Nat → mS → Nat → Int32 → Option (Rs Unit)
  | 0, _, _, _ => none
  | k + 1, S, a0, a2 => gd (gK S a0 = 15) (lt9 (gR S a0 1) fun r2 => gd (gK S r2 = 30) (lt9 (Int32.ofNat (gZ S r2)) fun x4 => if x4 ≤ a2 then (f_X9_keepIfCheaper_64  S) else (lt9 (gR S a0 2) fun r5 => gd (gK S r5 = 30) (lt9 (Int32.ofNat (gZ S r5)) fun x7 => if x7 ≤ a2 then (f_X9_keepIfCheaper_64  S) else (lt9 (gR S a0 2) fun r8 => lt9 (gR S a0 1) fun r9 => gd (gK S r9 = 30) (gd (¬ (a2 < 0 ∨ gZ S r9 ≤ (a2).toNatClampNeg)) (lt9 (gI S r9 (a2).toNatClampNeg) fun x13 => gd (gK S r8 = 30) (gd (¬ (a2 < 0 ∨ gZ S r8 ≤ (a2).toNatClampNeg)) (zI (sI S r8 (a2).toNatClampNeg x13) fun S16 => lt9 (a2 + Int32.ofInt (1)) fun x22 => f_X9_keepIfCheaper_28 k S16 a0 x22)))))))))
set_option maxHeartbeats 2000000 in
set_option maxRecDepth 100000 in
theorem t_X9_keepIfCheaper_28 {l : Launch} (hls : l.stackTraces = false) {C : cT} (hC : CX C cX9_keepIfCheaper 3 yX9_keepIfCheaper rm_X9_keepIfCheaper) (hl : C.2.1 = l) {S0 : mS} (hE : CE C S0 (Option.none : Option Jvm.ClassFile.FieldType) []) {o : Rs Unit} : ∀ (k : Nat) (S : mS) (a0 : Nat) (a2 : Int32), f_X9_keepIfCheaper_28  k S a0 a2 = some o → XX C 3 (QQ C (fun _ : Unit => none) S0 o) (0) (0) S 28 [(0, .ref a0), (2, .int a2)] [] := by
  intro k
  induction k with
  | zero => intro S a0 a2 h; cases h
  | succ k ih =>
    intro S a0 a2 h
    unfold f_X9_keepIfCheaper_28 at h
    refine x_iload_n (pc := 28) hC 1 dX9_keepIfCheaper_28 rfl rfl ?_
    refine x_aload_n (pc := 29) hC 0 dX9_keepIfCheaper_29 rfl rfl ?_
    obtain ⟨g1, h⟩ := gd_some h
    refine x_getRv (pc := 30) (k := 1) hC fc_15 fl_RX9_15 dX9_keepIfCheaper_30 rfl g1 (fun r2 hr2 => ?_)
    replace h := lt_x hr2 h
    obtain ⟨g3, h⟩ := gd_some h
    refine x_alenv (pc := 33) (t0 := 0) hC dX9_keepIfCheaper_33 g3 (by decide) (fun _ => rfl) (fun x4 hx4 => ?_)
    replace h := lt_x hx4 h
    refine x_icmp_ge (pc := 34) hC 64 dX9_keepIfCheaper_34 (by decide) (fun c24 => ?_) (fun c24 => ?_)
    · rw [if_pos c24] at h
      refine x_pick [] rfl ?_
      exact t_X9_keepIfCheaper_64 hls hC hl hE h
    · rw [if_neg c24] at h
      refine x_iload_n (pc := 37) hC 1 dX9_keepIfCheaper_37 rfl rfl ?_
      refine x_aload_n (pc := 38) hC 0 dX9_keepIfCheaper_38 rfl rfl ?_
      refine x_getRv (pc := 39) (k := 2) hC fc_15 fl_RX9_19 dX9_keepIfCheaper_39 rfl g1 (fun r5 hr5 => ?_)
      replace h := lt_x hr5 h
      obtain ⟨g6, h⟩ := gd_some h
      refine x_alenv (pc := 42) (t0 := 0) hC dX9_keepIfCheaper_42 g6 (by decide) (fun _ => rfl) (fun x7 hx7 => ?_)
      replace h := lt_x hx7 h
      refine x_icmp_ge (pc := 43) hC 64 dX9_keepIfCheaper_43 (by decide) (fun c23 => ?_) (fun c23 => ?_)
      · rw [if_pos c23] at h
        refine x_pick [] rfl ?_
        exact t_X9_keepIfCheaper_64 hls hC hl hE h
      · rw [if_neg c23] at h
        refine x_aload_n (pc := 46) hC 0 dX9_keepIfCheaper_46 rfl rfl ?_
        refine x_getRv (pc := 47) (k := 2) hC fc_15 fl_RX9_19 dX9_keepIfCheaper_47 rfl g1 (fun r8 hr8 => ?_)
        replace h := lt_x hr8 h
        refine x_iload_n (pc := 50) hC 1 dX9_keepIfCheaper_50 rfl rfl ?_
        refine x_aload_n (pc := 51) hC 0 dX9_keepIfCheaper_51 rfl rfl ?_
        refine x_getRv (pc := 52) (k := 1) hC fc_15 fl_RX9_15 dX9_keepIfCheaper_52 rfl g1 (fun r9 hr9 => ?_)
        replace h := lt_x hr9 h
        refine x_iload_n (pc := 55) hC 1 dX9_keepIfCheaper_55 rfl rfl ?_
        obtain ⟨g12, h⟩ := gd_some h
        obtain ⟨g11, h⟩ := gd_some h
        refine x_ialdv (pc := 56) hC dX9_keepIfCheaper_56 g12 g11 (fun x13 hx13 => ?_)
        replace h := lt_x hx13 h
        obtain ⟨g15, h⟩ := gd_some h
        obtain ⟨g14, h⟩ := gd_some h
        refine x_iastv (pc := 57) hC dX9_keepIfCheaper_57 g15 g14 (fun S16 hS16 => ?_)
        replace h := zI_x hS16 h
        have g17 : gK S16 a0 = 15 := by rw [hS16]; exact g1
        have g18 : gK S16 r2 = 30 := by rw [hS16]; exact g3
        have g19 : gK S16 r5 = 30 := by rw [hS16]; exact g6
        have g20 : gK S16 r9 = 30 := by rw [hS16]; exact g12
        have g21 : gK S16 r8 = 30 := by rw [hS16]; exact g15
        obtain ⟨x22, hx22⟩ : ∃ z, z = (a2 + Int32.ofInt (1)) := ⟨_, rfl⟩
        replace h := lt_x hx22 h
        refine x_iinc (pc := 58) hC 1 dX9_keepIfCheaper_58 rfl hx22.symm (by decide) (by decide) rfl ?_
        refine x_goto (pc := 61) hC 28 dX9_keepIfCheaper_61 (by decide) ?_
        refine x_pick [1, 0] rfl ?_
        exact ih _ _ _ h
def f_X9_keepIfCheaper_16  (S : mS) (a0 : Nat) (a1 : Int32) : Option (Rs Unit) :=
  gd (gK S a0 = 15) (zI (sI S a0 4 (1 : Int32)) fun S2 => zI (sI S2 a0 5 a1) fun S4 => f_X9_keepIfCheaper_28  16 S4 a0 (0 : Int32))
set_option maxHeartbeats 2000000 in
set_option maxRecDepth 100000 in
theorem t_X9_keepIfCheaper_16 {l : Launch} (hls : l.stackTraces = false) {C : cT} (hC : CX C cX9_keepIfCheaper 3 yX9_keepIfCheaper rm_X9_keepIfCheaper) (hl : C.2.1 = l) {S0 : mS} (hE : CE C S0 (Option.none : Option Jvm.ClassFile.FieldType) []) {o : Rs Unit} {S : mS} {a0 : Nat} {a1 : Int32} (h : f_X9_keepIfCheaper_16  S a0 a1 = some o) : XX C 3 (QQ C (fun _ : Unit => none) S0 o) (0) (0) S 16 [(0, .ref a0), (1, .int a1)] [] := by
  unfold f_X9_keepIfCheaper_16 at h
  refine x_aload_n (pc := 16) hC 0 dX9_keepIfCheaper_16 rfl rfl ?_
  refine x_iconst (pc := 17) (v := (1 : Int32)) hC dX9_keepIfCheaper_17 (by decide) ?_
  obtain ⟨g1, h⟩ := gd_some h
  refine x_putIv (pc := 18) (k := 4) hC fc_15 fl_RX9_26 dX9_keepIfCheaper_18 rfl rfl (show NF .boolean _ from ⟨rfl, rfl⟩) g1 (fun S2 hS2 => ?_)
  replace h := zI_x hS2 h
  have g3 : gK S2 a0 = 15 := by rw [hS2]; exact g1
  refine x_aload_n (pc := 21) hC 0 dX9_keepIfCheaper_21 rfl rfl ?_
  refine x_iload_n (pc := 22) hC 1 dX9_keepIfCheaper_22 rfl rfl ?_
  refine x_putIv (pc := 23) (k := 5) hC fc_15 fl_RX9_67 dX9_keepIfCheaper_23 rfl rfl (nf_int _) g3 (fun S4 hS4 => ?_)
  replace h := zI_x hS4 h
  have g5 : gK S4 a0 = 15 := by rw [hS4]; exact g3
  refine x_iconst (pc := 26) (v := (0 : Int32)) hC dX9_keepIfCheaper_26 (by decide) ?_
  refine x_istore_n (pc := 27) hC dX9_keepIfCheaper_27 rfl (by decide) (by decide) rfl ?_
  refine x_pick [1, 0] rfl ?_
  exact t_X9_keepIfCheaper_28 hls hC hl hE 16 _ _ _ h
def f_X9_keepIfCheaper (S : mS) (a0 : Nat) (a1 : Int32) : Option (Rs Unit) :=
  gd (gK S a0 = 15) (lt9 (gI S a0 4) fun x2 => if x2 = 0 then (f_X9_keepIfCheaper_16  S a0 a1) else (lt9 (gI S a0 5) fun x3 => if a1 < x3 then (f_X9_keepIfCheaper_16  S a0 a1) else (some (.inl (), S))))
set_option maxHeartbeats 2000000 in
set_option maxRecDepth 100000 in
theorem t_X9_keepIfCheaper {l : Launch} (hls : l.stackTraces = false) {C : cT} (hC : CX C cX9_keepIfCheaper 3 yX9_keepIfCheaper rm_X9_keepIfCheaper) (hl : C.2.1 = l) {S0 : mS} (hE : CE C S0 (Option.none : Option Jvm.ClassFile.FieldType) []) {o : Rs Unit} {S : mS} {a0 : Nat} {a1 : Int32} (h : f_X9_keepIfCheaper S a0 a1 = some o) : XX C 3 (QQ C (fun _ : Unit => none) S0 o) 0 0 S 0 [(0, .ref a0), (1, .int a1)] [] := by
  unfold f_X9_keepIfCheaper at h
  refine x_aload_n (pc := 0) hC 0 dX9_keepIfCheaper_0 rfl rfl ?_
  obtain ⟨g1, h⟩ := gd_some h
  refine x_getIv (pc := 1) (k := 4) hC fc_15 fl_RX9_26 dX9_keepIfCheaper_1 rfl g1 (fun x2 hx2 => ?_)
  replace h := lt_x hx2 h
  refine x_if_eq (pc := 4) hC 16 dX9_keepIfCheaper_4 (by decide) (fun c5 => ?_) (fun c5 => ?_)
  · rw [if_pos c5] at h
    refine x_pick [0, 1] rfl ?_
    exact t_X9_keepIfCheaper_16 hls hC hl hE h
  · rw [if_neg c5] at h
    refine x_iload_n (pc := 7) hC 1 dX9_keepIfCheaper_7 rfl rfl ?_
    refine x_aload_n (pc := 8) hC 0 dX9_keepIfCheaper_8 rfl rfl ?_
    refine x_getIv (pc := 9) (k := 5) hC fc_15 fl_RX9_67 dX9_keepIfCheaper_9 rfl g1 (fun x3 hx3 => ?_)
    replace h := lt_x hx3 h
    refine x_icmp_lt (pc := 12) hC 16 dX9_keepIfCheaper_12 (by decide) (fun c4 => ?_) (fun c4 => ?_)
    · rw [if_pos c4] at h
      refine x_pick [0, 1] rfl ?_
      exact t_X9_keepIfCheaper_16 hls hC hl hE h
    · rw [if_neg c4] at h
      exact x_vreturn (pc := 15) hC hE dX9_keepIfCheaper_15 (so h) (Nat.le_of_ble_eq_true rfl) (Nat.le_of_ble_eq_true rfl)
theorem c_X9_keepIfCheaper (l : Launch) (hls : l.stackTraces = false) {S : mS} {a0 : Nat} {a1 : Int32} {o : Rs Unit} (h : f_X9_keepIfCheaper S a0 a1 = some o) : CT (fun _ : Unit => none) l yX9_keepIfCheaper (.code yX9_keepIfCheaper cX9_keepIfCheaper 3 (Option.none : Option Jvm.ClassFile.FieldType)) rm_X9_keepIfCheaper S [.ref a0, .int a1] o := ct_of (by decide +kernel) hls (Nat.le_of_ble_eq_true rfl) (fun C hl hC hE => t_X9_keepIfCheaper hls hC hl hE h)
abbrev rm_X9_wantedDiscs : Room := { frames := 9, cells := 0, slots := 0, locals := 172 }
def f_X9_wantedDiscs_61 (rc4 : mS → Nat → Int32 → Int32 → Option (Rs Int32)) (S : mS) (a0 : Nat) (a1 : Int32) (a2 : Int32) : Option (Rs Int32) :=
  lt9 (a2 + Int32.ofInt (1)) fun x1 => rc4 S a0 a1 x1
set_option maxHeartbeats 2000000 in
set_option maxRecDepth 100000 in
theorem t_X9_wantedDiscs_61 {l : Launch} (hls : l.stackTraces = false) {C : cT} (hC : CX C cX9_wantedDiscs 4 yX9_wantedDiscs rm_X9_wantedDiscs) (hl : C.2.1 = l) {S0 : mS} (hE : CE C S0 (Option.some Jvm.ClassFile.FieldType.int) []) {o : Rs Int32} {rc4 : mS → Nat → Int32 → Int32 → Option (Rs Int32)} (hrc4 : ∀ (S : mS) (a0 : Nat) (a1 : Int32) (a2 : Int32), rc4 S a0 a1 a2 = some o → XX C 4 (QQ C (fun r : Int32 => some (.int r)) S0 o) (0) (0) S 4 [(0, .ref a0), (1, .int a1), (2, .int a2)] []) {S : mS} {a0 : Nat} {a1 : Int32} {a2 : Int32} (h : f_X9_wantedDiscs_61 rc4 S a0 a1 a2 = some o) : XX C 4 (QQ C (fun r : Int32 => some (.int r)) S0 o) (0) (0) S 61 [(0, .ref a0), (1, .int a1), (2, .int a2)] [] := by
  unfold f_X9_wantedDiscs_61 at h
  obtain ⟨x1, hx1⟩ : ∃ z, z = (a2 + Int32.ofInt (1)) := ⟨_, rfl⟩
  replace h := lt_x hx1 h
  refine x_iinc (pc := 61) hC 2 dX9_wantedDiscs_61 rfl hx1.symm (by decide) (by decide) rfl ?_
  refine x_goto (pc := 64) hC 4 dX9_wantedDiscs_64 (by decide) ?_
  refine x_pick [1, 2, 0] rfl ?_
  exact hrc4 _ _ _ _ h
def f_X9_wantedDiscs_4  : Nat → mS → Nat → Int32 → Int32 → Option (Rs Int32)
  | 0, _, _, _, _ => none
  | k + 1, S, a0, a1, a2 => gd (gK S a0 = 15) (lt9 (gR S a0 0) fun r2 => gd (gK S r2 = 14) (lt9 (gI S r2 4) fun x4 => if x4 ≤ a2 then (some (.inl a1, S)) else (lt9 (gR S a0 0) fun r5 => gd (gK S r5 = 14) (bd (f_X8_discAt S r5 a2) fun r7 S8 => if r7 = 0 then (f_X9_wantedDiscs_61 (f_X9_wantedDiscs_4 k) S8 a0 a1 a2) else (gd (gK S8 r7 = 8) (lt9 (gI S8 r7 8) fun x12 => if x12 = 0 then (bd (f_X2_wholeSeconds S8 r7) fun x13 S14 => if (10 : Int32) ≤ x13 then (f_X9_wantedDiscs_61 (f_X9_wantedDiscs_4 k) S14 a0 a1 a2) else (gd (gK S14 a0 = 15) (lt9 (gR S14 a0 0) fun r18 => gd (gK S14 r18 = 14) (bd (f_X8_isOnDeck S14 r18 r7) fun x20 S21 => if x20 = 0 then (lt9 ((1 : Int32) <<< (a2 &&& 31)) fun x24 => lt9 (a1 ||| x24) fun x25 => f_X9_wantedDiscs_61 (f_X9_wantedDiscs_4 k) S21 a0 x25 a2) else (f_X9_wantedDiscs_61 (f_X9_wantedDiscs_4 k) S21 a0 a1 a2))))) else (f_X9_wantedDiscs_61 (f_X9_wantedDiscs_4 k) S8 a0 a1 a2)))))))
set_option maxHeartbeats 2000000 in
set_option maxRecDepth 100000 in
theorem t_X9_wantedDiscs_4 {l : Launch} (hls : l.stackTraces = false) {C : cT} (hC : CX C cX9_wantedDiscs 4 yX9_wantedDiscs rm_X9_wantedDiscs) (hl : C.2.1 = l) {S0 : mS} (hE : CE C S0 (Option.some Jvm.ClassFile.FieldType.int) []) {o : Rs Int32} : ∀ (k : Nat) (S : mS) (a0 : Nat) (a1 : Int32) (a2 : Int32), f_X9_wantedDiscs_4  k S a0 a1 a2 = some o → XX C 4 (QQ C (fun r : Int32 => some (.int r)) S0 o) (0) (0) S 4 [(0, .ref a0), (1, .int a1), (2, .int a2)] [] := by
  intro k
  induction k with
  | zero => intro S a0 a1 a2 h; cases h
  | succ k ih =>
    intro S a0 a1 a2 h
    unfold f_X9_wantedDiscs_4 at h
    refine x_iload_n (pc := 4) hC 2 dX9_wantedDiscs_4 rfl rfl ?_
    refine x_aload_n (pc := 5) hC 0 dX9_wantedDiscs_5 rfl rfl ?_
    obtain ⟨g1, h⟩ := gd_some h
    refine x_getRv (pc := 6) (k := 0) hC fc_15 fl_RX9_9 dX9_wantedDiscs_6 rfl g1 (fun r2 hr2 => ?_)
    replace h := lt_x hr2 h
    obtain ⟨g3, h⟩ := gd_some h
    refine x_getIv (pc := 9) (k := 4) hC fc_14 fl_RX9_42 dX9_wantedDiscs_9 rfl g3 (fun x4 hx4 => ?_)
    replace h := lt_x hx4 h
    refine x_icmp_ge (pc := 12) hC 67 dX9_wantedDiscs_12 (by decide) (fun c30 => ?_) (fun c30 => ?_)
    · rw [if_pos c30] at h
      refine x_iload_n (pc := 67) hC 1 dX9_wantedDiscs_67 rfl rfl ?_
      exact x_ireturn (pc := 68) hC hE dX9_wantedDiscs_68 (so h) (Nat.le_of_ble_eq_true rfl) (Nat.le_of_ble_eq_true rfl)
    · rw [if_neg c30] at h
      refine x_aload_n (pc := 15) hC 0 dX9_wantedDiscs_15 rfl rfl ?_
      refine x_getRv (pc := 16) (k := 0) hC fc_15 fl_RX9_9 dX9_wantedDiscs_16 rfl g1 (fun r5 hr5 => ?_)
      replace h := lt_x hr5 h
      refine x_iload_n (pc := 19) hC 2 dX9_wantedDiscs_19 rfl rfl ?_
      obtain ⟨g6, h⟩ := gd_some h
      obtain ⟨o9, ho9, h⟩ := bd_some h
      refine x_callV (pc := 20) (As := [.int a2]) (rest := []) hC hl (c_X8_discAt l hls ho9) lk_RX9_47 fc_14 g6 dX9_wantedDiscs_20 rfl rfl (Nat.le_of_ble_eq_true rfl) ⟨Nat.le_of_ble_eq_true rfl, Nat.le_of_ble_eq_true rfl⟩ ⟨(Nat.le_of_ble_eq_true rfl), (Nat.le_of_ble_eq_true rfl)⟩ ?_
      rcases o9 with ⟨r7 | E10, S8⟩
      · refine xk_a ?_
        replace h := bk_l h
        refine x_astore_n (pc := 23) hC dX9_wantedDiscs_23 rfl (by decide) (by decide) rfl ?_
        refine x_aload_n (pc := 24) hC 0 dX9_wantedDiscs_24 rfl rfl ?_
        refine x_ifnull (pc := 25) hC 61 dX9_wantedDiscs_25 (by decide) (fun c29 => ?_) (fun c29 => ?_)
        · rw [if_pos c29] at h
          refine x_pick [1, 2, 3] rfl ?_
          exact t_X9_wantedDiscs_61 hls hC hl hE (fun z0 z1 z2 z3 hz => ih z0 z1 z2 z3 hz) h
        · rw [if_neg c29] at h
          refine x_aload_n (pc := 28) hC 0 dX9_wantedDiscs_28 rfl rfl ?_
          obtain ⟨g11, h⟩ := gd_some h
          refine x_getIv (pc := 29) (k := 8) hC fc_8 fl_RX9_57 dX9_wantedDiscs_29 rfl g11 (fun x12 hx12 => ?_)
          replace h := lt_x hx12 h
          refine x_if_ne (pc := 32) hC 61 dX9_wantedDiscs_32 (by decide) (fun c28 => ?_) (fun c28 => ?_)
          · rw [if_neg c28] at h
            refine x_pick [1, 2, 3] rfl ?_
            exact t_X9_wantedDiscs_61 hls hC hl hE (fun z0 z1 z2 z3 hz => ih z0 z1 z2 z3 hz) h
          · rw [if_pos c28] at h
            refine x_aload_n (pc := 35) hC 0 dX9_wantedDiscs_35 rfl rfl ?_
            obtain ⟨o15, ho15, h⟩ := bd_some h
            refine x_callV (pc := 36) (As := []) (rest := []) hC hl (c_X2_wholeSeconds l hls ho15) lk_RX9_60 fc_8 g11 dX9_wantedDiscs_36 rfl rfl (Nat.le_of_ble_eq_true rfl) ⟨Nat.le_of_ble_eq_true rfl, Nat.le_of_ble_eq_true rfl⟩ ⟨(Nat.le_of_ble_eq_true rfl), (Nat.le_of_ble_eq_true rfl)⟩ ?_
            rcases o15 with ⟨x13 | E16, S14⟩
            · refine xk_i ?_
              replace h := bk_l h
              refine x_bipush (pc := 39) (v := (10 : Int32)) hC dX9_wantedDiscs_39 (by decide) ?_
              refine x_icmp_ge (pc := 41) hC 61 dX9_wantedDiscs_41 (by decide) (fun c27 => ?_) (fun c27 => ?_)
              · rw [if_pos c27] at h
                refine x_pick [1, 2, 3] rfl ?_
                exact t_X9_wantedDiscs_61 hls hC hl hE (fun z0 z1 z2 z3 hz => ih z0 z1 z2 z3 hz) h
              · rw [if_neg c27] at h
                refine x_aload_n (pc := 44) hC 1 dX9_wantedDiscs_44 rfl rfl ?_
                obtain ⟨g17, h⟩ := gd_some h
                refine x_getRv (pc := 45) (k := 0) hC fc_15 fl_RX9_9 dX9_wantedDiscs_45 rfl g17 (fun r18 hr18 => ?_)
                replace h := lt_x hr18 h
                refine x_aload_n (pc := 48) hC 0 dX9_wantedDiscs_48 rfl rfl ?_
                obtain ⟨g19, h⟩ := gd_some h
                obtain ⟨o22, ho22, h⟩ := bd_some h
                refine x_callV (pc := 49) (As := [.ref r7]) (rest := []) hC hl (c_X8_isOnDeck l hls ho22) lk_RX9_63 fc_14 g19 dX9_wantedDiscs_49 rfl rfl (Nat.le_of_ble_eq_true rfl) ⟨Nat.le_of_ble_eq_true rfl, Nat.le_of_ble_eq_true rfl⟩ ⟨(Nat.le_of_ble_eq_true rfl), (Nat.le_of_ble_eq_true rfl)⟩ ?_
                rcases o22 with ⟨x20 | E23, S21⟩
                · refine xk_i ?_
                  replace h := bk_l h
                  refine x_if_ne (pc := 52) hC 61 dX9_wantedDiscs_52 (by decide) (fun c26 => ?_) (fun c26 => ?_)
                  · rw [if_neg c26] at h
                    refine x_pick [1, 2, 3] rfl ?_
                    exact t_X9_wantedDiscs_61 hls hC hl hE (fun z0 z1 z2 z3 hz => ih z0 z1 z2 z3 hz) h
                  · rw [if_pos c26] at h
                    refine x_iload_n (pc := 55) hC 2 dX9_wantedDiscs_55 rfl rfl ?_
                    refine x_iconst (pc := 56) (v := (1 : Int32)) hC dX9_wantedDiscs_56 (by decide) ?_
                    refine x_iload_n (pc := 57) hC 3 dX9_wantedDiscs_57 rfl rfl ?_
                    refine x_ishlv (pc := 58) hC dX9_wantedDiscs_58 (fun x24 hx24 => ?_)
                    replace h := lt_x hx24 h
                    refine x_iorv (pc := 59) hC dX9_wantedDiscs_59 (fun x25 hx25 => ?_)
                    replace h := lt_x hx25 h
                    refine x_istore_n (pc := 60) hC dX9_wantedDiscs_60 rfl (by decide) (by decide) rfl ?_
                    refine x_pick [2, 0, 3] rfl ?_
                    exact t_X9_wantedDiscs_61 hls hC hl hE (fun z0 z1 z2 z3 hz => ih z0 z1 z2 z3 hz) h
                · exact xk_r (xt_out hC hE (bk_r h) (Nat.le_of_ble_eq_true rfl) (Nat.le_of_ble_eq_true rfl))
            · exact xk_r (xt_out hC hE (bk_r h) (Nat.le_of_ble_eq_true rfl) (Nat.le_of_ble_eq_true rfl))
      · exact xk_r (xt_out hC hE (bk_r h) (Nat.le_of_ble_eq_true rfl) (Nat.le_of_ble_eq_true rfl))
def f_X9_wantedDiscs (S : mS) (a0 : Nat) : Option (Rs Int32) :=
  f_X9_wantedDiscs_4  16 S a0 (0 : Int32) (0 : Int32)
set_option maxHeartbeats 2000000 in
set_option maxRecDepth 100000 in
theorem t_X9_wantedDiscs {l : Launch} (hls : l.stackTraces = false) {C : cT} (hC : CX C cX9_wantedDiscs 4 yX9_wantedDiscs rm_X9_wantedDiscs) (hl : C.2.1 = l) {S0 : mS} (hE : CE C S0 (Option.some Jvm.ClassFile.FieldType.int) []) {o : Rs Int32} {S : mS} {a0 : Nat} (h : f_X9_wantedDiscs S a0 = some o) : XX C 4 (QQ C (fun r : Int32 => some (.int r)) S0 o) 0 0 S 0 [(0, .ref a0)] [] := by
  unfold f_X9_wantedDiscs at h
  refine x_iconst (pc := 0) (v := (0 : Int32)) hC dX9_wantedDiscs_0 (by decide) ?_
  refine x_istore_n (pc := 1) hC dX9_wantedDiscs_1 rfl (by decide) (by decide) rfl ?_
  refine x_iconst (pc := 2) (v := (0 : Int32)) hC dX9_wantedDiscs_2 (by decide) ?_
  refine x_istore_n (pc := 3) hC dX9_wantedDiscs_3 rfl (by decide) (by decide) rfl ?_
  refine x_pick [2, 1, 0] rfl ?_
  exact t_X9_wantedDiscs_4 hls hC hl hE 16 _ _ _ _ h
theorem c_X9_wantedDiscs (l : Launch) (hls : l.stackTraces = false) {S : mS} {a0 : Nat} {o : Rs Int32} (h : f_X9_wantedDiscs S a0 = some o) : CT (fun r : Int32 => some (.int r)) l yX9_wantedDiscs (.code yX9_wantedDiscs cX9_wantedDiscs 4 (Option.some Jvm.ClassFile.FieldType.int)) rm_X9_wantedDiscs S [.ref a0] o := ct_of (by decide +kernel) hls (Nat.le_of_ble_eq_true rfl) (fun C hl hC hE => t_X9_wantedDiscs hls hC hl hE h)
abbrev rm_X9_look : Room := { frames := 10, cells := 0, slots := 0, locals := 195 }
def f_X9_look (S : mS) (a0 : Nat) (a1 : Nat) (a2 : Int32) : Option (Rs Int32) :=
  gd (gK S a0 = 15) (zI (sI S a0 3 a2) fun S2 => zI (sI S2 a0 4 (0 : Int32)) fun S4 => bd (f_X9_wantedDiscs S4 a0) fun x6 S7 => none)
set_option maxHeartbeats 2000000 in
set_option maxRecDepth 100000 in
theorem t_X9_look {l : Launch} (hls : l.stackTraces = false) {C : cT} (hC : CX C cX9_look 3 yX9_look rm_X9_look) (hl : C.2.1 = l) {S0 : mS} (hE : CE C S0 (Option.some Jvm.ClassFile.FieldType.boolean) []) {o : Rs Int32} {S : mS} {a0 : Nat} {a1 : Nat} {a2 : Int32} (h : f_X9_look S a0 a1 a2 = some o) : XX C 3 (QQ C (fun r : Int32 => some (.int r)) S0 o) 0 0 S 0 [(0, .ref a0), (1, .ref a1), (2, .int a2)] [] := by
  unfold f_X9_look at h
  refine x_aload_n (pc := 0) hC 0 dX9_look_0 rfl rfl ?_
  refine x_iload_n (pc := 1) hC 2 dX9_look_1 rfl rfl ?_
  obtain ⟨g1, h⟩ := gd_some h
  refine x_putIv (pc := 2) (k := 3) hC fc_15 fl_RX9_22 dX9_look_2 rfl rfl (nf_int _) g1 (fun S2 hS2 => ?_)
  replace h := zI_x hS2 h
  have g3 : gK S2 a0 = 15 := by rw [hS2]; exact g1
  refine x_aload_n (pc := 5) hC 0 dX9_look_5 rfl rfl ?_
  refine x_iconst (pc := 6) (v := (0 : Int32)) hC dX9_look_6 (by decide) ?_
  refine x_putIv (pc := 7) (k := 4) hC fc_15 fl_RX9_26 dX9_look_7 rfl rfl (show NF .boolean _ from ⟨rfl, rfl⟩) g3 (fun S4 hS4 => ?_)
  replace h := zI_x hS4 h
  have g5 : gK S4 a0 = 15 := by rw [hS4]; exact g3
  refine x_aload_n (pc := 10) hC 0 dX9_look_10 rfl rfl ?_
  refine x_aload_n (pc := 11) hC 1 dX9_look_11 rfl rfl ?_
  refine x_iconst (pc := 12) (v := (0 : Int32)) hC dX9_look_12 (by decide) ?_
  refine x_aload_n (pc := 13) hC 0 dX9_look_13 rfl rfl ?_
  obtain ⟨o8, ho8, h⟩ := bd_some h
  refine x_callV (pc := 14) (As := []) (rest := [.int (0 : Int32), .ref a1, .ref a0]) hC hl (c_X9_wantedDiscs l hls ho8) lk_RX9_30 fc_15 g5 dX9_look_14 rfl rfl (Nat.le_of_ble_eq_true rfl) ⟨Nat.le_of_ble_eq_true rfl, Nat.le_of_ble_eq_true rfl⟩ ⟨(Nat.le_of_ble_eq_true rfl), (Nat.le_of_ble_eq_true rfl)⟩ ?_
  rcases o8 with ⟨x6 | E9, S7⟩
  · refine xk_i ?_
    replace h := bk_l h
    refine x_iconst (pc := 17) (v := (0 : Int32)) hC dX9_look_17 (by decide) ?_
    cases h
  · exact xk_r (xt_out hC hE (bk_r h) (Nat.le_of_ble_eq_true rfl) (Nat.le_of_ble_eq_true rfl))
theorem c_X9_look (l : Launch) (hls : l.stackTraces = false) {S : mS} {a0 : Nat} {a1 : Nat} {a2 : Int32} {o : Rs Int32} (h : f_X9_look S a0 a1 a2 = some o) : CT (fun r : Int32 => some (.int r)) l yX9_look (.code yX9_look cX9_look 3 (Option.some Jvm.ClassFile.FieldType.boolean)) rm_X9_look S [.ref a0, .ref a1, .int a2] o := ct_of (by decide +kernel) hls (Nat.le_of_ble_eq_true rfl) (fun C hl hC hE => t_X9_look hls hC hl hE h)
abbrev rm_X9_firstOfRow : Room := { frames := 8, cells := 0, slots := 0, locals := 150 }
def f_X9_firstOfRow_18  (S : mS) (s0 : Int32) : Option (Rs Int32) :=
  some (.inl s0, S)
set_option maxHeartbeats 2000000 in
set_option maxRecDepth 100000 in
theorem t_X9_firstOfRow_18 {l : Launch} (hls : l.stackTraces = false) {C : cT} (hC : CX C cX9_firstOfRow 1 yX9_firstOfRow rm_X9_firstOfRow) (hl : C.2.1 = l) {S0 : mS} (hE : CE C S0 (Option.some Jvm.ClassFile.FieldType.int) []) {o : Rs Int32} {S : mS} {s0 : Int32} (h : f_X9_firstOfRow_18  S s0 = some o) : XX C 1 (QQ C (fun r : Int32 => some (.int r)) S0 o) (0) (0) S 18 [] [.int s0] := by
  unfold f_X9_firstOfRow_18 at h
  exact x_ireturn (pc := 18) hC hE dX9_firstOfRow_18 (so h) (Nat.le_of_ble_eq_true rfl) (Nat.le_of_ble_eq_true rfl)
def f_X9_firstOfRow (S : mS) (a0 : Nat) : Option (Rs Int32) :=
  gd (gK S a0 = 15) (lt9 (gR S a0 2) fun r2 => gd (gK S r2 = 30) (lt9 (Int32.ofNat (gZ S r2)) fun x4 => if x4 ≤ 0 then (f_X9_firstOfRow_18  S (-1 : Int32)) else (lt9 (gR S a0 2) fun r5 => gd (gK S r5 = 30) (gd (¬ ((0 : Int32) < 0 ∨ gZ S r5 ≤ ((0 : Int32)).toNatClampNeg)) (lt9 (gI S r5 ((0 : Int32)).toNatClampNeg) fun x9 => f_X9_firstOfRow_18  S x9)))))
set_option maxHeartbeats 2000000 in
set_option maxRecDepth 100000 in
theorem t_X9_firstOfRow {l : Launch} (hls : l.stackTraces = false) {C : cT} (hC : CX C cX9_firstOfRow 1 yX9_firstOfRow rm_X9_firstOfRow) (hl : C.2.1 = l) {S0 : mS} (hE : CE C S0 (Option.some Jvm.ClassFile.FieldType.int) []) {o : Rs Int32} {S : mS} {a0 : Nat} (h : f_X9_firstOfRow S a0 = some o) : XX C 1 (QQ C (fun r : Int32 => some (.int r)) S0 o) 0 0 S 0 [(0, .ref a0)] [] := by
  unfold f_X9_firstOfRow at h
  refine x_aload_n (pc := 0) hC 0 dX9_firstOfRow_0 rfl rfl ?_
  obtain ⟨g1, h⟩ := gd_some h
  refine x_getRv (pc := 1) (k := 2) hC fc_15 fl_RX9_19 dX9_firstOfRow_1 rfl g1 (fun r2 hr2 => ?_)
  replace h := lt_x hr2 h
  obtain ⟨g3, h⟩ := gd_some h
  refine x_alenv (pc := 4) (t0 := 0) hC dX9_firstOfRow_4 g3 (by decide) (fun _ => rfl) (fun x4 hx4 => ?_)
  replace h := lt_x hx4 h
  refine x_if_le (pc := 5) hC 17 dX9_firstOfRow_5 (by decide) (fun c10 => ?_) (fun c10 => ?_)
  · rw [if_pos c10] at h
    refine x_iconst (pc := 17) (v := (-1 : Int32)) hC dX9_firstOfRow_17 (by decide) ?_
    refine x_pick [] rfl ?_
    exact t_X9_firstOfRow_18 hls hC hl hE h
  · rw [if_neg c10] at h
    refine x_aload_n (pc := 8) hC 0 dX9_firstOfRow_8 rfl rfl ?_
    refine x_getRv (pc := 9) (k := 2) hC fc_15 fl_RX9_19 dX9_firstOfRow_9 rfl g1 (fun r5 hr5 => ?_)
    replace h := lt_x hr5 h
    refine x_iconst (pc := 12) (v := (0 : Int32)) hC dX9_firstOfRow_12 (by decide) ?_
    obtain ⟨g8, h⟩ := gd_some h
    obtain ⟨g7, h⟩ := gd_some h
    refine x_ialdv (pc := 13) hC dX9_firstOfRow_13 g8 g7 (fun x9 hx9 => ?_)
    replace h := lt_x hx9 h
    refine x_goto (pc := 14) hC 18 dX9_firstOfRow_14 (by decide) ?_
    refine x_pick [] rfl ?_
    exact t_X9_firstOfRow_18 hls hC hl hE h
theorem c_X9_firstOfRow (l : Launch) (hls : l.stackTraces = false) {S : mS} {a0 : Nat} {o : Rs Int32} (h : f_X9_firstOfRow S a0 = some o) : CT (fun r : Int32 => some (.int r)) l yX9_firstOfRow (.code yX9_firstOfRow cX9_firstOfRow 1 (Option.some Jvm.ClassFile.FieldType.int)) rm_X9_firstOfRow S [.ref a0] o := ct_of (by decide +kernel) hls (Nat.le_of_ble_eq_true rfl) (fun C hl hC hE => t_X9_firstOfRow hls hC hl hE h)
abbrev rm_X9_costOfRow : Room := { frames := 11, cells := 0, slots := 0, locals := 218 }
def f_X9_costOfRow_65  (S : mS) (a2 : Int32) : Option (Rs Int32) :=
  some (.inl a2, S)
set_option maxHeartbeats 2000000 in
set_option maxRecDepth 100000 in
theorem t_X9_costOfRow_65 {l : Launch} (hls : l.stackTraces = false) {C : cT} (hC : CX C cX9_costOfRow 6 yX9_costOfRow rm_X9_costOfRow) (hl : C.2.1 = l) {S0 : mS} (hE : CE C S0 (Option.some Jvm.ClassFile.FieldType.int) []) {o : Rs Int32} {S : mS} {a2 : Int32} (h : f_X9_costOfRow_65  S a2 = some o) : XX C 6 (QQ C (fun r : Int32 => some (.int r)) S0 o) (0) (0) S 65 [(2, .int a2)] [] := by
  unfold f_X9_costOfRow_65 at h
  refine x_iload_n (pc := 65) hC 0 dX9_costOfRow_65 rfl rfl ?_
  exact x_ireturn (pc := 66) hC hE dX9_costOfRow_66 (so h) (Nat.le_of_ble_eq_true rfl) (Nat.le_of_ble_eq_true rfl)
def f_X9_costOfRow_59 (rc7 : mS → Nat → Int32 → Nat → Int32 → Option (Rs Int32)) (S : mS) (a0 : Nat) (a2 : Int32) (a3 : Nat) (a4 : Int32) : Option (Rs Int32) :=
  lt9 (a4 + Int32.ofInt (1)) fun x1 => rc7 S a0 a2 a3 x1
set_option maxHeartbeats 2000000 in
set_option maxRecDepth 100000 in
theorem t_X9_costOfRow_59 {l : Launch} (hls : l.stackTraces = false) {C : cT} (hC : CX C cX9_costOfRow 6 yX9_costOfRow rm_X9_costOfRow) (hl : C.2.1 = l) {S0 : mS} (hE : CE C S0 (Option.some Jvm.ClassFile.FieldType.int) []) {o : Rs Int32} {rc7 : mS → Nat → Int32 → Nat → Int32 → Option (Rs Int32)} (hrc7 : ∀ (S : mS) (a0 : Nat) (a2 : Int32) (a3 : Nat) (a4 : Int32), rc7 S a0 a2 a3 a4 = some o → XX C 6 (QQ C (fun r : Int32 => some (.int r)) S0 o) (0) (0) S 7 [(0, .ref a0), (2, .int a2), (3, .ref a3), (4, .int a4)] []) {S : mS} {a0 : Nat} {a2 : Int32} {a3 : Nat} {a4 : Int32} (h : f_X9_costOfRow_59 rc7 S a0 a2 a3 a4 = some o) : XX C 6 (QQ C (fun r : Int32 => some (.int r)) S0 o) (0) (0) S 59 [(0, .ref a0), (2, .int a2), (3, .ref a3), (4, .int a4)] [] := by
  unfold f_X9_costOfRow_59 at h
  obtain ⟨x1, hx1⟩ : ∃ z, z = (a4 + Int32.ofInt (1)) := ⟨_, rfl⟩
  replace h := lt_x hx1 h
  refine x_iinc (pc := 59) hC 3 dX9_costOfRow_59 rfl hx1.symm (by decide) (by decide) rfl ?_
  refine x_goto (pc := 62) hC 7 dX9_costOfRow_62 (by decide) ?_
  refine x_pick [1, 2, 3, 0] rfl ?_
  exact hrc7 _ _ _ _ _ h
def f_X9_costOfRow_7  : Nat → mS → Nat → Int32 → Nat → Int32 → Option (Rs Int32)
  | 0, _, _, _, _, _ => none
  | k + 1, S, a0, a2, a3, a4 => gd (gK S a0 = 15) (lt9 (gI S a0 3) fun x2 => if x2 ≤ a4 then (f_X9_costOfRow_65  S a2) else (lt9 (gR S a0 2) fun r3 => gd (gK S r3 = 30) (lt9 (Int32.ofNat (gZ S r3)) fun x5 => if x5 ≤ a4 then (f_X9_costOfRow_65  S a2) else (lt9 (gR S a0 0) fun r6 => lt9 (gR S a0 2) fun r7 => gd (gK S r7 = 30) (gd (¬ (a4 < 0 ∨ gZ S r7 ≤ (a4).toNatClampNeg)) (lt9 (gI S r7 (a4).toNatClampNeg) fun x11 => gd (gK S r6 = 14) (bd (f_X8_discAt S r6 x11) fun r13 S14 => if r13 = 0 then (f_X9_costOfRow_59 (f_X9_costOfRow_7 k) S14 a0 a2 a3 a4) else (gd (gK S14 a3 = 8) (bd (f_X2_stepCost S14 a3 r13) fun x18 S19 => lt9 (a2 + x18) fun x22 => f_X9_costOfRow_59 (f_X9_costOfRow_7 k) S19 a0 x22 r13 a4)))))))))
set_option maxHeartbeats 2000000 in
set_option maxRecDepth 100000 in
theorem t_X9_costOfRow_7 {l : Launch} (hls : l.stackTraces = false) {C : cT} (hC : CX C cX9_costOfRow 6 yX9_costOfRow rm_X9_costOfRow) (hl : C.2.1 = l) {S0 : mS} (hE : CE C S0 (Option.some Jvm.ClassFile.FieldType.int) []) {o : Rs Int32} : ∀ (k : Nat) (S : mS) (a0 : Nat) (a2 : Int32) (a3 : Nat) (a4 : Int32), f_X9_costOfRow_7  k S a0 a2 a3 a4 = some o → XX C 6 (QQ C (fun r : Int32 => some (.int r)) S0 o) (0) (0) S 7 [(0, .ref a0), (2, .int a2), (3, .ref a3), (4, .int a4)] [] := by
  intro k
  induction k with
  | zero => intro S a0 a2 a3 a4 h; cases h
  | succ k ih =>
    intro S a0 a2 a3 a4 h
    unfold f_X9_costOfRow_7 at h
    refine x_iload (pc := 7) hC 3 dX9_costOfRow_7 rfl ?_
    refine x_aload_n (pc := 9) hC 0 dX9_costOfRow_9 rfl rfl ?_
    obtain ⟨g1, h⟩ := gd_some h
    refine x_getIv (pc := 10) (k := 3) hC fc_15 fl_RX9_22 dX9_costOfRow_10 rfl g1 (fun x2 hx2 => ?_)
    replace h := lt_x hx2 h
    refine x_icmp_ge (pc := 13) hC 65 dX9_costOfRow_13 (by decide) (fun c25 => ?_) (fun c25 => ?_)
    · rw [if_pos c25] at h
      refine x_pick [1] rfl ?_
      exact t_X9_costOfRow_65 hls hC hl hE h
    · rw [if_neg c25] at h
      refine x_iload (pc := 16) hC 3 dX9_costOfRow_16 rfl ?_
      refine x_aload_n (pc := 18) hC 0 dX9_costOfRow_18 rfl rfl ?_
      refine x_getRv (pc := 19) (k := 2) hC fc_15 fl_RX9_19 dX9_costOfRow_19 rfl g1 (fun r3 hr3 => ?_)
      replace h := lt_x hr3 h
      obtain ⟨g4, h⟩ := gd_some h
      refine x_alenv (pc := 22) (t0 := 0) hC dX9_costOfRow_22 g4 (by decide) (fun _ => rfl) (fun x5 hx5 => ?_)
      replace h := lt_x hx5 h
      refine x_icmp_ge (pc := 23) hC 65 dX9_costOfRow_23 (by decide) (fun c24 => ?_) (fun c24 => ?_)
      · rw [if_pos c24] at h
        refine x_pick [1] rfl ?_
        exact t_X9_costOfRow_65 hls hC hl hE h
      · rw [if_neg c24] at h
        refine x_aload_n (pc := 26) hC 0 dX9_costOfRow_26 rfl rfl ?_
        refine x_getRv (pc := 27) (k := 0) hC fc_15 fl_RX9_9 dX9_costOfRow_27 rfl g1 (fun r6 hr6 => ?_)
        replace h := lt_x hr6 h
        refine x_aload_n (pc := 30) hC 0 dX9_costOfRow_30 rfl rfl ?_
        refine x_getRv (pc := 31) (k := 2) hC fc_15 fl_RX9_19 dX9_costOfRow_31 rfl g1 (fun r7 hr7 => ?_)
        replace h := lt_x hr7 h
        refine x_iload (pc := 34) hC 3 dX9_costOfRow_34 rfl ?_
        obtain ⟨g10, h⟩ := gd_some h
        obtain ⟨g9, h⟩ := gd_some h
        refine x_ialdv (pc := 36) hC dX9_costOfRow_36 g10 g9 (fun x11 hx11 => ?_)
        replace h := lt_x hx11 h
        obtain ⟨g12, h⟩ := gd_some h
        obtain ⟨o15, ho15, h⟩ := bd_some h
        refine x_callV (pc := 37) (As := [.int x11]) (rest := []) hC hl (c_X8_discAt l hls ho15) lk_RX9_47 fc_14 g12 dX9_costOfRow_37 rfl rfl (Nat.le_of_ble_eq_true rfl) ⟨Nat.le_of_ble_eq_true rfl, Nat.le_of_ble_eq_true rfl⟩ ⟨(Nat.le_of_ble_eq_true rfl), (Nat.le_of_ble_eq_true rfl)⟩ ?_
        rcases o15 with ⟨r13 | E16, S14⟩
        · refine xk_a ?_
          replace h := bk_l h
          refine x_astore (pc := 40) hC dX9_costOfRow_40 (by decide) (by decide) rfl ?_
          refine x_aload (pc := 42) hC 0 dX9_costOfRow_42 rfl ?_
          refine x_ifnull (pc := 44) hC 59 dX9_costOfRow_44 (by decide) (fun c23 => ?_) (fun c23 => ?_)
          · rw [if_pos c23] at h
            refine x_pick [1, 2, 3, 4] rfl ?_
            exact t_X9_costOfRow_59 hls hC hl hE (fun z0 z1 z2 z3 z4 hz => ih z0 z1 z2 z3 z4 hz) h
          · rw [if_neg c23] at h
            refine x_iload_n (pc := 47) hC 2 dX9_costOfRow_47 rfl rfl ?_
            refine x_aload_n (pc := 48) hC 3 dX9_costOfRow_48 rfl rfl ?_
            refine x_aload (pc := 49) hC 0 dX9_costOfRow_49 rfl ?_
            obtain ⟨g17, h⟩ := gd_some h
            obtain ⟨o20, ho20, h⟩ := bd_some h
            refine x_callV (pc := 51) (As := [.ref r13]) (rest := [.int a2]) hC hl (c_X2_stepCost l hls ho20) lk_RX9_51 fc_8 g17 dX9_costOfRow_51 rfl rfl (Nat.le_of_ble_eq_true rfl) ⟨Nat.le_of_ble_eq_true rfl, Nat.le_of_ble_eq_true rfl⟩ ⟨(Nat.le_of_ble_eq_true rfl), (Nat.le_of_ble_eq_true rfl)⟩ ?_
            rcases o20 with ⟨x18 | E21, S19⟩
            · refine xk_i ?_
              replace h := bk_l h
              refine x_iaddv (pc := 54) hC dX9_costOfRow_54 (fun x22 hx22 => ?_)
              replace h := lt_x hx22 h
              refine x_istore_n (pc := 55) hC dX9_costOfRow_55 rfl (by decide) (by decide) rfl ?_
              refine x_aload (pc := 56) hC 1 dX9_costOfRow_56 rfl ?_
              refine x_astore_n (pc := 58) hC dX9_costOfRow_58 rfl (by decide) (by decide) rfl ?_
              refine x_pick [3, 1, 0, 4] rfl ?_
              exact t_X9_costOfRow_59 hls hC hl hE (fun z0 z1 z2 z3 z4 hz => ih z0 z1 z2 z3 z4 hz) h
            · exact xk_r (xt_out hC hE (bk_r h) (Nat.le_of_ble_eq_true rfl) (Nat.le_of_ble_eq_true rfl))
        · exact xk_r (xt_out hC hE (bk_r h) (Nat.le_of_ble_eq_true rfl) (Nat.le_of_ble_eq_true rfl))
def f_X9_costOfRow (S : mS) (a0 : Nat) (a1 : Nat) : Option (Rs Int32) :=
  f_X9_costOfRow_7  16 S a0 (0 : Int32) a1 (0 : Int32)
set_option maxHeartbeats 2000000 in
set_option maxRecDepth 100000 in
theorem t_X9_costOfRow {l : Launch} (hls : l.stackTraces = false) {C : cT} (hC : CX C cX9_costOfRow 6 yX9_costOfRow rm_X9_costOfRow) (hl : C.2.1 = l) {S0 : mS} (hE : CE C S0 (Option.some Jvm.ClassFile.FieldType.int) []) {o : Rs Int32} {S : mS} {a0 : Nat} {a1 : Nat} (h : f_X9_costOfRow S a0 a1 = some o) : XX C 6 (QQ C (fun r : Int32 => some (.int r)) S0 o) 0 0 S 0 [(0, .ref a0), (1, .ref a1)] [] := by
  unfold f_X9_costOfRow at h
  refine x_iconst (pc := 0) (v := (0 : Int32)) hC dX9_costOfRow_0 (by decide) ?_
  refine x_istore_n (pc := 1) hC dX9_costOfRow_1 rfl (by decide) (by decide) rfl ?_
  refine x_aload_n (pc := 2) hC 2 dX9_costOfRow_2 rfl rfl ?_
  refine x_astore_n (pc := 3) hC dX9_costOfRow_3 rfl (by decide) (by decide) rfl ?_
  refine x_iconst (pc := 4) (v := (0 : Int32)) hC dX9_costOfRow_4 (by decide) ?_
  refine x_istore (pc := 5) hC dX9_costOfRow_5 (by decide) (by decide) rfl ?_
  refine x_pick [3, 2, 1, 0] rfl ?_
  exact t_X9_costOfRow_7 hls hC hl hE 16 _ _ _ _ _ h
theorem c_X9_costOfRow (l : Launch) (hls : l.stackTraces = false) {S : mS} {a0 : Nat} {a1 : Nat} {o : Rs Int32} (h : f_X9_costOfRow S a0 a1 = some o) : CT (fun r : Int32 => some (.int r)) l yX9_costOfRow (.code yX9_costOfRow cX9_costOfRow 6 (Option.some Jvm.ClassFile.FieldType.int)) rm_X9_costOfRow S [.ref a0, .ref a1] o := ct_of (by decide +kernel) hls (Nat.le_of_ble_eq_true rfl) (fun C hl hC hE => t_X9_costOfRow hls hC hl hE h)
end P21MIDX
